set_option maxHeartbeats 4000000 in
set_option maxRecDepth 100000 in
theorem r_X6_isFull (l : Launch) (dC : Nat → ClassId) (dI : Nat → Nat → Nat) (cI cZ cL cJ : ClassId) (h : Nat) (bs : Nat) (td : Nat) (z : Nat) (fp : Int32) (f : Int32) (k : Int32) (hz : z ≤ 120) : Met l yX6_isFull wsX6_isFull ({ frames := 0, cells := 0, slots := 0, locals := 0 }) (va_Pc [.ref h] (fun U => va_P (dC, dI) vwCl [(xo_6_ririii h bs (nI z) td fp f k)] U.heap ∧ va_K (dC, dI) vwCl [(cI, .int), (cZ, .boolean), (cL, .object RX3), (cJ, .array .int)] U)) (vp_Si (fun r => (r = 0 ∧ z < 120) ∨ (r = 1 ∧ z = 120))) 0 0 (fun _ => False) := by
  refine Met.ofW (cc := cX6_isFull) (maxL := 1) (ret := (some .boolean)) (by decide) rfl ?_
  intro p e s m args below meth c s₁ B hml hv
  obtain ⟨rfl, hP, hK⟩ := hv
  have hx := B.exec
  have hb := B.bytes
  have hr := B.returns
  have hts := atoms_spec (ws := wsX6_isFull) B.pre
  have hown : s.vm.findClass RX6 = some m.cls := findClass_of_methodNamed B.named
  have hlocks := B.notSynchronized
  have hP : va_P (dC, dI) vwCl [(xo_6_ririii h bs (nI z) td fp f k)] s.heap := hP
  have hl := lv_entry ([.ref h]) (n := 1) (Nat.le_of_ble_eq_true rfl)
  rw [lg_entry_eq]
  generalize (lg_sl ([.ref h]) ++ List.replicate (1 - (lg_sl ([.ref h])).length) Slot.unset).toArray = ls at hl ⊢
  have hl : lv_has ls 1 [(0, .ref h)] := hl
  refine lv_aload_n hx hb dX6_isFull_0 rfl (lv_at hl 0 rfl) ?_
  refine va_get (D := (dC, dI)) (ci := 6) (v := .int (nI z)) (C := RX6) (T := TX6) (N := 6) hx hb hts i_X6_isFull_X6 hown hK hP 0 rfl rfl 1 (by decide) (hts _ mx_X6_isFull_1) (fun _ h9 => h9) rfl dX6_isFull_1 ?_
  refine lv_bipush (v := 120) hx hb dX6_isFull_4 (by decide) ?_
  refine lv_icmp_lt (tgt := 13) hx hb dX6_isFull_6 (by decide) (fun c_1 => ?_) (fun c_1 => ?_)
  · have c_1 : z < 120 := (nI_ltI (a := z) (b := 120) (by omega) (by omega)).mp c_1
    refine lv_iconst (v := 0) hx hb dX6_isFull_13 (by decide) ?_
    exact W.zret (v := 0) hx hb hr (by decide) (fun t ht hW => ⟨0, rfl, Or.inl ⟨rfl, by omega⟩, ht⟩) (fun _ h => by cases h) dX6_isFull_14
  · have c_1 : ¬ (z < 120) := fun q_ => c_1 ((nI_ltI (a := z) (b := 120) (by omega) (by omega)).mpr q_)
    refine lv_iconst (v := 1) hx hb dX6_isFull_9 (by decide) ?_
    refine lv_goto (tgt := 14) hx hb dX6_isFull_10 (by decide) ?_
    exact W.zret (v := 1) hx hb hr (by decide) (fun t ht hW => ⟨1, rfl, Or.inr ⟨rfl, by omega⟩, ht⟩) (fun _ h => by cases h) dX6_isFull_14
theorem lf_X6_append_1 {z : Nat} {fb : Nat → Int32} {x : Int32} {g_3 : Nat → Int32} (hz : z ≤ 120) (f_1_0_0 : z < 120) (hu_3 : g_3 = upd fb z x) : (z + 1) ≤ 120 := by
  first | omega | (unfold apz; grind) | (unfold apb; grind)
theorem lf_X6_append_2 {z : Nat} {fb : Nat → Int32} {x : Int32} {g_3 : Nat → Int32} (hz : z ≤ 120) (f_1_0_0 : z < 120) (hu_3 : g_3 = upd fb z x) : (z + 1) = apz z := by
  first | omega | (unfold apz; grind) | (unfold apb; grind)
theorem lf_X6_append_3 {z : Nat} {fb : Nat → Int32} {x : Int32} {g_3 : Nat → Int32} (hz : z ≤ 120) (f_1_0_0 : z < 120) (hu_3 : g_3 = upd fb z x) : g_3 = apb fb z x := by
  first | omega | (unfold apz; grind) | (unfold apb; grind)
theorem lf_X6_append_4 {z : Nat} {fb : Nat → Int32} {x : Int32} {g_3 : Nat → Int32} (hz : z ≤ 120) (f_1_0_0 : z < 120) (hu_3 : g_3 = upd fb z x) : (nI (z + 1)) = (nI (apz z)) := by
  first | omega | (unfold apz; grind) | (unfold apb; grind)
theorem lf_X6_append_5 {z : Nat} (hz : z ≤ 120) (f_1_1_0 : z = 120) : z ≤ 120 := by
  first | omega | (unfold apz; grind) | (unfold apb; grind)
theorem lf_X6_append_6 {z : Nat} (hz : z ≤ 120) (f_1_1_0 : z = 120) : z = apz z := by
  first | omega | (unfold apz; grind) | (unfold apb; grind)
theorem lf_X6_append_7 {z : Nat} {fb : Nat → Int32} {x : Int32} (hz : z ≤ 120) (f_1_1_0 : z = 120) : fb = apb fb z x := by
  first | omega | (unfold apz; grind) | (unfold apb; grind)
theorem lf_X6_append_8 {z : Nat} (hz : z ≤ 120) (f_1_1_0 : z = 120) : (nI z) = (nI (apz z)) := by
  first | omega | (unfold apz; grind) | (unfold apb; grind)
set_option maxHeartbeats 4000000 in
set_option maxRecDepth 100000 in
theorem r_X6_append (l : Launch) (dC : Nat → ClassId) (dI : Nat → Nat → Nat) (cI cZ cL cJ : ClassId) (sz : Nat) (h : Nat) (bs : Nat) (td : Nat) (z : Nat) (fp : Int32) (f : Int32) (k : Int32) (fb : Nat → Int32) (x : Int32) (hz : z ≤ 120) : Met l yX6_append wsX6_append ({ frames := 1, cells := 0, slots := 0, locals := 20 }) (va_Pc [.ref h, .int x] (fun U => U.heap.size = sz ∧ va_P (dC, dI) vwCl [(xo_6_ririii h bs (nI z) td fp f k), (xI bs cI 120 fb)] U.heap ∧ va_K (dC, dI) vwCl [(cI, .int), (cZ, .boolean), (cL, .object RX3), (cJ, .array .int)] U ∧ va_D (fun _ => True) [(xo_6_ririii h bs (nI z) td fp f k), (xI bs cI 120 fb)])) (va_Qi (fun r (_ : Unit) => r = (nI (apz z))) (fun (_ : Unit) t => ∃ (zn : Nat) (fbn : Nat → Int32), va_P (dC, dI) vwCl [(xo_6_ririii h bs (nI zn) td fp f k), (xI bs cI 120 fbn)] t.heap ∧ va_D (va_A [(xo_6_ririii h bs (nI z) td fp f k), (xI bs cI 120 fb)] sz) [(xo_6_ririii h bs (nI zn) td fp f k), (xI bs cI 120 fbn)] ∧ zn ≤ 120 ∧ zn = apz z ∧ fbn = apb fb z x) (va_A [(xo_6_ririii h bs (nI z) td fp f k), (xI bs cI 120 fb)] sz)) 0 0 (va_A [(xo_6_ririii h bs (nI z) td fp f k), (xI bs cI 120 fb)] sz) := by
  refine Met.ofW (cc := cX6_append) (maxL := 2) (ret := (some .int)) (by decide) rfl ?_
  intro p e s m args below meth c s₁ B hml hv
  obtain ⟨rfl, hsz, hP, hK, hD0⟩ := hv
  have hx := B.exec
  have hb := B.bytes
  have hr := B.returns
  have hts := atoms_spec (ws := wsX6_append) B.pre
  have hown : s.vm.findClass RX6 = some m.cls := findClass_of_methodNamed B.named
  have hlocks := B.notSynchronized
  subst hsz
  have hD := hD0.self (sz := s.heap.size)
  generalize hAe : va_A [(xo_6_ririii h bs (nI z) td fp f k), (xI bs cI 120 fb)] s.heap.size = A at hD ⊢
  have hA : ∀ q : Nat, s.heap.size ≤ q → A q := fun q h => by rw [← hAe]; exact Or.inr h
  have hS : va_S A s.heap s.heap [] := va_S.rf
  have hP : va_P (dC, dI) vwCl [(xo_6_ririii h bs (nI z) td fp f k), (xI bs cI 120 fb)] s.heap := hP
  have hl := lv_entry ([.ref h, .int x]) (n := 2) (Nat.le_of_ble_eq_true rfl)
  rw [lg_entry_eq]
  generalize (lg_sl ([.ref h, .int x]) ++ List.replicate (2 - (lg_sl ([.ref h, .int x])).length) Slot.unset).toArray = ls at hl ⊢
  have hl : lv_has ls 2 [(0, .ref h), (1, .int x)] := hl
  refine lv_aload_n hx hb dX6_append_0 rfl (lv_at hl 0 rfl) ?_
  have hPc_1 := hP.sub (ws' := [(xo_6_ririii h bs (nI z) td fp f k)]) [0] rfl
  refine vp_callSi (W.runV (As := []) (rest := []) ⟨hx, hb, hml, hown, hts⟩ (r_X6_isFull l dC dI cI cZ cL cJ h bs td z fp f k (hz)) (cwV 0 hts gX6_append_X6_isFull rfl rfl rfl (by decide +kernel) ⟨Nat.le_of_ble_eq_true rfl, Nat.le_of_ble_eq_true rfl⟩) (pvP 6 0 hK hP rfl rfl hPc_1) rfl rfl hl.1 rfl (lv_room (Nat.le_of_ble_eq_true rfl)) dX6_append_1 ⟨Nat.le_of_ble_eq_true rfl, Nat.le_of_ble_eq_true rfl⟩) (fun r_1 h_1 => ?_)
  rcases h_1 with ⟨h_1, f_1_0_0⟩ | ⟨h_1, f_1_1_0⟩
  · subst h_1
    refine lv_if_ne (tgt := 27) hx hb dX6_append_4 (by decide) (fun c_ => absurd (by decide) c_) (fun _ => ?_)
    refine lv_aload_n hx hb dX6_append_7 rfl (lv_at hl 0 rfl) ?_
    refine va_get (D := (dC, dI)) (ci := 6) (v := .ref bs) (C := RX6) (T := TX6) (N := 6) hx hb hts i_X6_append_X6 hown hK hP 0 rfl rfl 0 (by decide) (hts _ mx_X6_append_1) (fun _ h9 => h9) rfl dX6_append_8 ?_
    refine lv_aload_n hx hb dX6_append_11 rfl (lv_at hl 0 rfl) ?_
    refine va_get (D := (dC, dI)) (ci := 6) (v := .int (nI z)) (C := RX6) (T := TX6) (N := 6) hx hb hts i_X6_append_X6 hown hK hP 0 rfl rfl 1 (by decide) (hts _ mx_X6_append_2) (fun _ h9 => h9) rfl dX6_append_12 ?_
    refine lv_iload_n hx hb dX6_append_15 rfl (lv_at hl 1 rfl) ?_
    refine va_iast hx hb hK hP hD hS 1 0 rfl rfl (vp_in_nI (by omega) (by omega)) dX6_append_16 (fun H locs hP hD hS => ?_)
    generalize hg_3 : upd fb ((nI z) : Int32).toNatClampNeg x = g_3 at hP hD
    have hu_3 : g_3 = upd fb z x := (by rw [← hg_3, nI_clamp (by omega)])
    have hP : va_P (dC, dI) vwCl [(xo_6_ririii h bs (nI z) td fp f k), (xI bs cI 120 g_3)] H := hP
    have hD := dto hP hD
    refine lv_aload_n hx hb dX6_append_17 rfl (lv_at hl 0 rfl) ?_
    refine lv_dup hx hb dX6_append_18 rfl ?_
    refine va_get (D := (dC, dI)) (ci := 6) (v := .int (nI z)) (C := RX6) (T := TX6) (N := 6) hx hb hts i_X6_append_X6 hown hK hP 0 rfl rfl 1 (by decide) (hts _ mx_X6_append_2) (fun _ h9 => h9) rfl dX6_append_19 ?_
    refine lv_iconst (v := 1) hx hb dX6_append_22 (by decide) ?_
    refine lv_iadd hx hb dX6_append_23 ?_
    refine lv_topi (fun v_4 e_4 => ?_)
    obtain rfl : v_4 = (nI (z + 1)) := (e_4).trans (nI_add z 1)
    refine va_put (D := (dC, dI)) (ci := 6) (v := .int (nI (z + 1))) (ty := .int) (C := RX6) (T := TX6) (N := 6) hx hb hts i_X6_append_X6 tyX6 tyX6_ok nmX6 hown hK hP hD hS 0 rfl rfl 1 (by decide) (hts _ mx_X6_append_2) (fun _ h9 => h9) rfl (by decide +kernel) rfl rfl (Nat.le_of_ble_eq_true rfl) dX6_append_24 (fun H locs hP hD hS => ?_)
    have hP : va_P (dC, dI) vwCl [(xo_6_ririii h bs (nI (z + 1)) td fp f k), (xI bs cI 120 g_3)] H := hP
    have hD := dto hP hD
    refine lv_aload_n hx hb dX6_append_27 rfl (lv_at hl 0 rfl) ?_
    refine va_get (D := (dC, dI)) (ci := 6) (v := .int (nI (z + 1))) (C := RX6) (T := TX6) (N := 6) hx hb hts i_X6_append_X6 hown hK hP 0 rfl rfl 1 (by decide) (hts _ mx_X6_append_2) (fun _ h9 => h9) rfl dX6_append_28 ?_
    have hX9 := cut2 (wc := [(xo_6_ririii h bs (nI (z + 1)) td fp f k), (xI bs cI 120 g_3)]) hP hD [0, 1] (by decide +kernel) rfl
    exact W.iret (v := (nI (z + 1))) hx hb hr (fun t ht hW => ⟨⟨(nI (z + 1)), (), rfl, (lf_X6_append_4 hz f_1_0_0 hu_3), ⟨(z + 1), g_3, va_Ht ht hX9.1, hX9.2, (lf_X6_append_1 hz f_1_0_0 hu_3), (lf_X6_append_2 hz f_1_0_0 hu_3), (lf_X6_append_3 hz f_1_0_0 hu_3)⟩⟩, hS.F ht⟩) hS.2.2 dX6_append_31
  · subst h_1
    refine lv_if_ne (tgt := 27) hx hb dX6_append_4 (by decide) (fun _ => ?_) (fun c_ => absurd c_ (by decide))
    refine lv_aload_n hx hb dX6_append_27 rfl (lv_at hl 0 rfl) ?_
    refine va_get (D := (dC, dI)) (ci := 6) (v := .int (nI z)) (C := RX6) (T := TX6) (N := 6) hx hb hts i_X6_append_X6 hown hK hP 0 rfl rfl 1 (by decide) (hts _ mx_X6_append_2) (fun _ h9 => h9) rfl dX6_append_28 ?_
    have hX9 := cut2 (wc := [(xo_6_ririii h bs (nI z) td fp f k), (xI bs cI 120 fb)]) hP hD [0, 1] (by decide +kernel) rfl
    exact W.iret (v := (nI z)) hx hb hr (fun t ht hW => ⟨⟨(nI z), (), rfl, (lf_X6_append_8 hz f_1_1_0), ⟨z, fb, va_Ht ht hX9.1, hX9.2, (lf_X6_append_5 hz f_1_1_0), (lf_X6_append_6 hz f_1_1_0), (lf_X6_append_7 hz f_1_1_0)⟩⟩, hS.F ht⟩) hS.2.2 dX6_append_31
set_option maxHeartbeats 4000000 in
set_option maxRecDepth 100000 in
theorem r_X6_byteAt (l : Launch) (dC : Nat → ClassId) (dI : Nat → Nat → Nat) (cI cZ cL cJ : ClassId) (h : Nat) (bs : Nat) (td : Nat) (z : Nat) (fp : Int32) (f : Int32) (k : Int32) (fb : Nat → Int32) (x : Int32) (hz : z ≤ 120) : Met l yX6_byteAt wsX6_byteAt ({ frames := 0, cells := 0, slots := 0, locals := 0 }) (va_Pc [.ref h, .int x] (fun U => va_P (dC, dI) vwCl [(xo_6_ririii h bs (nI z) td fp f k), (xI bs cI 120 fb)] U.heap ∧ va_K (dC, dI) vwCl [(cI, .int), (cZ, .boolean), (cL, .object RX3), (cJ, .array .int)] U)) (vp_Si (fun r => r = (bAt fb z x))) 0 0 (fun _ => False) := by
  refine Met.ofW (cc := cX6_byteAt) (maxL := 2) (ret := (some .int)) (by decide) rfl ?_
  intro p e s m args below meth c s₁ B hml hv
  obtain ⟨rfl, hP, hK⟩ := hv
  have hx := B.exec
  have hb := B.bytes
  have hr := B.returns
  have hts := atoms_spec (ws := wsX6_byteAt) B.pre
  have hown : s.vm.findClass RX6 = some m.cls := findClass_of_methodNamed B.named
  have hlocks := B.notSynchronized
  have hP : va_P (dC, dI) vwCl [(xo_6_ririii h bs (nI z) td fp f k), (xI bs cI 120 fb)] s.heap := hP
  have hl := lv_entry ([.ref h, .int x]) (n := 2) (Nat.le_of_ble_eq_true rfl)
  rw [lg_entry_eq]
  generalize (lg_sl ([.ref h, .int x]) ++ List.replicate (2 - (lg_sl ([.ref h, .int x])).length) Slot.unset).toArray = ls at hl ⊢
  have hl : lv_has ls 2 [(0, .ref h), (1, .int x)] := hl
  refine lv_iload_n hx hb dX6_byteAt_0 rfl (lv_at hl 1 rfl) ?_
  refine lv_if_lt (tgt := 21) hx hb dX6_byteAt_1 (by decide) (fun c_1 => ?_) (fun c_1 => ?_)
  · skip
    refine lv_iconst (v := (-1)) hx hb dX6_byteAt_21 (by decide) ?_
    exact W.iret (v := (-1)) hx hb hr (fun t ht hW => ⟨(-1), rfl, (by unfold bAt; grind), ht⟩) (fun _ h => by cases h) dX6_byteAt_22
  · skip
    refine lv_iload_n hx hb dX6_byteAt_4 rfl (lv_at hl 1 rfl) ?_
    refine lv_aload_n hx hb dX6_byteAt_5 rfl (lv_at hl 0 rfl) ?_
    refine va_get (D := (dC, dI)) (ci := 6) (v := .int (nI z)) (C := RX6) (T := TX6) (N := 6) hx hb hts i_X6_byteAt_X6 hown hK hP 0 rfl rfl 1 (by decide) (hts _ mx_X6_byteAt_1) (fun _ h9 => h9) rfl dX6_byteAt_6 ?_
    refine lv_icmp_ge (tgt := 21) hx hb dX6_byteAt_9 (by decide) (fun c_2 => ?_) (fun c_2 => ?_)
    · skip
      refine lv_iconst (v := (-1)) hx hb dX6_byteAt_21 (by decide) ?_
      exact W.iret (v := (-1)) hx hb hr (fun t ht hW => ⟨(-1), rfl, (by unfold bAt; grind), ht⟩) (fun _ h => by cases h) dX6_byteAt_22
    · skip
      refine lv_aload_n hx hb dX6_byteAt_12 rfl (lv_at hl 0 rfl) ?_
      refine va_get (D := (dC, dI)) (ci := 6) (v := .ref bs) (C := RX6) (T := TX6) (N := 6) hx hb hts i_X6_byteAt_X6 hown hK hP 0 rfl rfl 0 (by decide) (hts _ mx_X6_byteAt_2) (fun _ h9 => h9) rfl dX6_byteAt_13 ?_
      refine lv_iload_n hx hb dX6_byteAt_16 rfl (lv_at hl 1 rfl) ?_
      refine va_iald hx hb hK hP 1 0 rfl rfl (in_mono (in_of c_1 c_2 (by omega)) hz) dX6_byteAt_17 ?_
      refine lv_topi (fun v_3 e_3 => ?_)
      refine lv_goto (tgt := 22) hx hb dX6_byteAt_18 (by decide) ?_
      exact W.iret (v := v_3) hx hb hr (fun t ht hW => ⟨v_3, rfl, (by unfold bAt; grind), ht⟩) (fun _ h => by cases h) dX6_byteAt_22
theorem lf_X6_isFigure_1 {x : Int32} (c_1 : x < 48) : ¬ isFig x := by
  unfold isFig; grind
theorem lf_X6_isFigure_2 {x : Int32} (c_1 : ¬ (x < 48)) (c_2 : 57 < x) : ¬ isFig x := by
  unfold isFig; grind
theorem lf_X6_isFigure_3 {x : Int32} (c_1 : ¬ (x < 48)) (c_2 : ¬ (57 < x)) : isFig x := by
  unfold isFig; grind
set_option maxHeartbeats 4000000 in
set_option maxRecDepth 100000 in
theorem r_X6_isFigure (l : Launch) (dC : Nat → ClassId) (dI : Nat → Nat → Nat) (cI cZ cL cJ : ClassId) (x : Int32)  : Met l yX6_isFigure wsX6_isFigure ({ frames := 0, cells := 0, slots := 0, locals := 0 }) (va_Pc [.int x] (fun U => va_P (dC, dI) vwCl [] U.heap ∧ va_K (dC, dI) vwCl [(cI, .int), (cZ, .boolean), (cL, .object RX3), (cJ, .array .int)] U)) (vp_Si (fun r => (r = 0 ∧ ¬ isFig x) ∨ (r = 1 ∧ isFig x))) 0 0 (fun _ => False) := by
  refine Met.ofW (cc := cX6_isFigure) (maxL := 1) (ret := (some .boolean)) (by decide) rfl ?_
  intro p e s m args below meth c s₁ B hml hv
  obtain ⟨rfl, hP, hK⟩ := hv
  have hx := B.exec
  have hb := B.bytes
  have hr := B.returns
  have hts := atoms_spec (ws := wsX6_isFigure) B.pre
  have hown : s.vm.findClass RX6 = some m.cls := findClass_of_methodNamed B.named
  have hlocks := B.notSynchronized
  have hP : va_P (dC, dI) vwCl [] s.heap := hP
  have hl := lv_entry ([.int x]) (n := 1) (Nat.le_of_ble_eq_true rfl)
  rw [lg_entry_eq]
  generalize (lg_sl ([.int x]) ++ List.replicate (1 - (lg_sl ([.int x])).length) Slot.unset).toArray = ls at hl ⊢
  have hl : lv_has ls 1 [(0, .int x)] := hl
  refine lv_iload_n hx hb dX6_isFigure_0 rfl (lv_at hl 0 rfl) ?_
  refine lv_bipush (v := 48) hx hb dX6_isFigure_1 (by decide) ?_
  refine lv_icmp_lt (tgt := 16) hx hb dX6_isFigure_3 (by decide) (fun c_1 => ?_) (fun c_1 => ?_)
  · skip
    refine lv_iconst (v := 0) hx hb dX6_isFigure_16 (by decide) ?_
    exact W.zret (v := 0) hx hb hr (by decide) (fun t ht hW => ⟨0, rfl, Or.inl (⟨rfl, (lf_X6_isFigure_1 c_1)⟩), ht⟩) (fun _ h => by cases h) dX6_isFigure_17
  · skip
    refine lv_iload_n hx hb dX6_isFigure_6 rfl (lv_at hl 0 rfl) ?_
    refine lv_bipush (v := 57) hx hb dX6_isFigure_7 (by decide) ?_
    refine lv_icmp_gt (tgt := 16) hx hb dX6_isFigure_9 (by decide) (fun c_2 => ?_) (fun c_2 => ?_)
    · skip
      refine lv_iconst (v := 0) hx hb dX6_isFigure_16 (by decide) ?_
      exact W.zret (v := 0) hx hb hr (by decide) (fun t ht hW => ⟨0, rfl, Or.inl (⟨rfl, (lf_X6_isFigure_2 c_1 c_2)⟩), ht⟩) (fun _ h => by cases h) dX6_isFigure_17
    · skip
      refine lv_iconst (v := 1) hx hb dX6_isFigure_12 (by decide) ?_
      refine lv_goto (tgt := 17) hx hb dX6_isFigure_13 (by decide) ?_
      exact W.zret (v := 1) hx hb hr (by decide) (fun t ht hW => ⟨1, rfl, Or.inr (⟨rfl, (lf_X6_isFigure_3 c_1 c_2)⟩), ht⟩) (fun _ h => by cases h) dX6_isFigure_17
theorem lf_X6_kindOf_1   : 2 = (kindX (98 : Int32)) := by
  first | decide | (unfold kindX; grind)
theorem lf_X6_kindOf_2  (k_1 : ¬ (100 : Int32) = 98) : 4 = (kindX (100 : Int32)) := by
  first | decide | (unfold kindX; grind)
theorem lf_X6_kindOf_3  (k_1 : ¬ (104 : Int32) = 98) (k_2 : ¬ (104 : Int32) = 100) : 3 = (kindX (104 : Int32)) := by
  first | decide | (unfold kindX; grind)
theorem lf_X6_kindOf_4  (k_1 : ¬ (115 : Int32) = 98) (k_2 : ¬ (115 : Int32) = 100) (k_3 : ¬ (115 : Int32) = 104) : 5 = (kindX (115 : Int32)) := by
  first | decide | (unfold kindX; grind)
theorem lf_X6_kindOf_5  (k_1 : ¬ (118 : Int32) = 98) (k_2 : ¬ (118 : Int32) = 100) (k_3 : ¬ (118 : Int32) = 104) (k_4 : ¬ (118 : Int32) = 115) : 1 = (kindX (118 : Int32)) := by
  first | decide | (unfold kindX; grind)
theorem lf_X6_kindOf_6 {x : Int32} (k_1 : ¬ x = 98) (k_2 : ¬ x = 100) (k_3 : ¬ x = 104) (k_4 : ¬ x = 115) (k_5 : ¬ x = 118) : 0 = (kindX x) := by
  first | decide | (unfold kindX; grind)
set_option maxHeartbeats 4000000 in
set_option maxRecDepth 100000 in
theorem r_X6_kindOf (l : Launch) (dC : Nat → ClassId) (dI : Nat → Nat → Nat) (cI cZ cL cJ : ClassId) (x : Int32)  : Met l yX6_kindOf wsX6_kindOf ({ frames := 0, cells := 0, slots := 0, locals := 0 }) (va_Pc [.int x] (fun U => va_P (dC, dI) vwCl [] U.heap ∧ va_K (dC, dI) vwCl [(cI, .int), (cZ, .boolean), (cL, .object RX3), (cJ, .array .int)] U)) (vp_Si (fun r => r = (kindX x))) 0 0 (fun _ => False) := by
  refine Met.ofW (cc := cX6_kindOf) (maxL := 1) (ret := (some .int)) (by decide) rfl ?_
  intro p e s m args below meth c s₁ B hml hv
  obtain ⟨rfl, hP, hK⟩ := hv
  have hx := B.exec
  have hb := B.bytes
  have hr := B.returns
  have hts := atoms_spec (ws := wsX6_kindOf) B.pre
  have hown : s.vm.findClass RX6 = some m.cls := findClass_of_methodNamed B.named
  have hlocks := B.notSynchronized
  have hP : va_P (dC, dI) vwCl [] s.heap := hP
  have hl := lv_entry ([.int x]) (n := 1) (Nat.le_of_ble_eq_true rfl)
  rw [lg_entry_eq]
  generalize (lg_sl ([.int x]) ++ List.replicate (1 - (lg_sl ([.int x])).length) Slot.unset).toArray = ls at hl ⊢
  have hl : lv_has ls 1 [(0, .int x)] := hl
  refine lv_iload_n hx hb dX6_kindOf_0 rfl (lv_at hl 0 rfl) ?_
  by_cases k_1 : x = 98
  · subst k_1
    refine lv_lookup (off := 53) (tgt := 54) hx hb dX6_kindOf_1 (by decide) (by decide) (by decide) ?_
    refine lv_iconst (v := 2) hx hb dX6_kindOf_54 (by decide) ?_
    exact W.iret (v := 2) hx hb hr (fun t ht hW => ⟨2, rfl, lf_X6_kindOf_1, ht⟩) (fun _ h => by cases h) dX6_kindOf_55
  by_cases k_2 : x = 100
  · subst k_2
    refine lv_lookup (off := 57) (tgt := 58) hx hb dX6_kindOf_1 (by decide) (by decide) (by decide) ?_
    refine lv_iconst (v := 4) hx hb dX6_kindOf_58 (by decide) ?_
    exact W.iret (v := 4) hx hb hr (fun t ht hW => ⟨4, rfl, (lf_X6_kindOf_2 k_1), ht⟩) (fun _ h => by cases h) dX6_kindOf_59
  by_cases k_3 : x = 104
  · subst k_3
    refine lv_lookup (off := 55) (tgt := 56) hx hb dX6_kindOf_1 (by decide) (by decide) (by decide) ?_
    refine lv_iconst (v := 3) hx hb dX6_kindOf_56 (by decide) ?_
    exact W.iret (v := 3) hx hb hr (fun t ht hW => ⟨3, rfl, (lf_X6_kindOf_3 k_1 k_2), ht⟩) (fun _ h => by cases h) dX6_kindOf_57
  by_cases k_4 : x = 115
  · subst k_4
    refine lv_lookup (off := 59) (tgt := 60) hx hb dX6_kindOf_1 (by decide) (by decide) (by decide) ?_
    refine lv_iconst (v := 5) hx hb dX6_kindOf_60 (by decide) ?_
    exact W.iret (v := 5) hx hb hr (fun t ht hW => ⟨5, rfl, (lf_X6_kindOf_4 k_1 k_2 k_3), ht⟩) (fun _ h => by cases h) dX6_kindOf_61
  by_cases k_5 : x = 118
  · subst k_5
    refine lv_lookup (off := 51) (tgt := 52) hx hb dX6_kindOf_1 (by decide) (by decide) (by decide) ?_
    refine lv_iconst (v := 1) hx hb dX6_kindOf_52 (by decide) ?_
    exact W.iret (v := 1) hx hb hr (fun t ht hW => ⟨1, rfl, (lf_X6_kindOf_5 k_1 k_2 k_3 k_4), ht⟩) (fun _ h => by cases h) dX6_kindOf_53
  refine lv_lookup (off := 61) (tgt := 62) hx hb dX6_kindOf_1 (by decide) ((lv_osw k_1 rfl).trans ( (lv_osw k_2 rfl).trans ( (lv_osw k_3 rfl).trans ( (lv_osw k_4 rfl).trans ( (lv_osw k_5 rfl).trans (rfl)))))) (by decide) ?_
  refine lv_iconst (v := 0) hx hb dX6_kindOf_62 (by decide) ?_
  exact W.iret (v := 0) hx hb hr (fun t ht hW => ⟨0, rfl, (lf_X6_kindOf_6 k_1 k_2 k_3 k_4 k_5), ht⟩) (fun _ h => by cases h) dX6_kindOf_63
theorem lf_X6_figuresHere_1 {z : Nat} {k : Int32} {fb : Nat → Int32} {ii : Nat} {v_8 : Int32} {r_9 : Int32} (hz : z ≤ 120) (hii : ii < 120) (haf_0 : (figX fb z k 120 0 = ii + figX fb z k (120 - ii) ii)) (e_8 : v_8 = (k + (nI ii))) (h_9 : r_9 = (bAt fb z v_8)) (f_10_0_0 : ¬ isFig r_9) : (nI ii) = (nI (figX fb z k 120 0)) := by
  first
  | (rw [haf_0, figX_no (by first | grind | (subst_vars; assumption)), Nat.add_zero])
  | (rw [haf_0]; rfl)
theorem lf_X6_figuresHere_2 {z : Nat} {k : Int32} {fb : Nat → Int32} {ii : Nat} {v_8 : Int32} {r_9 : Int32} (hz : z ≤ 120) (hii : ii < 120) (haf_0 : (figX fb z k 120 0 = ii + figX fb z k (120 - ii) ii)) (e_8 : v_8 = (k + (nI ii))) (h_9 : r_9 = (bAt fb z v_8)) (f_10_1_0 : isFig r_9) : figX fb z k 120 0 = (ii + 1) + figX fb z k (120 - (ii + 1)) (ii + 1) := by
  have h9 := figX_go (f := fb) (z := z) (k := k) (n := 120 - ii) (i := ii) (by omega) (by first | grind | (subst_vars; assumption))
  rw [haf_0, h9, Nat.sub_sub]
  omega
theorem lf_X6_figuresHere_3 {z : Nat} {k : Int32} {fb : Nat → Int32} (hz : z ≤ 120) (haf_0 : (figX fb z k 120 0 = 120 + figX fb z k (120 - 120) 120)) : (nI 120) = (nI (figX fb z k 120 0)) := by
  first
  | (rw [haf_0, figX_no (by first | grind | (subst_vars; assumption)), Nat.add_zero])
  | (rw [haf_0]; rfl)
set_option maxHeartbeats 4000000 in
set_option maxRecDepth 100000 in
theorem r_X6_figuresHere (l : Launch) (dC : Nat → ClassId) (dI : Nat → Nat → Nat) (cI cZ cL cJ : ClassId) (h : Nat) (bs : Nat) (td : Nat) (z : Nat) (fp : Int32) (f : Int32) (k : Int32) (fb : Nat → Int32) (hz : z ≤ 120) : Met l yX6_figuresHere wsX6_figuresHere ({ frames := 1, cells := 0, slots := 0, locals := 21 }) (va_Pc [.ref h] (fun U => va_P (dC, dI) vwCl [(xo_6_ririii h bs (nI z) td fp f k), (xI bs cI 120 fb)] U.heap ∧ va_K (dC, dI) vwCl [(cI, .int), (cZ, .boolean), (cL, .object RX3), (cJ, .array .int)] U)) (vp_Si (fun r => r = (nI (figX fb z k 120 0)))) 0 0 (fun _ => False) := by
  refine Met.ofW (cc := cX6_figuresHere) (maxL := 2) (ret := (some .int)) (by decide) rfl ?_
  intro p e s m args below meth c s₁ B hml hv
  obtain ⟨rfl, hP, hK⟩ := hv
  have hx := B.exec
  have hb := B.bytes
  have hr := B.returns
  have hts := atoms_spec (ws := wsX6_figuresHere) B.pre
  have hown : s.vm.findClass RX6 = some m.cls := findClass_of_methodNamed B.named
  have hlocks := B.notSynchronized
  have hP : va_P (dC, dI) vwCl [(xo_6_ririii h bs (nI z) td fp f k), (xI bs cI 120 fb)] s.heap := hP
  have hl := lv_entry ([.ref h]) (n := 2) (Nat.le_of_ble_eq_true rfl)
  rw [lg_entry_eq]
  generalize (lg_sl ([.ref h]) ++ List.replicate (2 - (lg_sl ([.ref h])).length) Slot.unset).toArray = ls at hl ⊢
  have hl : lv_has ls 2 [(0, .ref h)] := hl
  refine lv_iconst (v := 0) hx hb dX6_figuresHere_0 (by decide) ?_
  refine lv_istore_n (lv' := [(1, .int 0), (0, .ref h)]) hx hb dX6_figuresHere_1 rfl hl (by decide) rfl (fun ls hl => ?_)
  refine lp_go (σ := Unit) (fun ii (st : Unit) H locs ls => match st with | _ => lv_has ls 2 [(1, .int (nI ii)), (0, .ref h)] ∧ H = s.heap ∧ locs = [] ∧ (figX fb z k 120 0 = ii + figX fb z k (120 - ii) ii)) 120 ?_ ?_ 0 (by omega) () ⟨lv_sub hl [0, 1] rfl, rfl, rfl, (by rw [Nat.zero_add])⟩
  · rintro ii _ H locs ls hii ⟨hl, rfl, rfl, haf_0⟩ ih
    refine lv_iload_n hx hb dX6_figuresHere_2 rfl (lv_at hl 0 rfl) ?_
    refine lv_bipush (v := 120) hx hb dX6_figuresHere_3 (by decide) ?_
    refine lv_icmp_ge (tgt := 30) hx hb dX6_figuresHere_5 (by decide) (fun c_ => absurd c_ (fun q_ => absurd ((nI_leI (a := 120) (b := ii) (by omega) (by omega)).mp q_) (by omega))) (fun _ => ?_)
    refine lv_aload_n hx hb dX6_figuresHere_8 rfl (lv_at hl 1 rfl) ?_
    refine lv_aload_n hx hb dX6_figuresHere_9 rfl (lv_at hl 1 rfl) ?_
    refine va_get (D := (dC, dI)) (ci := 6) (v := .int k) (C := RX6) (T := TX6) (N := 6) hx hb hts i_X6_figuresHere_X6 hown hK hP 0 rfl rfl 5 (by decide) (hts _ mx_X6_figuresHere_1) (fun _ h9 => h9) rfl dX6_figuresHere_10 ?_
    refine lv_iload_n hx hb dX6_figuresHere_13 rfl (lv_at hl 0 rfl) ?_
    refine lv_iadd hx hb dX6_figuresHere_14 ?_
    refine lv_topi (fun v_8 e_8 => ?_)
    have hPc_9 := hP
    refine vp_callSi (W.runV (As := [.int v_8]) (rest := []) ⟨hx, hb, hml, hown, hts⟩ (r_X6_byteAt l dC dI cI cZ cL cJ h bs td z fp f k fb v_8 (hz)) (cwV 1 hts gX6_figuresHere_X6_byteAt rfl rfl rfl (by decide +kernel) ⟨Nat.le_of_ble_eq_true rfl, Nat.le_of_ble_eq_true rfl⟩) (pvP 6 0 hK hP rfl rfl hPc_9) rfl rfl hl.1 rfl (lv_room (Nat.le_of_ble_eq_true rfl)) dX6_figuresHere_15 ⟨Nat.le_of_ble_eq_true rfl, Nat.le_of_ble_eq_true rfl⟩) (fun r_9 h_9 => ?_)
    have hPc_10 := hP.sub (ws' := []) [] rfl
    refine vp_callSi (W.runS (As := [.int r_9]) (rest := []) ⟨hx, hb, hml, hown, hts⟩ (r_X6_isFigure l dC dI cI cZ cL cJ r_9 ) (va_cwS 1 hts gX6_figuresHere_X6_isFigure rfl rfl rfl (by decide +kernel) ⟨Nat.le_of_ble_eq_true rfl, Nat.le_of_ble_eq_true rfl⟩) (psP hK hPc_10) rfl rfl hl.1 rfl (lv_room (Nat.le_of_ble_eq_true rfl)) dX6_figuresHere_18 ⟨Nat.le_of_ble_eq_true rfl, Nat.le_of_ble_eq_true rfl⟩) (fun r_10 h_10 => ?_)
    rcases h_10 with ⟨h_10, f_10_0_0⟩ | ⟨h_10, f_10_1_0⟩
    · subst h_10
      refine lv_if_eq (tgt := 30) hx hb dX6_figuresHere_21 (by decide) (fun _ => ?_) (fun c_ => absurd (by decide) c_)
      refine lv_iload_n hx hb dX6_figuresHere_30 rfl (lv_at hl 0 rfl) ?_
      exact W.iret (v := (nI ii)) hx hb hr (fun t ht hW => ⟨(nI ii), rfl, (lf_X6_figuresHere_1 hz hii haf_0 e_8 h_9 f_10_0_0), ht⟩) (fun _ h => by cases h) dX6_figuresHere_31
    · subst h_10
      refine lv_if_eq (tgt := 30) hx hb dX6_figuresHere_21 (by decide) (fun c_ => absurd c_ (by decide)) (fun _ => ?_)
      refine lv_iinc (v := (nI (ii + 1))) (lv' := [(1, .int (nI (ii + 1))), (0, .ref h)]) hx hb dX6_figuresHere_24 hl (k := 0) rfl (nI_add ii 1) (by decide) rfl (fun ls hl => ?_)
      refine lv_goto (tgt := 2) hx hb dX6_figuresHere_27 (by decide) ?_
      exact ih () _ _ _ ⟨lv_sub hl [0, 1] rfl, rfl, rfl, (lf_X6_figuresHere_2 hz hii haf_0 e_8 h_9 f_10_1_0)⟩
  · rintro _ H locs ls ⟨hl, rfl, rfl, haf_0⟩
    refine lv_iload_n hx hb dX6_figuresHere_2 rfl (lv_at hl 0 rfl) ?_
    refine lv_bipush (v := 120) hx hb dX6_figuresHere_3 (by decide) ?_
    refine lv_icmp_ge (tgt := 30) hx hb dX6_figuresHere_5 (by decide) (fun _ => ?_) (fun c_ => absurd ((nI_leI (a := 120) (b := 120) (by omega) (by omega)).mpr (by omega)) c_)
    refine lv_iload_n hx hb dX6_figuresHere_30 rfl (lv_at hl 0 rfl) ?_
    exact W.iret (v := (nI 120)) hx hb hr (fun t ht hW => ⟨(nI 120), rfl, (lf_X6_figuresHere_3 hz haf_0), ht⟩) (fun _ h => by cases h) dX6_figuresHere_31
theorem lf_X6_fail_1 {f : Int32} {x : Int32} (c_1 : ¬ (f = 0)) : (¬ (x : Int32) = 0 → ¬ f = 0) := by
  first | (unfold rF; grind) | grind
theorem lf_X6_fail_2 {f : Int32} (c_1 : ¬ (f = 0)) : (¬ f = 0 → f = f) := by
  first | (unfold rF; grind) | grind
theorem lf_X6_fail_3 {fp : Int32} {f : Int32} {k : Int32} {x : Int32} (c_1 : ¬ (f = 0)) : rF x (fp, f, k) = (fp, f, k) := by
  first | (unfold rF; grind) | grind
theorem lf_X6_fail_4 {f : Int32} {x : Int32} (c_1 : f = 0) : (¬ (x : Int32) = 0 → ¬ x = 0) := by
  first | (unfold rF; grind) | grind
theorem lf_X6_fail_5 {f : Int32} {x : Int32} (c_1 : f = 0) : (¬ f = 0 → x = f) := by
  first | (unfold rF; grind) | grind
theorem lf_X6_fail_6 {fp : Int32} {f : Int32} {k : Int32} {x : Int32} (c_1 : f = 0) : rF x (fp, f, k) = (k, x, k) := by
  first | (unfold rF; grind) | grind
set_option maxHeartbeats 4000000 in
set_option maxRecDepth 100000 in
theorem r_X6_fail (l : Launch) (dC : Nat → ClassId) (dI : Nat → Nat → Nat) (cI cZ cL cJ : ClassId) (sz : Nat) (h : Nat) (bs : Nat) (td : Nat) (z : Nat) (fp : Int32) (f : Int32) (k : Int32) (x : Int32)  : Met l yX6_fail wsX6_fail ({ frames := 0, cells := 0, slots := 0, locals := 0 }) (va_Pc [.ref h, .int x] (fun U => U.heap.size = sz ∧ va_P (dC, dI) vwCl [(xo_6_ririii h bs (nI z) td fp f k)] U.heap ∧ va_K (dC, dI) vwCl [(cI, .int), (cZ, .boolean), (cL, .object RX3), (cJ, .array .int)] U ∧ va_D (fun _ => True) [(xo_6_ririii h bs (nI z) td fp f k)])) (va_Qv (fun (_ : Unit) => True) (fun (_ : Unit) t => ∃ (fpn : Int32) (fn : Int32), va_P (dC, dI) vwCl [(xo_6_ririii h bs (nI z) td fpn fn k)] t.heap ∧ va_D (va_A [(xo_6_ririii h bs (nI z) td fp f k)] sz) [(xo_6_ririii h bs (nI z) td fpn fn k)] ∧ (¬ (x : Int32) = 0 → ¬ fn = 0) ∧ (¬ f = 0 → fn = f) ∧ rF x (fp, f, k) = (fpn, fn, k)) (va_A [(xo_6_ririii h bs (nI z) td fp f k)] sz)) 0 0 (va_A [(xo_6_ririii h bs (nI z) td fp f k)] sz) := by
  refine Met.ofW (cc := cX6_fail) (maxL := 2) (ret := none) (by decide) rfl ?_
  intro p e s m args below meth c s₁ B hml hv
  obtain ⟨rfl, hsz, hP, hK, hD0⟩ := hv
  have hx := B.exec
  have hb := B.bytes
  have hr := B.returns
  have hts := atoms_spec (ws := wsX6_fail) B.pre
  have hown : s.vm.findClass RX6 = some m.cls := findClass_of_methodNamed B.named
  have hlocks := B.notSynchronized
  subst hsz
  have hD := hD0.self (sz := s.heap.size)
  generalize hAe : va_A [(xo_6_ririii h bs (nI z) td fp f k)] s.heap.size = A at hD ⊢
  have hA : ∀ q : Nat, s.heap.size ≤ q → A q := fun q h => by rw [← hAe]; exact Or.inr h
  have hS : va_S A s.heap s.heap [] := va_S.rf
  have hP : va_P (dC, dI) vwCl [(xo_6_ririii h bs (nI z) td fp f k)] s.heap := hP
  have hl := lv_entry ([.ref h, .int x]) (n := 2) (Nat.le_of_ble_eq_true rfl)
  rw [lg_entry_eq]
  generalize (lg_sl ([.ref h, .int x]) ++ List.replicate (2 - (lg_sl ([.ref h, .int x])).length) Slot.unset).toArray = ls at hl ⊢
  have hl : lv_has ls 2 [(0, .ref h), (1, .int x)] := hl
  refine lv_aload_n hx hb dX6_fail_0 rfl (lv_at hl 0 rfl) ?_
  refine va_get (D := (dC, dI)) (ci := 6) (v := .int f) (C := RX6) (T := TX6) (N := 6) hx hb hts i_X6_fail_X6 hown hK hP 0 rfl rfl 4 (by decide) (hts _ mx_X6_fail_1) (fun _ h9 => h9) rfl dX6_fail_1 ?_
  refine lv_if_ne (tgt := 20) hx hb dX6_fail_4 (by decide) (fun c_1 => ?_) (fun c_1 => ?_)
  · skip
    have hX9 := cut2 (wc := [(xo_6_ririii h bs (nI z) td fp f k)]) hP hD [0] (by decide +kernel) rfl
    exact W.vret hx hb hr (fun t ht hW => ⟨⟨(), rfl, trivial, ⟨fp, f, va_Ht ht hX9.1, hX9.2, (lf_X6_fail_1 c_1), (lf_X6_fail_2 c_1), (lf_X6_fail_3 c_1)⟩⟩, hS.F ht⟩) hS.2.2 dX6_fail_20
  · skip
    refine lv_aload_n hx hb dX6_fail_7 rfl (lv_at hl 0 rfl) ?_
    refine lv_iload_n hx hb dX6_fail_8 rfl (lv_at hl 1 rfl) ?_
    refine va_put (D := (dC, dI)) (ci := 6) (v := .int x) (ty := .int) (C := RX6) (T := TX6) (N := 6) hx hb hts i_X6_fail_X6 tyX6 tyX6_ok nmX6 hown hK hP hD hS 0 rfl rfl 4 (by decide) (hts _ mx_X6_fail_1) (fun _ h9 => h9) rfl (by decide +kernel) rfl rfl (Nat.le_of_ble_eq_true rfl) dX6_fail_9 (fun H locs hP hD hS => ?_)
    have hP : va_P (dC, dI) vwCl [(xo_6_ririii h bs (nI z) td fp x k)] H := hP
    have hD := dto hP hD
    refine lv_aload_n hx hb dX6_fail_12 rfl (lv_at hl 0 rfl) ?_
    refine lv_aload_n hx hb dX6_fail_13 rfl (lv_at hl 0 rfl) ?_
    refine va_get (D := (dC, dI)) (ci := 6) (v := .int k) (C := RX6) (T := TX6) (N := 6) hx hb hts i_X6_fail_X6 hown hK hP 0 rfl rfl 5 (by decide) (hts _ mx_X6_fail_2) (fun _ h9 => h9) rfl dX6_fail_14 ?_
    refine va_put (D := (dC, dI)) (ci := 6) (v := .int k) (ty := .int) (C := RX6) (T := TX6) (N := 6) hx hb hts i_X6_fail_X6 tyX6 tyX6_ok nmX6 hown hK hP hD hS 0 rfl rfl 3 (by decide) (hts _ mx_X6_fail_3) (fun _ h9 => h9) rfl (by decide +kernel) rfl rfl (Nat.le_of_ble_eq_true rfl) dX6_fail_17 (fun H locs hP hD hS => ?_)
    have hP : va_P (dC, dI) vwCl [(xo_6_ririii h bs (nI z) td k x k)] H := hP
    have hD := dto hP hD
    have hX9 := cut2 (wc := [(xo_6_ririii h bs (nI z) td k x k)]) hP hD [0] (by decide +kernel) rfl
    exact W.vret hx hb hr (fun t ht hW => ⟨⟨(), rfl, trivial, ⟨k, x, va_Ht ht hX9.1, hX9.2, (lf_X6_fail_4 c_1), (lf_X6_fail_5 c_1), (lf_X6_fail_6 c_1)⟩⟩, hS.F ht⟩) hS.2.2 dX6_fail_20
theorem lf_X6_readByte_1 {z : Nat} {fp : Int32} {f : Int32} {k : Int32} {fb : Nat → Int32} {x : Int32} {r_1 : Int32} {fpn_3 : Int32} {fn_3 : Int32} (hz : z ≤ 120) (h_1 : r_1 = (bAt fb z k)) (c_2 : ¬ (r_1 = x)) (hF_3_0 : (¬ (1 : Int32) = 0 → ¬ fn_3 = 0)) (hF_3_1 : (¬ f = 0 → fn_3 = f)) (hF_3_2 : rF 1 (fp, f, k) = (fpn_3, fn_3, k)) : (fn_3 = 0 → f = 0 ∧ bAt fb z k = x) := by
  first | (simp only [rB]; grind) | grind
theorem lf_X6_readByte_2 {z : Nat} {fp : Int32} {f : Int32} {k : Int32} {fb : Nat → Int32} {x : Int32} {r_1 : Int32} {fpn_3 : Int32} {fn_3 : Int32} (hz : z ≤ 120) (h_1 : r_1 = (bAt fb z k)) (c_2 : ¬ (r_1 = x)) (hF_3_0 : (¬ (1 : Int32) = 0 → ¬ fn_3 = 0)) (hF_3_1 : (¬ f = 0 → fn_3 = f)) (hF_3_2 : rF 1 (fp, f, k) = (fpn_3, fn_3, k)) : rB fb z x (fp, f, k) = (fpn_3, fn_3, k) := by
  first | (simp only [rB]; grind) | grind
theorem lf_X6_readByte_3 {z : Nat} {f : Int32} {k : Int32} {fb : Nat → Int32} {x : Int32} {r_1 : Int32} {v_4 : Int32} (hz : z ≤ 120) (h_1 : r_1 = (bAt fb z k)) (c_2 : r_1 = x) (e_4 : v_4 = (k + 1)) : (f = 0 → f = 0 ∧ bAt fb z k = x) := by
  first | (simp only [rB]; grind) | grind
theorem lf_X6_readByte_4 {z : Nat} {fp : Int32} {f : Int32} {k : Int32} {fb : Nat → Int32} {x : Int32} {r_1 : Int32} {v_4 : Int32} (hz : z ≤ 120) (h_1 : r_1 = (bAt fb z k)) (c_2 : r_1 = x) (e_4 : v_4 = (k + 1)) : rB fb z x (fp, f, k) = (fp, f, v_4) := by
  first | (simp only [rB]; grind) | grind
set_option maxHeartbeats 4000000 in
set_option maxRecDepth 100000 in
theorem r_X6_readByte (l : Launch) (dC : Nat → ClassId) (dI : Nat → Nat → Nat) (cI cZ cL cJ : ClassId) (sz : Nat) (h : Nat) (bs : Nat) (td : Nat) (z : Nat) (fp : Int32) (f : Int32) (k : Int32) (fb : Nat → Int32) (x : Int32) (hz : z ≤ 120) : Met l yX6_readByte wsX6_readByte ({ frames := 1, cells := 0, slots := 0, locals := 21 }) (va_Pc [.ref h, .int x] (fun U => U.heap.size = sz ∧ va_P (dC, dI) vwCl [(xo_6_ririii h bs (nI z) td fp f k), (xI bs cI 120 fb)] U.heap ∧ va_K (dC, dI) vwCl [(cI, .int), (cZ, .boolean), (cL, .object RX3), (cJ, .array .int)] U ∧ va_D (fun _ => True) [(xo_6_ririii h bs (nI z) td fp f k), (xI bs cI 120 fb)])) (va_Qv (fun (_ : Unit) => True) (fun (_ : Unit) t => ∃ (fpn : Int32) (fn : Int32) (kn : Int32), va_P (dC, dI) vwCl [(xo_6_ririii h bs (nI z) td fpn fn kn), (xI bs cI 120 fb)] t.heap ∧ va_D (va_A [(xo_6_ririii h bs (nI z) td fp f k), (xI bs cI 120 fb)] sz) [(xo_6_ririii h bs (nI z) td fpn fn kn), (xI bs cI 120 fb)] ∧ (fn = 0 → f = 0 ∧ bAt fb z k = x) ∧ rB fb z x (fp, f, k) = (fpn, fn, kn)) (va_A [(xo_6_ririii h bs (nI z) td fp f k), (xI bs cI 120 fb)] sz)) 0 0 (va_A [(xo_6_ririii h bs (nI z) td fp f k), (xI bs cI 120 fb)] sz) := by
  refine Met.ofW (cc := cX6_readByte) (maxL := 2) (ret := none) (by decide) rfl ?_
  intro p e s m args below meth c s₁ B hml hv
  obtain ⟨rfl, hsz, hP, hK, hD0⟩ := hv
  have hx := B.exec
  have hb := B.bytes
  have hr := B.returns
  have hts := atoms_spec (ws := wsX6_readByte) B.pre
  have hown : s.vm.findClass RX6 = some m.cls := findClass_of_methodNamed B.named
  have hlocks := B.notSynchronized
  subst hsz
  have hD := hD0.self (sz := s.heap.size)
  generalize hAe : va_A [(xo_6_ririii h bs (nI z) td fp f k), (xI bs cI 120 fb)] s.heap.size = A at hD ⊢
  have hA : ∀ q : Nat, s.heap.size ≤ q → A q := fun q h => by rw [← hAe]; exact Or.inr h
  have hS : va_S A s.heap s.heap [] := va_S.rf
  have hP : va_P (dC, dI) vwCl [(xo_6_ririii h bs (nI z) td fp f k), (xI bs cI 120 fb)] s.heap := hP
  have hl := lv_entry ([.ref h, .int x]) (n := 2) (Nat.le_of_ble_eq_true rfl)
  rw [lg_entry_eq]
  generalize (lg_sl ([.ref h, .int x]) ++ List.replicate (2 - (lg_sl ([.ref h, .int x])).length) Slot.unset).toArray = ls at hl ⊢
  have hl : lv_has ls 2 [(0, .ref h), (1, .int x)] := hl
  refine lv_aload_n hx hb dX6_readByte_0 rfl (lv_at hl 0 rfl) ?_
  refine lv_aload_n hx hb dX6_readByte_1 rfl (lv_at hl 0 rfl) ?_
  refine va_get (D := (dC, dI)) (ci := 6) (v := .int k) (C := RX6) (T := TX6) (N := 6) hx hb hts i_X6_readByte_X6 hown hK hP 0 rfl rfl 5 (by decide) (hts _ mx_X6_readByte_1) (fun _ h9 => h9) rfl dX6_readByte_2 ?_
  have hPc_1 := hP
  refine vp_callSi (W.runV (As := [.int k]) (rest := []) ⟨hx, hb, hml, hown, hts⟩ (r_X6_byteAt l dC dI cI cZ cL cJ h bs td z fp f k fb k (hz)) (cwV 1 hts gX6_readByte_X6_byteAt rfl rfl rfl (by decide +kernel) ⟨Nat.le_of_ble_eq_true rfl, Nat.le_of_ble_eq_true rfl⟩) (pvP 6 0 hK hP rfl rfl hPc_1) rfl rfl hl.1 rfl (lv_room (Nat.le_of_ble_eq_true rfl)) dX6_readByte_5 ⟨Nat.le_of_ble_eq_true rfl, Nat.le_of_ble_eq_true rfl⟩) (fun r_1 h_1 => ?_)
  refine lv_iload_n hx hb dX6_readByte_8 rfl (lv_at hl 1 rfl) ?_
  refine lv_icmp_ne (tgt := 25) hx hb dX6_readByte_9 (by decide) (fun c_2 => ?_) (fun c_2 => ?_)
  · skip
    refine lv_aload_n hx hb dX6_readByte_25 rfl (lv_at hl 0 rfl) ?_
    refine lv_iconst (v := 1) hx hb dX6_readByte_26 (by decide) ?_
    have hc_3 := cutW (wc := [(xo_6_ririii h bs (nI z) td fp f k)]) hP hD hS hA [0] (by decide +kernel) rfl
    refine va_callv (va_runV (As := [.int 1]) (rest := []) ⟨hx, hb, hml, hown, hts⟩ (r_X6_fail l dC dI cI cZ cL cJ s.heap.size h bs td z fp f k 1 ) (cwV 1 hts gX6_readByte_X6_fail rfl rfl rfl (by decide +kernel) ⟨Nat.le_of_ble_eq_true rfl, Nat.le_of_ble_eq_true rfl⟩) (pvW 6 0 hK hP rfl rfl hc_3) rfl rfl hl.1 rfl (lv_room (Nat.le_of_ble_eq_true rfl)) dX6_readByte_27 ⟨Nat.le_of_ble_eq_true rfl, Nat.le_of_ble_eq_true rfl⟩) hS (fun q _ h => hc_3.2.2 q h) hc_3.2.2 (fun u_3 t_3 H1 locs ht hvm h_3 hB hz1 hk1 hS => ?_)
    refine xl_2_5 hB (fun fpn_3 fn_3 hP1 hD1 hF_3_0 hF_3_1 hF_3_2 => ?_)
    clear hB
    rw [ht] at hP1
    obtain ⟨hP, hD⟩ := va_join (wr := [(xI bs cI 120 fb)]) (w1 := [(xo_6_ririii h bs (nI z) td fpn_3 fn_3 k)]) hP hD [0] [1] rfl rfl (by decide +kernel) (by decide +kernel) hk1 hc_3.2.2 hP1 hD1
    generalize H1 = H at hP hS ⊢
    have hP : va_P (dC, dI) vwCl [(xI bs cI 120 fb), (xo_6_ririii h bs (nI z) td fpn_3 fn_3 k)] H := hP
    have hD := dto hP hD
    have hX9 := cut2 (wc := [(xo_6_ririii h bs (nI z) td fpn_3 fn_3 k), (xI bs cI 120 fb)]) hP hD [1, 0] (by decide +kernel) rfl
    exact W.vret hx hb hr (fun t ht hW => ⟨⟨(), rfl, trivial, ⟨fpn_3, fn_3, k, va_Ht ht hX9.1, hX9.2, (lf_X6_readByte_1 hz h_1 c_2 hF_3_0 hF_3_1 hF_3_2), (lf_X6_readByte_2 hz h_1 c_2 hF_3_0 hF_3_1 hF_3_2)⟩⟩, hS.F ht⟩) hS.2.2 dX6_readByte_30
  · skip
    refine lv_aload_n hx hb dX6_readByte_12 rfl (lv_at hl 0 rfl) ?_
    refine lv_dup hx hb dX6_readByte_13 rfl ?_
    refine va_get (D := (dC, dI)) (ci := 6) (v := .int k) (C := RX6) (T := TX6) (N := 6) hx hb hts i_X6_readByte_X6 hown hK hP 0 rfl rfl 5 (by decide) (hts _ mx_X6_readByte_1) (fun _ h9 => h9) rfl dX6_readByte_14 ?_
    refine lv_iconst (v := 1) hx hb dX6_readByte_17 (by decide) ?_
    refine lv_iadd hx hb dX6_readByte_18 ?_
    refine lv_topi (fun v_4 e_4 => ?_)
    refine va_put (D := (dC, dI)) (ci := 6) (v := .int v_4) (ty := .int) (C := RX6) (T := TX6) (N := 6) hx hb hts i_X6_readByte_X6 tyX6 tyX6_ok nmX6 hown hK hP hD hS 0 rfl rfl 5 (by decide) (hts _ mx_X6_readByte_1) (fun _ h9 => h9) rfl (by decide +kernel) rfl rfl (Nat.le_of_ble_eq_true rfl) dX6_readByte_19 (fun H locs hP hD hS => ?_)
    have hP : va_P (dC, dI) vwCl [(xo_6_ririii h bs (nI z) td fp f v_4), (xI bs cI 120 fb)] H := hP
    have hD := dto hP hD
    refine lv_goto (tgt := 30) hx hb dX6_readByte_22 (by decide) ?_
    have hX9 := cut2 (wc := [(xo_6_ririii h bs (nI z) td fp f v_4), (xI bs cI 120 fb)]) hP hD [0, 1] (by decide +kernel) rfl
    exact W.vret hx hb hr (fun t ht hW => ⟨⟨(), rfl, trivial, ⟨fp, f, v_4, va_Ht ht hX9.1, hX9.2, (lf_X6_readByte_3 hz h_1 c_2 e_4), (lf_X6_readByte_4 hz h_1 c_2 e_4)⟩⟩, hS.F ht⟩) hS.2.2 dX6_readByte_30
theorem lf_X6_readNumber_1 {z : Nat} {fp : Int32} {f : Int32} {k : Int32} {fb : Nat → Int32} {fg : Nat} {fpn_3 : Int32} {fn_3 : Int32} (hz : z ≤ 120) (hfg : fg = figX fb z k 120 0) (c_2 : fg < 1) (hF_3_0 : (¬ (1 : Int32) = 0 → ¬ fn_3 = 0)) (hF_3_1 : (¬ f = 0 → fn_3 = f)) (hF_3_2 : rF 1 (fp, f, k) = (fpn_3, fn_3, k)) : (fn_3 = 0 → f = 0) := by
  first
  | (simp only [rN, rG1, rG2]; grind)
  | (simp only [rV, rG1, rG2]; grind)
  | grind
theorem lf_X6_readNumber_2 {z : Nat} {fp : Int32} {f : Int32} {k : Int32} {fb : Nat → Int32} {x : Int32} {y : Int32} {fg : Nat} {fpn_3 : Int32} {fn_3 : Int32} (hz : z ≤ 120) (hfg : fg = figX fb z k 120 0) (c_2 : fg < 1) (hF_3_0 : (¬ (1 : Int32) = 0 → ¬ fn_3 = 0)) (hF_3_1 : (¬ f = 0 → fn_3 = f)) (hF_3_2 : rF 1 (fp, f, k) = (fpn_3, fn_3, k)) : rN fb z x y (fp, f, k) = (fpn_3, fn_3, k) := by
  first
  | (simp only [rN, rG1, rG2]; grind)
  | (simp only [rV, rG1, rG2]; grind)
  | grind
theorem lf_X6_readNumber_3 {z : Nat} {fp : Int32} {f : Int32} {k : Int32} {fb : Nat → Int32} {x : Int32} {y : Int32} {fg : Nat} {fpn_3 : Int32} {fn_3 : Int32} (hz : z ≤ 120) (hfg : fg = figX fb z k 120 0) (c_2 : fg < 1) (hF_3_0 : (¬ (1 : Int32) = 0 → ¬ fn_3 = 0)) (hF_3_1 : (¬ f = 0 → fn_3 = f)) (hF_3_2 : rF 1 (fp, f, k) = (fpn_3, fn_3, k)) : 0 = (rV fb z x y k) := by
  first
  | (simp only [rN, rG1, rG2]; grind)
  | (simp only [rV, rG1, rG2]; grind)
  | grind
theorem lf_X6_readNumber_4 {z : Nat} {k : Int32} {fb : Nat → Int32} {fg : Nat} {w_11 : Int32} {ii : Nat} {v_20 : Int32} {v_21 : Int32} {r_22 : Int32} {v_23 : Int32} {v_24 : Int32} (hz : z ≤ 120) (hfg : fg = figX fb z k 120 0) (c_2 : ¬ (fg < 1)) (c_4 : fg ≤ 2) (hii : ii < fg) (haf_0 : (w_11 = numX fb z k ii)) (e_20 : v_20 = (w_11 * 10)) (e_21 : v_21 = (k + (nI ii))) (h_22 : r_22 = (bAt fb z v_21)) (e_23 : v_23 = (v_20 + r_22)) (e_24 : v_24 = (v_23 - 48)) : v_24 = numX fb z k (ii + 1) := by
  subst_vars; rfl
theorem lf_X6_readNumber_5 {z : Nat} {fp : Int32} {f : Int32} {k : Int32} {fb : Nat → Int32} {x : Int32} {fg : Nat} {w_11 : Int32} {fpn_27 : Int32} {fn_27 : Int32} (hz : z ≤ 120) (hfg : fg = figX fb z k 120 0) (c_2 : ¬ (fg < 1)) (c_4 : fg ≤ 2) (haf_0 : (w_11 = numX fb z k fg)) (c_26 : w_11 < x) (hF_27_0 : (¬ (2 : Int32) = 0 → ¬ fn_27 = 0)) (hF_27_1 : (¬ f = 0 → fn_27 = f)) (hF_27_2 : rF 2 (fp, f, k) = (fpn_27, fn_27, k)) : (fn_27 = 0 → f = 0) := by
  first
  | (simp only [rN, rG1, rG2]; grind)
  | (simp only [rV, rG1, rG2]; grind)
  | grind
theorem lf_X6_readNumber_6 {z : Nat} {fp : Int32} {f : Int32} {k : Int32} {fb : Nat → Int32} {x : Int32} {y : Int32} {fg : Nat} {w_11 : Int32} {fpn_27 : Int32} {fn_27 : Int32} (hz : z ≤ 120) (hfg : fg = figX fb z k 120 0) (c_2 : ¬ (fg < 1)) (c_4 : fg ≤ 2) (haf_0 : (w_11 = numX fb z k fg)) (c_26 : w_11 < x) (hF_27_0 : (¬ (2 : Int32) = 0 → ¬ fn_27 = 0)) (hF_27_1 : (¬ f = 0 → fn_27 = f)) (hF_27_2 : rF 2 (fp, f, k) = (fpn_27, fn_27, k)) : rN fb z x y (fp, f, k) = (fpn_27, fn_27, k) := by
  first
  | (simp only [rN, rG1, rG2]; grind)
  | (simp only [rV, rG1, rG2]; grind)
  | grind
theorem lf_X6_readNumber_7 {z : Nat} {fp : Int32} {f : Int32} {k : Int32} {fb : Nat → Int32} {x : Int32} {y : Int32} {fg : Nat} {w_11 : Int32} {fpn_27 : Int32} {fn_27 : Int32} (hz : z ≤ 120) (hfg : fg = figX fb z k 120 0) (c_2 : ¬ (fg < 1)) (c_4 : fg ≤ 2) (haf_0 : (w_11 = numX fb z k fg)) (c_26 : w_11 < x) (hF_27_0 : (¬ (2 : Int32) = 0 → ¬ fn_27 = 0)) (hF_27_1 : (¬ f = 0 → fn_27 = f)) (hF_27_2 : rF 2 (fp, f, k) = (fpn_27, fn_27, k)) : 0 = (rV fb z x y k) := by
  first
  | (simp only [rN, rG1, rG2]; grind)
  | (simp only [rV, rG1, rG2]; grind)
  | grind
theorem lf_X6_readNumber_8 {z : Nat} {f : Int32} {k : Int32} {fb : Nat → Int32} {x : Int32} {y : Int32} {fg : Nat} {w_11 : Int32} {v_29 : Int32} (hz : z ≤ 120) (hfg : fg = figX fb z k 120 0) (c_2 : ¬ (fg < 1)) (c_4 : fg ≤ 2) (haf_0 : (w_11 = numX fb z k fg)) (c_26 : ¬ (w_11 < x)) (c_28 : w_11 ≤ y) (e_29 : v_29 = (k + (nI fg))) : (f = 0 → f = 0) := by
  first
  | (simp only [rN, rG1, rG2]; grind)
  | (simp only [rV, rG1, rG2]; grind)
  | grind
theorem lf_X6_readNumber_9 {z : Nat} {fp : Int32} {f : Int32} {k : Int32} {fb : Nat → Int32} {x : Int32} {y : Int32} {fg : Nat} {w_11 : Int32} {v_29 : Int32} (hz : z ≤ 120) (hfg : fg = figX fb z k 120 0) (c_2 : ¬ (fg < 1)) (c_4 : fg ≤ 2) (haf_0 : (w_11 = numX fb z k fg)) (c_26 : ¬ (w_11 < x)) (c_28 : w_11 ≤ y) (e_29 : v_29 = (k + (nI fg))) : rN fb z x y (fp, f, k) = (fp, f, v_29) := by
  first
  | (simp only [rN, rG1, rG2]; grind)
  | (simp only [rV, rG1, rG2]; grind)
  | grind
theorem lf_X6_readNumber_10 {z : Nat} {k : Int32} {fb : Nat → Int32} {x : Int32} {y : Int32} {fg : Nat} {w_11 : Int32} {v_29 : Int32} (hz : z ≤ 120) (hfg : fg = figX fb z k 120 0) (c_2 : ¬ (fg < 1)) (c_4 : fg ≤ 2) (haf_0 : (w_11 = numX fb z k fg)) (c_26 : ¬ (w_11 < x)) (c_28 : w_11 ≤ y) (e_29 : v_29 = (k + (nI fg))) : w_11 = (rV fb z x y k) := by
  first
  | (simp only [rN, rG1, rG2]; grind)
  | (simp only [rV, rG1, rG2]; grind)
  | grind
theorem lf_X6_readNumber_11 {z : Nat} {fp : Int32} {f : Int32} {k : Int32} {fb : Nat → Int32} {x : Int32} {y : Int32} {fg : Nat} {w_11 : Int32} {fpn_30 : Int32} {fn_30 : Int32} (hz : z ≤ 120) (hfg : fg = figX fb z k 120 0) (c_2 : ¬ (fg < 1)) (c_4 : fg ≤ 2) (haf_0 : (w_11 = numX fb z k fg)) (c_26 : ¬ (w_11 < x)) (c_28 : ¬ (w_11 ≤ y)) (hF_30_0 : (¬ (2 : Int32) = 0 → ¬ fn_30 = 0)) (hF_30_1 : (¬ f = 0 → fn_30 = f)) (hF_30_2 : rF 2 (fp, f, k) = (fpn_30, fn_30, k)) : (fn_30 = 0 → f = 0) := by
  first
  | (simp only [rN, rG1, rG2]; grind)
  | (simp only [rV, rG1, rG2]; grind)
  | grind
theorem lf_X6_readNumber_12 {z : Nat} {fp : Int32} {f : Int32} {k : Int32} {fb : Nat → Int32} {x : Int32} {y : Int32} {fg : Nat} {w_11 : Int32} {fpn_30 : Int32} {fn_30 : Int32} (hz : z ≤ 120) (hfg : fg = figX fb z k 120 0) (c_2 : ¬ (fg < 1)) (c_4 : fg ≤ 2) (haf_0 : (w_11 = numX fb z k fg)) (c_26 : ¬ (w_11 < x)) (c_28 : ¬ (w_11 ≤ y)) (hF_30_0 : (¬ (2 : Int32) = 0 → ¬ fn_30 = 0)) (hF_30_1 : (¬ f = 0 → fn_30 = f)) (hF_30_2 : rF 2 (fp, f, k) = (fpn_30, fn_30, k)) : rN fb z x y (fp, f, k) = (fpn_30, fn_30, k) := by
  first
  | (simp only [rN, rG1, rG2]; grind)
  | (simp only [rV, rG1, rG2]; grind)
  | grind
theorem lf_X6_readNumber_13 {z : Nat} {fp : Int32} {f : Int32} {k : Int32} {fb : Nat → Int32} {x : Int32} {y : Int32} {fg : Nat} {w_11 : Int32} {fpn_30 : Int32} {fn_30 : Int32} (hz : z ≤ 120) (hfg : fg = figX fb z k 120 0) (c_2 : ¬ (fg < 1)) (c_4 : fg ≤ 2) (haf_0 : (w_11 = numX fb z k fg)) (c_26 : ¬ (w_11 < x)) (c_28 : ¬ (w_11 ≤ y)) (hF_30_0 : (¬ (2 : Int32) = 0 → ¬ fn_30 = 0)) (hF_30_1 : (¬ f = 0 → fn_30 = f)) (hF_30_2 : rF 2 (fp, f, k) = (fpn_30, fn_30, k)) : 0 = (rV fb z x y k) := by
  first
  | (simp only [rN, rG1, rG2]; grind)
  | (simp only [rV, rG1, rG2]; grind)
  | grind
theorem lf_X6_readNumber_14 {z : Nat} {fp : Int32} {f : Int32} {k : Int32} {fb : Nat → Int32} {fg : Nat} {fpn_31 : Int32} {fn_31 : Int32} (hz : z ≤ 120) (hfg : fg = figX fb z k 120 0) (c_2 : ¬ (fg < 1)) (c_4 : ¬ (fg ≤ 2)) (hF_31_0 : (¬ (1 : Int32) = 0 → ¬ fn_31 = 0)) (hF_31_1 : (¬ f = 0 → fn_31 = f)) (hF_31_2 : rF 1 (fp, f, k) = (fpn_31, fn_31, k)) : (fn_31 = 0 → f = 0) := by
  first
  | (simp only [rN, rG1, rG2]; grind)
  | (simp only [rV, rG1, rG2]; grind)
  | grind
theorem lf_X6_readNumber_15 {z : Nat} {fp : Int32} {f : Int32} {k : Int32} {fb : Nat → Int32} {x : Int32} {y : Int32} {fg : Nat} {fpn_31 : Int32} {fn_31 : Int32} (hz : z ≤ 120) (hfg : fg = figX fb z k 120 0) (c_2 : ¬ (fg < 1)) (c_4 : ¬ (fg ≤ 2)) (hF_31_0 : (¬ (1 : Int32) = 0 → ¬ fn_31 = 0)) (hF_31_1 : (¬ f = 0 → fn_31 = f)) (hF_31_2 : rF 1 (fp, f, k) = (fpn_31, fn_31, k)) : rN fb z x y (fp, f, k) = (fpn_31, fn_31, k) := by
  first
  | (simp only [rN, rG1, rG2]; grind)
  | (simp only [rV, rG1, rG2]; grind)
  | grind
theorem lf_X6_readNumber_16 {z : Nat} {fp : Int32} {f : Int32} {k : Int32} {fb : Nat → Int32} {x : Int32} {y : Int32} {fg : Nat} {fpn_31 : Int32} {fn_31 : Int32} (hz : z ≤ 120) (hfg : fg = figX fb z k 120 0) (c_2 : ¬ (fg < 1)) (c_4 : ¬ (fg ≤ 2)) (hF_31_0 : (¬ (1 : Int32) = 0 → ¬ fn_31 = 0)) (hF_31_1 : (¬ f = 0 → fn_31 = f)) (hF_31_2 : rF 1 (fp, f, k) = (fpn_31, fn_31, k)) : 0 = (rV fb z x y k) := by
  first
  | (simp only [rN, rG1, rG2]; grind)
  | (simp only [rV, rG1, rG2]; grind)
  | grind
set_option maxHeartbeats 4000000 in
set_option maxRecDepth 100000 in
theorem r_X6_readNumber (l : Launch) (dC : Nat → ClassId) (dI : Nat → Nat → Nat) (cI cZ cL cJ : ClassId) (sz : Nat) (h : Nat) (bs : Nat) (td : Nat) (z : Nat) (fp : Int32) (f : Int32) (k : Int32) (fb : Nat → Int32) (x : Int32) (y : Int32) (hz : z ≤ 120) : Met l yX6_readNumber wsX6_readNumber ({ frames := 2, cells := 0, slots := 0, locals := 42 }) (va_Pc [.ref h, .int x, .int y] (fun U => U.heap.size = sz ∧ va_P (dC, dI) vwCl [(xo_6_ririii h bs (nI z) td fp f k), (xI bs cI 120 fb)] U.heap ∧ va_K (dC, dI) vwCl [(cI, .int), (cZ, .boolean), (cL, .object RX3), (cJ, .array .int)] U ∧ va_D (fun _ => True) [(xo_6_ririii h bs (nI z) td fp f k), (xI bs cI 120 fb)])) (va_Qi (fun r (_ : Unit) => r = (rV fb z x y k)) (fun (_ : Unit) t => ∃ (fpn : Int32) (fn : Int32) (kn : Int32), va_P (dC, dI) vwCl [(xo_6_ririii h bs (nI z) td fpn fn kn), (xI bs cI 120 fb)] t.heap ∧ va_D (va_A [(xo_6_ririii h bs (nI z) td fp f k), (xI bs cI 120 fb)] sz) [(xo_6_ririii h bs (nI z) td fpn fn kn), (xI bs cI 120 fb)] ∧ (fn = 0 → f = 0) ∧ rN fb z x y (fp, f, k) = (fpn, fn, kn)) (va_A [(xo_6_ririii h bs (nI z) td fp f k), (xI bs cI 120 fb)] sz)) 0 0 (va_A [(xo_6_ririii h bs (nI z) td fp f k), (xI bs cI 120 fb)] sz) := by
  refine Met.ofW (cc := cX6_readNumber) (maxL := 6) (ret := (some .int)) (by decide) rfl ?_
  intro p e s m args below meth c s₁ B hml hv
  obtain ⟨rfl, hsz, hP, hK, hD0⟩ := hv
  have hx := B.exec
  have hb := B.bytes
  have hr := B.returns
  have hts := atoms_spec (ws := wsX6_readNumber) B.pre
  have hown : s.vm.findClass RX6 = some m.cls := findClass_of_methodNamed B.named
  have hlocks := B.notSynchronized
  subst hsz
  have hD := hD0.self (sz := s.heap.size)
  generalize hAe : va_A [(xo_6_ririii h bs (nI z) td fp f k), (xI bs cI 120 fb)] s.heap.size = A at hD ⊢
  have hA : ∀ q : Nat, s.heap.size ≤ q → A q := fun q h => by rw [← hAe]; exact Or.inr h
  have hS : va_S A s.heap s.heap [] := va_S.rf
  have hP : va_P (dC, dI) vwCl [(xo_6_ririii h bs (nI z) td fp f k), (xI bs cI 120 fb)] s.heap := hP
  have hl := lv_entry ([.ref h, .int x, .int y]) (n := 6) (Nat.le_of_ble_eq_true rfl)
  rw [lg_entry_eq]
  generalize (lg_sl ([.ref h, .int x, .int y]) ++ List.replicate (6 - (lg_sl ([.ref h, .int x, .int y])).length) Slot.unset).toArray = ls at hl ⊢
  have hl : lv_has ls 6 [(0, .ref h), (1, .int x), (2, .int y)] := hl
  refine lv_aload_n hx hb dX6_readNumber_0 rfl (lv_at hl 0 rfl) ?_
  have hPc_1 := hP
  refine vp_callSi (W.runV (As := []) (rest := []) ⟨hx, hb, hml, hown, hts⟩ (r_X6_figuresHere l dC dI cI cZ cL cJ h bs td z fp f k fb (hz)) (cwV 0 hts gX6_readNumber_X6_figuresHere rfl rfl rfl (by decide +kernel) ⟨Nat.le_of_ble_eq_true rfl, Nat.le_of_ble_eq_true rfl⟩) (pvP 6 0 hK hP rfl rfl hPc_1) rfl rfl hl.1 rfl (lv_room (Nat.le_of_ble_eq_true rfl)) dX6_readNumber_1 ⟨Nat.le_of_ble_eq_true rfl, Nat.le_of_ble_eq_true rfl⟩) (fun r_1 h_1 => ?_)
  obtain ⟨fg, hfg⟩ : ∃ j : Nat, j = figX fb z k 120 0 := ⟨_, rfl⟩
  have hfg9 : fg ≤ 120 := by rw [hfg]; exact figX_le _ _ _ _ _
  rw [← hfg] at h_1
  subst h_1
  refine lv_istore_n (lv' := [(3, .int (nI fg)), (0, .ref h), (1, .int x), (2, .int y)]) hx hb dX6_readNumber_4 rfl hl (by decide) rfl (fun ls hl => ?_)
  refine lv_iload_n hx hb dX6_readNumber_5 rfl (lv_at hl 0 rfl) ?_
  refine lv_iconst (v := 1) hx hb dX6_readNumber_6 (by decide) ?_
  refine lv_icmp_lt (tgt := 15) hx hb dX6_readNumber_7 (by decide) (fun c_2 => ?_) (fun c_2 => ?_)
  · have c_2 : fg < 1 := (nI_ltI (a := fg) (b := 1) (by omega) (by omega)).mp c_2
    refine lv_aload_n hx hb dX6_readNumber_15 rfl (lv_at hl 1 rfl) ?_
    refine lv_iconst (v := 1) hx hb dX6_readNumber_16 (by decide) ?_
    have hc_3 := cutW (wc := [(xo_6_ririii h bs (nI z) td fp f k)]) hP hD hS hA [0] (by decide +kernel) rfl
    refine va_callv (va_runV (As := [.int 1]) (rest := []) ⟨hx, hb, hml, hown, hts⟩ (r_X6_fail l dC dI cI cZ cL cJ s.heap.size h bs td z fp f k 1 ) (cwV 1 hts gX6_readNumber_X6_fail rfl rfl rfl (by decide +kernel) ⟨Nat.le_of_ble_eq_true rfl, Nat.le_of_ble_eq_true rfl⟩) (pvW 6 0 hK hP rfl rfl hc_3) rfl rfl hl.1 rfl (lv_room (Nat.le_of_ble_eq_true rfl)) dX6_readNumber_17 ⟨Nat.le_of_ble_eq_true rfl, Nat.le_of_ble_eq_true rfl⟩) hS (fun q _ h => hc_3.2.2 q h) hc_3.2.2 (fun u_3 t_3 H1 locs ht hvm h_3 hB hz1 hk1 hS => ?_)
    refine xl_2_5 hB (fun fpn_3 fn_3 hP1 hD1 hF_3_0 hF_3_1 hF_3_2 => ?_)
    clear hB
    rw [ht] at hP1
    obtain ⟨hP, hD⟩ := va_join (wr := [(xI bs cI 120 fb)]) (w1 := [(xo_6_ririii h bs (nI z) td fpn_3 fn_3 k)]) hP hD [0] [1] rfl rfl (by decide +kernel) (by decide +kernel) hk1 hc_3.2.2 hP1 hD1
    generalize H1 = H at hP hS ⊢
    have hP : va_P (dC, dI) vwCl [(xI bs cI 120 fb), (xo_6_ririii h bs (nI z) td fpn_3 fn_3 k)] H := hP
    have hD := dto hP hD
    refine lv_iconst (v := 0) hx hb dX6_readNumber_20 (by decide) ?_
    have hX9 := cut2 (wc := [(xo_6_ririii h bs (nI z) td fpn_3 fn_3 k), (xI bs cI 120 fb)]) hP hD [1, 0] (by decide +kernel) rfl
    exact W.iret (v := 0) hx hb hr (fun t ht hW => ⟨⟨0, (), rfl, (lf_X6_readNumber_3 hz hfg c_2 hF_3_0 hF_3_1 hF_3_2), ⟨fpn_3, fn_3, k, va_Ht ht hX9.1, hX9.2, (lf_X6_readNumber_1 hz hfg c_2 hF_3_0 hF_3_1 hF_3_2), (lf_X6_readNumber_2 hz hfg c_2 hF_3_0 hF_3_1 hF_3_2)⟩⟩, hS.F ht⟩) hS.2.2 dX6_readNumber_21
  · have c_2 : ¬ (fg < 1) := fun q_ => c_2 ((nI_ltI (a := fg) (b := 1) (by omega) (by omega)).mpr q_)
    refine lv_iload_n hx hb dX6_readNumber_10 rfl (lv_at hl 0 rfl) ?_
    refine lv_iconst (v := 2) hx hb dX6_readNumber_11 (by decide) ?_
    refine lv_icmp_le (tgt := 22) hx hb dX6_readNumber_12 (by decide) (fun c_4 => ?_) (fun c_4 => ?_)
    · have c_4 : fg ≤ 2 := (nI_leI (a := fg) (b := 2) (by omega) (by omega)).mp c_4
      refine lv_iconst (v := 0) hx hb dX6_readNumber_22 (by decide) ?_
      refine lv_istore (lv' := [(4, .int 0), (3, .int (nI fg)), (0, .ref h), (1, .int x), (2, .int y)]) hx hb dX6_readNumber_23 hl (by decide) rfl (fun ls hl => ?_)
      refine lv_iconst (v := 0) hx hb dX6_readNumber_25 (by decide) ?_
      refine lv_istore (lv' := [(5, .int 0), (4, .int 0), (3, .int (nI fg)), (0, .ref h), (1, .int x), (2, .int y)]) hx hb dX6_readNumber_26 hl (by decide) rfl (fun ls hl => ?_)
      refine lp_go (σ := (Int32)) (fun ii (st : (Int32)) H locs ls => match st with | w_11 => lv_has ls 6 [(5, .int (nI ii)), (4, .int w_11), (3, .int (nI fg)), (0, .ref h), (1, .int x), (2, .int y)] ∧ va_P (dC, dI) vwCl [(xo_6_ririii h bs (nI z) td fp f k), (xI bs cI 120 fb)] H ∧ va_D A [(xo_6_ririii h bs (nI z) td fp f k), (xI bs cI 120 fb)] ∧ va_S A s.heap H locs ∧ (w_11 = numX fb z k ii)) fg ?_ ?_ 0 (by omega) (0) ⟨lv_sub hl [0, 1, 2, 3, 4, 5] rfl, hP.sub (ws' := [(xo_6_ririii h bs (nI z) td fp f k), (xI bs cI 120 fb)]) [0, 1] rfl, hD.sub (ws' := [(xo_6_ririii h bs (nI z) td fp f k), (xI bs cI 120 fb)]) [0, 1] (by decide +kernel) rfl, hS, rfl⟩
      · rintro ii w_11 H locs ls hii ⟨hl, hP, hD, hS, haf_0⟩ ih
        refine lv_iload hx hb dX6_readNumber_28 (lv_at hl 0 rfl) ?_
        refine lv_iload_n hx hb dX6_readNumber_30 rfl (lv_at hl 2 rfl) ?_
        refine lv_icmp_ge (tgt := 62) hx hb dX6_readNumber_31 (by decide) (fun c_ => absurd c_ (fun q_ => absurd ((nI_leI (a := fg) (b := ii) (by omega) (by omega)).mp q_) (by omega))) (fun _ => ?_)
        refine lv_iload hx hb dX6_readNumber_34 (lv_at hl 1 rfl) ?_
        refine lv_bipush (v := 10) hx hb dX6_readNumber_36 (by decide) ?_
        refine lv_imul hx hb dX6_readNumber_38 ?_
        refine lv_topi (fun v_20 e_20 => ?_)
        refine lv_aload_n hx hb dX6_readNumber_39 rfl (lv_at hl 3 rfl) ?_
        refine lv_aload_n hx hb dX6_readNumber_40 rfl (lv_at hl 3 rfl) ?_
        refine va_get (D := (dC, dI)) (ci := 6) (v := .int k) (C := RX6) (T := TX6) (N := 6) hx hb hts i_X6_readNumber_X6 hown hK hP 0 rfl rfl 5 (by decide) (hts _ mx_X6_readNumber_1) (fun _ h9 => h9) rfl dX6_readNumber_41 ?_
        refine lv_iload hx hb dX6_readNumber_44 (lv_at hl 0 rfl) ?_
        refine lv_iadd hx hb dX6_readNumber_46 ?_
        refine lv_topi (fun v_21 e_21 => ?_)
        have hPc_22 := hP
        refine vp_callSi (W.runV (As := [.int v_21]) (rest := [.int v_20]) ⟨hx, hb, hml, hown, hts⟩ (r_X6_byteAt l dC dI cI cZ cL cJ h bs td z fp f k fb v_21 (hz)) (cwV 1 hts gX6_readNumber_X6_byteAt rfl rfl rfl (by decide +kernel) ⟨Nat.le_of_ble_eq_true rfl, Nat.le_of_ble_eq_true rfl⟩) (pvP 6 0 hK hP rfl rfl hPc_22) rfl rfl hl.1 rfl (lv_room (Nat.le_of_ble_eq_true rfl)) dX6_readNumber_47 ⟨Nat.le_of_ble_eq_true rfl, Nat.le_of_ble_eq_true rfl⟩) (fun r_22 h_22 => ?_)
        refine lv_iadd hx hb dX6_readNumber_50 ?_
        refine lv_topi (fun v_23 e_23 => ?_)
        refine lv_bipush (v := 48) hx hb dX6_readNumber_51 (by decide) ?_
        refine lv_isub hx hb dX6_readNumber_53 ?_
        refine lv_topi (fun v_24 e_24 => ?_)
        refine lv_istore (lv' := [(4, .int v_24), (5, .int (nI ii)), (3, .int (nI fg)), (0, .ref h), (1, .int x), (2, .int y)]) hx hb dX6_readNumber_54 hl (by decide) rfl (fun ls hl => ?_)
        refine lv_iinc (v := (nI (ii + 1))) (lv' := [(5, .int (nI (ii + 1))), (4, .int v_24), (3, .int (nI fg)), (0, .ref h), (1, .int x), (2, .int y)]) hx hb dX6_readNumber_56 hl (k := 1) rfl (nI_add ii 1) (by decide) rfl (fun ls hl => ?_)
        refine lv_goto (tgt := 28) hx hb dX6_readNumber_59 (by decide) ?_
        exact ih (v_24) _ _ _ ⟨lv_sub hl [0, 1, 2, 3, 4, 5] rfl, hP.sub (ws' := [(xo_6_ririii h bs (nI z) td fp f k), (xI bs cI 120 fb)]) [0, 1] rfl, hD.sub (ws' := [(xo_6_ririii h bs (nI z) td fp f k), (xI bs cI 120 fb)]) [0, 1] (by decide +kernel) rfl, hS, (lf_X6_readNumber_4 hz hfg c_2 c_4 hii haf_0 e_20 e_21 h_22 e_23 e_24)⟩
      · rintro w_11 H locs ls ⟨hl, hP, hD, hS, haf_0⟩
        refine lv_iload hx hb dX6_readNumber_28 (lv_at hl 0 rfl) ?_
        refine lv_iload_n hx hb dX6_readNumber_30 rfl (lv_at hl 2 rfl) ?_
        refine lv_icmp_ge (tgt := 62) hx hb dX6_readNumber_31 (by decide) (fun _ => ?_) (fun c_ => absurd ((nI_leI (a := fg) (b := fg) (by omega) (by omega)).mpr (by omega)) c_)
        refine lv_iload hx hb dX6_readNumber_62 (lv_at hl 1 rfl) ?_
        refine lv_iload_n hx hb dX6_readNumber_64 rfl (lv_at hl 4 rfl) ?_
        refine lv_icmp_lt (tgt := 74) hx hb dX6_readNumber_65 (by decide) (fun c_26 => ?_) (fun c_26 => ?_)
        · skip
          refine lv_aload_n hx hb dX6_readNumber_74 rfl (lv_at hl 3 rfl) ?_
          refine lv_iconst (v := 2) hx hb dX6_readNumber_75 (by decide) ?_
          have hc_27 := cutW (wc := [(xo_6_ririii h bs (nI z) td fp f k)]) hP hD hS hA [0] (by decide +kernel) rfl
          refine va_callv (va_runV (As := [.int 2]) (rest := []) ⟨hx, hb, hml, hown, hts⟩ (r_X6_fail l dC dI cI cZ cL cJ H.size h bs td z fp f k 2 ) (cwV 1 hts gX6_readNumber_X6_fail rfl rfl rfl (by decide +kernel) ⟨Nat.le_of_ble_eq_true rfl, Nat.le_of_ble_eq_true rfl⟩) (pvW 6 0 hK hP rfl rfl hc_27) rfl rfl hl.1 rfl (lv_room (Nat.le_of_ble_eq_true rfl)) dX6_readNumber_76 ⟨Nat.le_of_ble_eq_true rfl, Nat.le_of_ble_eq_true rfl⟩) hS (fun q _ h => hc_27.2.2 q h) hc_27.2.2 (fun u_27 t_27 H1 locs ht hvm h_27 hB hz1 hk1 hS => ?_)
          refine xl_2_5 hB (fun fpn_27 fn_27 hP1 hD1 hF_27_0 hF_27_1 hF_27_2 => ?_)
          clear hB
          rw [ht] at hP1
          obtain ⟨hP, hD⟩ := va_join (wr := [(xI bs cI 120 fb)]) (w1 := [(xo_6_ririii h bs (nI z) td fpn_27 fn_27 k)]) hP hD [0] [1] rfl rfl (by decide +kernel) (by decide +kernel) hk1 hc_27.2.2 hP1 hD1
          generalize H1 = H at hP hS ⊢
          have hP : va_P (dC, dI) vwCl [(xI bs cI 120 fb), (xo_6_ririii h bs (nI z) td fpn_27 fn_27 k)] H := hP
          have hD := dto hP hD
          refine lv_iconst (v := 0) hx hb dX6_readNumber_79 (by decide) ?_
          have hX9 := cut2 (wc := [(xo_6_ririii h bs (nI z) td fpn_27 fn_27 k), (xI bs cI 120 fb)]) hP hD [1, 0] (by decide +kernel) rfl
          exact W.iret (v := 0) hx hb hr (fun t ht hW => ⟨⟨0, (), rfl, (lf_X6_readNumber_7 hz hfg c_2 c_4 haf_0 c_26 hF_27_0 hF_27_1 hF_27_2), ⟨fpn_27, fn_27, k, va_Ht ht hX9.1, hX9.2, (lf_X6_readNumber_5 hz hfg c_2 c_4 haf_0 c_26 hF_27_0 hF_27_1 hF_27_2), (lf_X6_readNumber_6 hz hfg c_2 c_4 haf_0 c_26 hF_27_0 hF_27_1 hF_27_2)⟩⟩, hS.F ht⟩) hS.2.2 dX6_readNumber_80
        · skip
          refine lv_iload hx hb dX6_readNumber_68 (lv_at hl 1 rfl) ?_
          refine lv_iload_n hx hb dX6_readNumber_70 rfl (lv_at hl 5 rfl) ?_
          refine lv_icmp_le (tgt := 81) hx hb dX6_readNumber_71 (by decide) (fun c_28 => ?_) (fun c_28 => ?_)
          · skip
            refine lv_aload_n hx hb dX6_readNumber_81 rfl (lv_at hl 3 rfl) ?_
            refine lv_dup hx hb dX6_readNumber_82 rfl ?_
            refine va_get (D := (dC, dI)) (ci := 6) (v := .int k) (C := RX6) (T := TX6) (N := 6) hx hb hts i_X6_readNumber_X6 hown hK hP 0 rfl rfl 5 (by decide) (hts _ mx_X6_readNumber_1) (fun _ h9 => h9) rfl dX6_readNumber_83 ?_
            refine lv_iload_n hx hb dX6_readNumber_86 rfl (lv_at hl 2 rfl) ?_
            refine lv_iadd hx hb dX6_readNumber_87 ?_
            refine lv_topi (fun v_29 e_29 => ?_)
            refine va_put (D := (dC, dI)) (ci := 6) (v := .int v_29) (ty := .int) (C := RX6) (T := TX6) (N := 6) hx hb hts i_X6_readNumber_X6 tyX6 tyX6_ok nmX6 hown hK hP hD hS 0 rfl rfl 5 (by decide) (hts _ mx_X6_readNumber_1) (fun _ h9 => h9) rfl (by decide +kernel) rfl rfl (Nat.le_of_ble_eq_true rfl) dX6_readNumber_88 (fun H locs hP hD hS => ?_)
            have hP : va_P (dC, dI) vwCl [(xo_6_ririii h bs (nI z) td fp f v_29), (xI bs cI 120 fb)] H := hP
            have hD := dto hP hD
            refine lv_iload hx hb dX6_readNumber_91 (lv_at hl 1 rfl) ?_
            have hX9 := cut2 (wc := [(xo_6_ririii h bs (nI z) td fp f v_29), (xI bs cI 120 fb)]) hP hD [0, 1] (by decide +kernel) rfl
            exact W.iret (v := w_11) hx hb hr (fun t ht hW => ⟨⟨w_11, (), rfl, (lf_X6_readNumber_10 hz hfg c_2 c_4 haf_0 c_26 c_28 e_29), ⟨fp, f, v_29, va_Ht ht hX9.1, hX9.2, (lf_X6_readNumber_8 hz hfg c_2 c_4 haf_0 c_26 c_28 e_29), (lf_X6_readNumber_9 hz hfg c_2 c_4 haf_0 c_26 c_28 e_29)⟩⟩, hS.F ht⟩) hS.2.2 dX6_readNumber_93
          · skip
            refine lv_aload_n hx hb dX6_readNumber_74 rfl (lv_at hl 3 rfl) ?_
            refine lv_iconst (v := 2) hx hb dX6_readNumber_75 (by decide) ?_
            have hc_30 := cutW (wc := [(xo_6_ririii h bs (nI z) td fp f k)]) hP hD hS hA [0] (by decide +kernel) rfl
            refine va_callv (va_runV (As := [.int 2]) (rest := []) ⟨hx, hb, hml, hown, hts⟩ (r_X6_fail l dC dI cI cZ cL cJ H.size h bs td z fp f k 2 ) (cwV 1 hts gX6_readNumber_X6_fail rfl rfl rfl (by decide +kernel) ⟨Nat.le_of_ble_eq_true rfl, Nat.le_of_ble_eq_true rfl⟩) (pvW 6 0 hK hP rfl rfl hc_30) rfl rfl hl.1 rfl (lv_room (Nat.le_of_ble_eq_true rfl)) dX6_readNumber_76 ⟨Nat.le_of_ble_eq_true rfl, Nat.le_of_ble_eq_true rfl⟩) hS (fun q _ h => hc_30.2.2 q h) hc_30.2.2 (fun u_30 t_30 H1 locs ht hvm h_30 hB hz1 hk1 hS => ?_)
            refine xl_2_5 hB (fun fpn_30 fn_30 hP1 hD1 hF_30_0 hF_30_1 hF_30_2 => ?_)
            clear hB
            rw [ht] at hP1
            obtain ⟨hP, hD⟩ := va_join (wr := [(xI bs cI 120 fb)]) (w1 := [(xo_6_ririii h bs (nI z) td fpn_30 fn_30 k)]) hP hD [0] [1] rfl rfl (by decide +kernel) (by decide +kernel) hk1 hc_30.2.2 hP1 hD1
            generalize H1 = H at hP hS ⊢
            have hP : va_P (dC, dI) vwCl [(xI bs cI 120 fb), (xo_6_ririii h bs (nI z) td fpn_30 fn_30 k)] H := hP
            have hD := dto hP hD
            refine lv_iconst (v := 0) hx hb dX6_readNumber_79 (by decide) ?_
            have hX9 := cut2 (wc := [(xo_6_ririii h bs (nI z) td fpn_30 fn_30 k), (xI bs cI 120 fb)]) hP hD [1, 0] (by decide +kernel) rfl
            exact W.iret (v := 0) hx hb hr (fun t ht hW => ⟨⟨0, (), rfl, (lf_X6_readNumber_13 hz hfg c_2 c_4 haf_0 c_26 c_28 hF_30_0 hF_30_1 hF_30_2), ⟨fpn_30, fn_30, k, va_Ht ht hX9.1, hX9.2, (lf_X6_readNumber_11 hz hfg c_2 c_4 haf_0 c_26 c_28 hF_30_0 hF_30_1 hF_30_2), (lf_X6_readNumber_12 hz hfg c_2 c_4 haf_0 c_26 c_28 hF_30_0 hF_30_1 hF_30_2)⟩⟩, hS.F ht⟩) hS.2.2 dX6_readNumber_80
    · have c_4 : ¬ (fg ≤ 2) := fun q_ => c_4 ((nI_leI (a := fg) (b := 2) (by omega) (by omega)).mpr q_)
      refine lv_aload_n hx hb dX6_readNumber_15 rfl (lv_at hl 1 rfl) ?_
      refine lv_iconst (v := 1) hx hb dX6_readNumber_16 (by decide) ?_
      have hc_31 := cutW (wc := [(xo_6_ririii h bs (nI z) td fp f k)]) hP hD hS hA [0] (by decide +kernel) rfl
      refine va_callv (va_runV (As := [.int 1]) (rest := []) ⟨hx, hb, hml, hown, hts⟩ (r_X6_fail l dC dI cI cZ cL cJ s.heap.size h bs td z fp f k 1 ) (cwV 1 hts gX6_readNumber_X6_fail rfl rfl rfl (by decide +kernel) ⟨Nat.le_of_ble_eq_true rfl, Nat.le_of_ble_eq_true rfl⟩) (pvW 6 0 hK hP rfl rfl hc_31) rfl rfl hl.1 rfl (lv_room (Nat.le_of_ble_eq_true rfl)) dX6_readNumber_17 ⟨Nat.le_of_ble_eq_true rfl, Nat.le_of_ble_eq_true rfl⟩) hS (fun q _ h => hc_31.2.2 q h) hc_31.2.2 (fun u_31 t_31 H1 locs ht hvm h_31 hB hz1 hk1 hS => ?_)
      refine xl_2_5 hB (fun fpn_31 fn_31 hP1 hD1 hF_31_0 hF_31_1 hF_31_2 => ?_)
      clear hB
      rw [ht] at hP1
      obtain ⟨hP, hD⟩ := va_join (wr := [(xI bs cI 120 fb)]) (w1 := [(xo_6_ririii h bs (nI z) td fpn_31 fn_31 k)]) hP hD [0] [1] rfl rfl (by decide +kernel) (by decide +kernel) hk1 hc_31.2.2 hP1 hD1
      generalize H1 = H at hP hS ⊢
      have hP : va_P (dC, dI) vwCl [(xI bs cI 120 fb), (xo_6_ririii h bs (nI z) td fpn_31 fn_31 k)] H := hP
      have hD := dto hP hD
      refine lv_iconst (v := 0) hx hb dX6_readNumber_20 (by decide) ?_
      have hX9 := cut2 (wc := [(xo_6_ririii h bs (nI z) td fpn_31 fn_31 k), (xI bs cI 120 fb)]) hP hD [1, 0] (by decide +kernel) rfl
      exact W.iret (v := 0) hx hb hr (fun t ht hW => ⟨⟨0, (), rfl, (lf_X6_readNumber_16 hz hfg c_2 c_4 hF_31_0 hF_31_1 hF_31_2), ⟨fpn_31, fn_31, k, va_Ht ht hX9.1, hX9.2, (lf_X6_readNumber_14 hz hfg c_2 c_4 hF_31_0 hF_31_1 hF_31_2), (lf_X6_readNumber_15 hz hfg c_2 c_4 hF_31_0 hF_31_1 hF_31_2)⟩⟩, hS.F ht⟩) hS.2.2 dX6_readNumber_21
theorem lf_X6_readLaw_1 {z : Nat} {fp : Int32} {f : Int32} {k : Int32} {fb : Nat → Int32} {tww : Nat} {tkk : Nat} {fpn_1 : Int32} {fn_1 : Int32} {kn_1 : Int32} {fpn_2 : Int32} {fn_2 : Int32} {kn_2 : Int32} {r_2 : Int32} {fpn_3 : Int32} {fn_3 : Int32} {kn_3 : Int32} {v_4 : Int32} {fpn_5 : Int32} {fn_5 : Int32} {kn_5 : Int32} {r_5 : Int32} {fpn_6 : Int32} {fn_6 : Int32} {kn_6 : Int32} {fpn_7 : Int32} {fn_7 : Int32} {kn_7 : Int32} {r_7 : Int32} {fpn_8 : Int32} {fn_8 : Int32} {kn_8 : Int32} (hz : z ≤ 120) (htww : tww ≤ 6) (htkk : tkk ≤ 6) (hF_1_0 : (fn_1 = 0 → f = 0 ∧ bAt fb z k = 109)) (hF_1_1 : rB fb z 109 (fp, f, k) = (fpn_1, fn_1, kn_1)) (hF_2_0 : (fn_2 = 0 → fn_1 = 0)) (hF_2_1 : rN fb z 5 15 (fpn_1, fn_1, kn_1) = (fpn_2, fn_2, kn_2)) (h_2 : r_2 = (rV fb z 5 15 kn_1)) (hF_3_0 : (fn_3 = 0 → fn_2 = 0 ∧ bAt fb z kn_2 = 44)) (hF_3_1 : rB fb z 44 (fpn_2, fn_2, kn_2) = (fpn_3, fn_3, kn_3)) (e_4 : v_4 = (r_2 - 1)) (hF_5_0 : (fn_5 = 0 → fn_3 = 0)) (hF_5_1 : rN fb z 0 v_4 (fpn_3, fn_3, kn_3) = (fpn_5, fn_5, kn_5)) (h_5 : r_5 = (rV fb z 0 v_4 kn_3)) (hF_6_0 : (fn_6 = 0 → fn_5 = 0 ∧ bAt fb z kn_5 = 44)) (hF_6_1 : rB fb z 44 (fpn_5, fn_5, kn_5) = (fpn_6, fn_6, kn_6)) (hF_7_0 : (fn_7 = 0 → fn_6 = 0)) (hF_7_1 : rN fb z 0 4 (fpn_6, fn_6, kn_6) = (fpn_7, fn_7, kn_7)) (h_7 : r_7 = (rV fb z 0 4 kn_6)) (hF_8_0 : (fn_8 = 0 → fn_7 = 0 ∧ bAt fb z kn_7 = 59)) (hF_8_1 : rB fb z 59 (fpn_7, fn_7, kn_7) = (fpn_8, fn_8, kn_8)) : xLc fb z (fp, f, k) = (fpn_8, fn_8, kn_8) := by
  simp only [xLc, xLb, xLa, xL2, xL1, xL0]; grind
theorem lf_X6_readLaw_2 {z : Nat} {fp : Int32} {f : Int32} {k : Int32} {fb : Nat → Int32} {tww : Nat} {tkk : Nat} {fpn_1 : Int32} {fn_1 : Int32} {kn_1 : Int32} {fpn_2 : Int32} {fn_2 : Int32} {kn_2 : Int32} {r_2 : Int32} {fpn_3 : Int32} {fn_3 : Int32} {kn_3 : Int32} {v_4 : Int32} {fpn_5 : Int32} {fn_5 : Int32} {kn_5 : Int32} {r_5 : Int32} {fpn_6 : Int32} {fn_6 : Int32} {kn_6 : Int32} {fpn_7 : Int32} {fn_7 : Int32} {kn_7 : Int32} {r_7 : Int32} {fpn_8 : Int32} {fn_8 : Int32} {kn_8 : Int32} (hz : z ≤ 120) (htww : tww ≤ 6) (htkk : tkk ≤ 6) (hF_1_0 : (fn_1 = 0 → f = 0 ∧ bAt fb z k = 109)) (hF_1_1 : rB fb z 109 (fp, f, k) = (fpn_1, fn_1, kn_1)) (hF_2_0 : (fn_2 = 0 → fn_1 = 0)) (hF_2_1 : rN fb z 5 15 (fpn_1, fn_1, kn_1) = (fpn_2, fn_2, kn_2)) (h_2 : r_2 = (rV fb z 5 15 kn_1)) (hF_3_0 : (fn_3 = 0 → fn_2 = 0 ∧ bAt fb z kn_2 = 44)) (hF_3_1 : rB fb z 44 (fpn_2, fn_2, kn_2) = (fpn_3, fn_3, kn_3)) (e_4 : v_4 = (r_2 - 1)) (hF_5_0 : (fn_5 = 0 → fn_3 = 0)) (hF_5_1 : rN fb z 0 v_4 (fpn_3, fn_3, kn_3) = (fpn_5, fn_5, kn_5)) (h_5 : r_5 = (rV fb z 0 v_4 kn_3)) (hF_6_0 : (fn_6 = 0 → fn_5 = 0 ∧ bAt fb z kn_5 = 44)) (hF_6_1 : rB fb z 44 (fpn_5, fn_5, kn_5) = (fpn_6, fn_6, kn_6)) (hF_7_0 : (fn_7 = 0 → fn_6 = 0)) (hF_7_1 : rN fb z 0 4 (fpn_6, fn_6, kn_6) = (fpn_7, fn_7, kn_7)) (h_7 : r_7 = (rV fb z 0 4 kn_6)) (hF_8_0 : (fn_8 = 0 → fn_7 = 0 ∧ bAt fb z kn_7 = 59)) (hF_8_1 : rB fb z 59 (fpn_7, fn_7, kn_7) = (fpn_8, fn_8, kn_8)) : r_2 = xL0 fb z (fp, f, k) := by
  simp only [xLc, xLb, xLa, xL2, xL1, xL0]; grind
theorem lf_X6_readLaw_3 {z : Nat} {fp : Int32} {f : Int32} {k : Int32} {fb : Nat → Int32} {tww : Nat} {tkk : Nat} {fpn_1 : Int32} {fn_1 : Int32} {kn_1 : Int32} {fpn_2 : Int32} {fn_2 : Int32} {kn_2 : Int32} {r_2 : Int32} {fpn_3 : Int32} {fn_3 : Int32} {kn_3 : Int32} {v_4 : Int32} {fpn_5 : Int32} {fn_5 : Int32} {kn_5 : Int32} {r_5 : Int32} {fpn_6 : Int32} {fn_6 : Int32} {kn_6 : Int32} {fpn_7 : Int32} {fn_7 : Int32} {kn_7 : Int32} {r_7 : Int32} {fpn_8 : Int32} {fn_8 : Int32} {kn_8 : Int32} (hz : z ≤ 120) (htww : tww ≤ 6) (htkk : tkk ≤ 6) (hF_1_0 : (fn_1 = 0 → f = 0 ∧ bAt fb z k = 109)) (hF_1_1 : rB fb z 109 (fp, f, k) = (fpn_1, fn_1, kn_1)) (hF_2_0 : (fn_2 = 0 → fn_1 = 0)) (hF_2_1 : rN fb z 5 15 (fpn_1, fn_1, kn_1) = (fpn_2, fn_2, kn_2)) (h_2 : r_2 = (rV fb z 5 15 kn_1)) (hF_3_0 : (fn_3 = 0 → fn_2 = 0 ∧ bAt fb z kn_2 = 44)) (hF_3_1 : rB fb z 44 (fpn_2, fn_2, kn_2) = (fpn_3, fn_3, kn_3)) (e_4 : v_4 = (r_2 - 1)) (hF_5_0 : (fn_5 = 0 → fn_3 = 0)) (hF_5_1 : rN fb z 0 v_4 (fpn_3, fn_3, kn_3) = (fpn_5, fn_5, kn_5)) (h_5 : r_5 = (rV fb z 0 v_4 kn_3)) (hF_6_0 : (fn_6 = 0 → fn_5 = 0 ∧ bAt fb z kn_5 = 44)) (hF_6_1 : rB fb z 44 (fpn_5, fn_5, kn_5) = (fpn_6, fn_6, kn_6)) (hF_7_0 : (fn_7 = 0 → fn_6 = 0)) (hF_7_1 : rN fb z 0 4 (fpn_6, fn_6, kn_6) = (fpn_7, fn_7, kn_7)) (h_7 : r_7 = (rV fb z 0 4 kn_6)) (hF_8_0 : (fn_8 = 0 → fn_7 = 0 ∧ bAt fb z kn_7 = 59)) (hF_8_1 : rB fb z 59 (fpn_7, fn_7, kn_7) = (fpn_8, fn_8, kn_8)) : r_5 = xL1 fb z (fp, f, k) := by
  simp only [xLc, xLb, xLa, xL2, xL1, xL0]; grind
theorem lf_X6_readLaw_4 {z : Nat} {fp : Int32} {f : Int32} {k : Int32} {fb : Nat → Int32} {tww : Nat} {tkk : Nat} {fpn_1 : Int32} {fn_1 : Int32} {kn_1 : Int32} {fpn_2 : Int32} {fn_2 : Int32} {kn_2 : Int32} {r_2 : Int32} {fpn_3 : Int32} {fn_3 : Int32} {kn_3 : Int32} {v_4 : Int32} {fpn_5 : Int32} {fn_5 : Int32} {kn_5 : Int32} {r_5 : Int32} {fpn_6 : Int32} {fn_6 : Int32} {kn_6 : Int32} {fpn_7 : Int32} {fn_7 : Int32} {kn_7 : Int32} {r_7 : Int32} {fpn_8 : Int32} {fn_8 : Int32} {kn_8 : Int32} (hz : z ≤ 120) (htww : tww ≤ 6) (htkk : tkk ≤ 6) (hF_1_0 : (fn_1 = 0 → f = 0 ∧ bAt fb z k = 109)) (hF_1_1 : rB fb z 109 (fp, f, k) = (fpn_1, fn_1, kn_1)) (hF_2_0 : (fn_2 = 0 → fn_1 = 0)) (hF_2_1 : rN fb z 5 15 (fpn_1, fn_1, kn_1) = (fpn_2, fn_2, kn_2)) (h_2 : r_2 = (rV fb z 5 15 kn_1)) (hF_3_0 : (fn_3 = 0 → fn_2 = 0 ∧ bAt fb z kn_2 = 44)) (hF_3_1 : rB fb z 44 (fpn_2, fn_2, kn_2) = (fpn_3, fn_3, kn_3)) (e_4 : v_4 = (r_2 - 1)) (hF_5_0 : (fn_5 = 0 → fn_3 = 0)) (hF_5_1 : rN fb z 0 v_4 (fpn_3, fn_3, kn_3) = (fpn_5, fn_5, kn_5)) (h_5 : r_5 = (rV fb z 0 v_4 kn_3)) (hF_6_0 : (fn_6 = 0 → fn_5 = 0 ∧ bAt fb z kn_5 = 44)) (hF_6_1 : rB fb z 44 (fpn_5, fn_5, kn_5) = (fpn_6, fn_6, kn_6)) (hF_7_0 : (fn_7 = 0 → fn_6 = 0)) (hF_7_1 : rN fb z 0 4 (fpn_6, fn_6, kn_6) = (fpn_7, fn_7, kn_7)) (h_7 : r_7 = (rV fb z 0 4 kn_6)) (hF_8_0 : (fn_8 = 0 → fn_7 = 0 ∧ bAt fb z kn_7 = 59)) (hF_8_1 : rB fb z 59 (fpn_7, fn_7, kn_7) = (fpn_8, fn_8, kn_8)) : r_7 = xL2 fb z (fp, f, k) := by
  simp only [xLc, xLb, xLa, xL2, xL1, xL0]; grind
set_option maxHeartbeats 4000000 in
set_option maxRecDepth 100000 in
theorem r_X6_readLaw (l : Launch) (dC : Nat → ClassId) (dI : Nat → Nat → Nat) (cI cZ cL cJ : ClassId) (sz : Nat) (h : Nat) (bs : Nat) (td : Nat) (z : Nat) (fp : Int32) (f : Int32) (k : Int32) (fb : Nat → Int32) (tv0 : Int32) (tv1 : Int32) (tv2 : Int32) (tv3 : Int32) (tv5 : Int32) (thh : Nat) (tww : Nat) (tkk : Nat) (tb1 : Nat) (tb2 : Nat) (tb3 : Nat) (tb4 : Nat) (tb5 : Nat) (tg1 : Nat → Int32) (tg2 : Nat → Int32) (tg3 : Nat → Int32) (tg4 : Nat → Int32) (tg5 : Nat → Int32) (hz : z ≤ 120) (htww : tww ≤ 6) (htkk : tkk ≤ 6) : Met l yX6_readLaw wsX6_readLaw ({ frames := 3, cells := 0, slots := 0, locals := 67 }) (va_Pc [.ref h] (fun U => U.heap.size = sz ∧ va_P (dC, dI) vwCl [(xo_6_ririii h bs (nI z) td fp f k), (xI bs cI 120 fb), (xo_3_iiiiiiiirrrrr td tv0 tv1 tv2 tv3 (nI thh) tv5 (nI tww) (nI tkk) tb1 tb2 tb3 tb4 tb5), (xI tb1 cI 6 tg1), (xI tb2 cI 6 tg2), (xI tb3 cI 6 tg3), (xI tb4 cI 6 tg4), (xI tb5 cI 6 tg5)] U.heap ∧ va_K (dC, dI) vwCl [(cI, .int), (cZ, .boolean), (cL, .object RX3), (cJ, .array .int)] U ∧ va_D (fun _ => True) [(xo_6_ririii h bs (nI z) td fp f k), (xI bs cI 120 fb), (xo_3_iiiiiiiirrrrr td tv0 tv1 tv2 tv3 (nI thh) tv5 (nI tww) (nI tkk) tb1 tb2 tb3 tb4 tb5), (xI tb1 cI 6 tg1), (xI tb2 cI 6 tg2), (xI tb3 cI 6 tg3), (xI tb4 cI 6 tg4), (xI tb5 cI 6 tg5)])) (va_Qv (fun (_ : Unit) => True) (fun (_ : Unit) t => ∃ (fpn : Int32) (fn : Int32) (kn : Int32) (tv0n : Int32) (tv1n : Int32) (tv2n : Int32), va_P (dC, dI) vwCl [(xo_6_ririii h bs (nI z) td fpn fn kn), (xI bs cI 120 fb), (xo_3_iiiiiiiirrrrr td tv0n tv1n tv2n tv3 (nI thh) tv5 (nI tww) (nI tkk) tb1 tb2 tb3 tb4 tb5), (xI tb1 cI 6 tg1), (xI tb2 cI 6 tg2), (xI tb3 cI 6 tg3), (xI tb4 cI 6 tg4), (xI tb5 cI 6 tg5)] t.heap ∧ va_D (va_A [(xo_6_ririii h bs (nI z) td fp f k), (xI bs cI 120 fb), (xo_3_iiiiiiiirrrrr td tv0 tv1 tv2 tv3 (nI thh) tv5 (nI tww) (nI tkk) tb1 tb2 tb3 tb4 tb5), (xI tb1 cI 6 tg1), (xI tb2 cI 6 tg2), (xI tb3 cI 6 tg3), (xI tb4 cI 6 tg4), (xI tb5 cI 6 tg5)] sz) [(xo_6_ririii h bs (nI z) td fpn fn kn), (xI bs cI 120 fb), (xo_3_iiiiiiiirrrrr td tv0n tv1n tv2n tv3 (nI thh) tv5 (nI tww) (nI tkk) tb1 tb2 tb3 tb4 tb5), (xI tb1 cI 6 tg1), (xI tb2 cI 6 tg2), (xI tb3 cI 6 tg3), (xI tb4 cI 6 tg4), (xI tb5 cI 6 tg5)] ∧ xLc fb z (fp, f, k) = (fpn, fn, kn) ∧ tv0n = xL0 fb z (fp, f, k) ∧ tv1n = xL1 fb z (fp, f, k) ∧ tv2n = xL2 fb z (fp, f, k)) (va_A [(xo_6_ririii h bs (nI z) td fp f k), (xI bs cI 120 fb), (xo_3_iiiiiiiirrrrr td tv0 tv1 tv2 tv3 (nI thh) tv5 (nI tww) (nI tkk) tb1 tb2 tb3 tb4 tb5), (xI tb1 cI 6 tg1), (xI tb2 cI 6 tg2), (xI tb3 cI 6 tg3), (xI tb4 cI 6 tg4), (xI tb5 cI 6 tg5)] sz)) 0 0 (va_A [(xo_6_ririii h bs (nI z) td fp f k), (xI bs cI 120 fb), (xo_3_iiiiiiiirrrrr td tv0 tv1 tv2 tv3 (nI thh) tv5 (nI tww) (nI tkk) tb1 tb2 tb3 tb4 tb5), (xI tb1 cI 6 tg1), (xI tb2 cI 6 tg2), (xI tb3 cI 6 tg3), (xI tb4 cI 6 tg4), (xI tb5 cI 6 tg5)] sz) := by
  refine Met.ofW (cc := cX6_readLaw) (maxL := 1) (ret := none) (by decide) rfl ?_
  intro p e s m args below meth c s₁ B hml hv
  obtain ⟨rfl, hsz, hP, hK, hD0⟩ := hv
  have hx := B.exec
  have hb := B.bytes
  have hr := B.returns
  have hts := atoms_spec (ws := wsX6_readLaw) B.pre
  have hown : s.vm.findClass RX6 = some m.cls := findClass_of_methodNamed B.named
  have hlocks := B.notSynchronized
  subst hsz
  have hD := hD0.self (sz := s.heap.size)
  generalize hAe : va_A [(xo_6_ririii h bs (nI z) td fp f k), (xI bs cI 120 fb), (xo_3_iiiiiiiirrrrr td tv0 tv1 tv2 tv3 (nI thh) tv5 (nI tww) (nI tkk) tb1 tb2 tb3 tb4 tb5), (xI tb1 cI 6 tg1), (xI tb2 cI 6 tg2), (xI tb3 cI 6 tg3), (xI tb4 cI 6 tg4), (xI tb5 cI 6 tg5)] s.heap.size = A at hD ⊢
  have hA : ∀ q : Nat, s.heap.size ≤ q → A q := fun q h => by rw [← hAe]; exact Or.inr h
  have hS : va_S A s.heap s.heap [] := va_S.rf
  have hP : va_P (dC, dI) vwCl [(xo_6_ririii h bs (nI z) td fp f k), (xI bs cI 120 fb), (xo_3_iiiiiiiirrrrr td tv0 tv1 tv2 tv3 (nI thh) tv5 (nI tww) (nI tkk) tb1 tb2 tb3 tb4 tb5), (xI tb1 cI 6 tg1), (xI tb2 cI 6 tg2), (xI tb3 cI 6 tg3), (xI tb4 cI 6 tg4), (xI tb5 cI 6 tg5)] s.heap := hP
  have hl := lv_entry ([.ref h]) (n := 1) (Nat.le_of_ble_eq_true rfl)
  rw [lg_entry_eq]
  generalize (lg_sl ([.ref h]) ++ List.replicate (1 - (lg_sl ([.ref h])).length) Slot.unset).toArray = ls at hl ⊢
  have hl : lv_has ls 1 [(0, .ref h)] := hl
  refine lv_aload_n hx hb dX6_readLaw_0 rfl (lv_at hl 0 rfl) ?_
  refine lv_bipush (v := 109) hx hb dX6_readLaw_1 (by decide) ?_
  have hc_1 := cutW (wc := [(xo_6_ririii h bs (nI z) td fp f k), (xI bs cI 120 fb)]) hP hD hS hA [0, 1] (by decide +kernel) rfl
  refine va_callv (va_runV (As := [.int 109]) (rest := []) ⟨hx, hb, hml, hown, hts⟩ (r_X6_readByte l dC dI cI cZ cL cJ s.heap.size h bs td z fp f k fb 109 (hz)) (cwV 1 hts gX6_readLaw_X6_readByte rfl rfl rfl (by decide +kernel) ⟨Nat.le_of_ble_eq_true rfl, Nat.le_of_ble_eq_true rfl⟩) (pvW 6 0 hK hP rfl rfl hc_1) rfl rfl hl.1 rfl (lv_room (Nat.le_of_ble_eq_true rfl)) dX6_readLaw_3 ⟨Nat.le_of_ble_eq_true rfl, Nat.le_of_ble_eq_true rfl⟩) hS (fun q _ h => hc_1.2.2 q h) hc_1.2.2 (fun u_1 t_1 H1 locs ht hvm h_1 hB hz1 hk1 hS => ?_)
  refine xl_3_4 hB (fun fpn_1 fn_1 kn_1 hP1 hD1 hF_1_0 hF_1_1 => ?_)
  clear hB
  rw [ht] at hP1
  obtain ⟨hP, hD⟩ := va_join (wr := [(xo_3_iiiiiiiirrrrr td tv0 tv1 tv2 tv3 (nI thh) tv5 (nI tww) (nI tkk) tb1 tb2 tb3 tb4 tb5), (xI tb1 cI 6 tg1), (xI tb2 cI 6 tg2), (xI tb3 cI 6 tg3), (xI tb4 cI 6 tg4), (xI tb5 cI 6 tg5)]) (w1 := [(xo_6_ririii h bs (nI z) td fpn_1 fn_1 kn_1), (xI bs cI 120 fb)]) hP hD [0, 1] [2, 3, 4, 5, 6, 7] rfl rfl (by decide +kernel) (by decide +kernel) hk1 hc_1.2.2 hP1 hD1
  generalize H1 = H at hP hS ⊢
  have hP : va_P (dC, dI) vwCl [(xo_3_iiiiiiiirrrrr td tv0 tv1 tv2 tv3 (nI thh) tv5 (nI tww) (nI tkk) tb1 tb2 tb3 tb4 tb5), (xI tb1 cI 6 tg1), (xI tb2 cI 6 tg2), (xI tb3 cI 6 tg3), (xI tb4 cI 6 tg4), (xI tb5 cI 6 tg5), (xo_6_ririii h bs (nI z) td fpn_1 fn_1 kn_1), (xI bs cI 120 fb)] H := hP
  have hD := dto hP hD
  refine lv_aload_n hx hb dX6_readLaw_6 rfl (lv_at hl 0 rfl) ?_
  refine va_get (D := (dC, dI)) (ci := 6) (v := .ref td) (C := RX6) (T := TX6) (N := 6) hx hb hts i_X6_readLaw_X6 hown hK hP 6 rfl rfl 2 (by decide) (hts _ mx_X6_readLaw_1) (fun _ h9 => h9) rfl dX6_readLaw_7 ?_
  refine lv_aload_n hx hb dX6_readLaw_10 rfl (lv_at hl 0 rfl) ?_
  refine lv_iconst (v := 5) hx hb dX6_readLaw_11 (by decide) ?_
  refine lv_bipush (v := 15) hx hb dX6_readLaw_12 (by decide) ?_
  have hc_2 := cutW (wc := [(xo_6_ririii h bs (nI z) td fpn_1 fn_1 kn_1), (xI bs cI 120 fb)]) hP hD hS hA [6, 7] (by decide +kernel) rfl
  refine va_calli (va_runV (As := [.int 5, .int 15]) (rest := [.ref td]) ⟨hx, hb, hml, hown, hts⟩ (r_X6_readNumber l dC dI cI cZ cL cJ H.size h bs td z fpn_1 fn_1 kn_1 fb 5 15 (hz)) (cwV 2 hts gX6_readLaw_X6_readNumber rfl rfl rfl (by decide +kernel) ⟨Nat.le_of_ble_eq_true rfl, Nat.le_of_ble_eq_true rfl⟩) (pvW 6 6 hK hP rfl rfl hc_2) rfl rfl hl.1 rfl (lv_room (Nat.le_of_ble_eq_true rfl)) dX6_readLaw_14 ⟨Nat.le_of_ble_eq_true rfl, Nat.le_of_ble_eq_true rfl⟩) hS (fun q _ h => hc_2.2.2 q h) hc_2.2.2 (fun r_2 u_2 t_2 H1 locs ht hvm h_2 hB hz1 hk1 hS => ?_)
  refine xl_3_4 hB (fun fpn_2 fn_2 kn_2 hP1 hD1 hF_2_0 hF_2_1 => ?_)
  clear hB
  rw [ht] at hP1
  obtain ⟨hP, hD⟩ := va_join (wr := [(xo_3_iiiiiiiirrrrr td tv0 tv1 tv2 tv3 (nI thh) tv5 (nI tww) (nI tkk) tb1 tb2 tb3 tb4 tb5), (xI tb1 cI 6 tg1), (xI tb2 cI 6 tg2), (xI tb3 cI 6 tg3), (xI tb4 cI 6 tg4), (xI tb5 cI 6 tg5)]) (w1 := [(xo_6_ririii h bs (nI z) td fpn_2 fn_2 kn_2), (xI bs cI 120 fb)]) hP hD [6, 7] [0, 1, 2, 3, 4, 5] rfl rfl (by decide +kernel) (by decide +kernel) hk1 hc_2.2.2 hP1 hD1
  generalize H1 = H at hP hS ⊢
  have hP : va_P (dC, dI) vwCl [(xo_3_iiiiiiiirrrrr td tv0 tv1 tv2 tv3 (nI thh) tv5 (nI tww) (nI tkk) tb1 tb2 tb3 tb4 tb5), (xI tb1 cI 6 tg1), (xI tb2 cI 6 tg2), (xI tb3 cI 6 tg3), (xI tb4 cI 6 tg4), (xI tb5 cI 6 tg5), (xo_6_ririii h bs (nI z) td fpn_2 fn_2 kn_2), (xI bs cI 120 fb)] H := hP
  have hD := dto hP hD
  refine va_put (D := (dC, dI)) (ci := 3) (v := .int r_2) (ty := .int) (C := RX3) (T := TX3) (N := 13) hx hb hts i_X6_readLaw_X3 tyX3 tyX3_ok nmX3 hown hK hP hD hS 0 rfl rfl 0 (by decide) (hts _ mx_X6_readLaw_2) (fun _ h9 => h9) rfl (by decide +kernel) rfl rfl (Nat.le_of_ble_eq_true rfl) dX6_readLaw_17 (fun H locs hP hD hS => ?_)
  have hP : va_P (dC, dI) vwCl [(xo_3_iiiiiiiirrrrr td r_2 tv1 tv2 tv3 (nI thh) tv5 (nI tww) (nI tkk) tb1 tb2 tb3 tb4 tb5), (xI tb1 cI 6 tg1), (xI tb2 cI 6 tg2), (xI tb3 cI 6 tg3), (xI tb4 cI 6 tg4), (xI tb5 cI 6 tg5), (xo_6_ririii h bs (nI z) td fpn_2 fn_2 kn_2), (xI bs cI 120 fb)] H := hP
  have hD := dto hP hD
  refine lv_aload_n hx hb dX6_readLaw_20 rfl (lv_at hl 0 rfl) ?_
  refine lv_bipush (v := 44) hx hb dX6_readLaw_21 (by decide) ?_
  have hc_3 := cutW (wc := [(xo_6_ririii h bs (nI z) td fpn_2 fn_2 kn_2), (xI bs cI 120 fb)]) hP hD hS hA [6, 7] (by decide +kernel) rfl
  refine va_callv (va_runV (As := [.int 44]) (rest := []) ⟨hx, hb, hml, hown, hts⟩ (r_X6_readByte l dC dI cI cZ cL cJ H.size h bs td z fpn_2 fn_2 kn_2 fb 44 (hz)) (cwV 1 hts gX6_readLaw_X6_readByte rfl rfl rfl (by decide +kernel) ⟨Nat.le_of_ble_eq_true rfl, Nat.le_of_ble_eq_true rfl⟩) (pvW 6 6 hK hP rfl rfl hc_3) rfl rfl hl.1 rfl (lv_room (Nat.le_of_ble_eq_true rfl)) dX6_readLaw_23 ⟨Nat.le_of_ble_eq_true rfl, Nat.le_of_ble_eq_true rfl⟩) hS (fun q _ h => hc_3.2.2 q h) hc_3.2.2 (fun u_3 t_3 H1 locs ht hvm h_3 hB hz1 hk1 hS => ?_)
  refine xl_3_4 hB (fun fpn_3 fn_3 kn_3 hP1 hD1 hF_3_0 hF_3_1 => ?_)
  clear hB
  rw [ht] at hP1
  obtain ⟨hP, hD⟩ := va_join (wr := [(xo_3_iiiiiiiirrrrr td r_2 tv1 tv2 tv3 (nI thh) tv5 (nI tww) (nI tkk) tb1 tb2 tb3 tb4 tb5), (xI tb1 cI 6 tg1), (xI tb2 cI 6 tg2), (xI tb3 cI 6 tg3), (xI tb4 cI 6 tg4), (xI tb5 cI 6 tg5)]) (w1 := [(xo_6_ririii h bs (nI z) td fpn_3 fn_3 kn_3), (xI bs cI 120 fb)]) hP hD [6, 7] [0, 1, 2, 3, 4, 5] rfl rfl (by decide +kernel) (by decide +kernel) hk1 hc_3.2.2 hP1 hD1
  generalize H1 = H at hP hS ⊢
  have hP : va_P (dC, dI) vwCl [(xo_3_iiiiiiiirrrrr td r_2 tv1 tv2 tv3 (nI thh) tv5 (nI tww) (nI tkk) tb1 tb2 tb3 tb4 tb5), (xI tb1 cI 6 tg1), (xI tb2 cI 6 tg2), (xI tb3 cI 6 tg3), (xI tb4 cI 6 tg4), (xI tb5 cI 6 tg5), (xo_6_ririii h bs (nI z) td fpn_3 fn_3 kn_3), (xI bs cI 120 fb)] H := hP
  have hD := dto hP hD
  refine lv_aload_n hx hb dX6_readLaw_26 rfl (lv_at hl 0 rfl) ?_
  refine va_get (D := (dC, dI)) (ci := 6) (v := .ref td) (C := RX6) (T := TX6) (N := 6) hx hb hts i_X6_readLaw_X6 hown hK hP 6 rfl rfl 2 (by decide) (hts _ mx_X6_readLaw_1) (fun _ h9 => h9) rfl dX6_readLaw_27 ?_
  refine lv_aload_n hx hb dX6_readLaw_30 rfl (lv_at hl 0 rfl) ?_
  refine lv_iconst (v := 0) hx hb dX6_readLaw_31 (by decide) ?_
  refine lv_aload_n hx hb dX6_readLaw_32 rfl (lv_at hl 0 rfl) ?_
  refine va_get (D := (dC, dI)) (ci := 6) (v := .ref td) (C := RX6) (T := TX6) (N := 6) hx hb hts i_X6_readLaw_X6 hown hK hP 6 rfl rfl 2 (by decide) (hts _ mx_X6_readLaw_1) (fun _ h9 => h9) rfl dX6_readLaw_33 ?_
  refine va_get (D := (dC, dI)) (ci := 3) (v := .int r_2) (C := RX3) (T := TX3) (N := 13) hx hb hts i_X6_readLaw_X3 hown hK hP 0 rfl rfl 0 (by decide) (hts _ mx_X6_readLaw_2) (fun _ h9 => h9) rfl dX6_readLaw_36 ?_
  refine lv_iconst (v := 1) hx hb dX6_readLaw_39 (by decide) ?_
  refine lv_isub hx hb dX6_readLaw_40 ?_
  refine lv_topi (fun v_4 e_4 => ?_)
  have hc_5 := cutW (wc := [(xo_6_ririii h bs (nI z) td fpn_3 fn_3 kn_3), (xI bs cI 120 fb)]) hP hD hS hA [6, 7] (by decide +kernel) rfl
  refine va_calli (va_runV (As := [.int 0, .int v_4]) (rest := [.ref td]) ⟨hx, hb, hml, hown, hts⟩ (r_X6_readNumber l dC dI cI cZ cL cJ H.size h bs td z fpn_3 fn_3 kn_3 fb 0 v_4 (hz)) (cwV 2 hts gX6_readLaw_X6_readNumber rfl rfl rfl (by decide +kernel) ⟨Nat.le_of_ble_eq_true rfl, Nat.le_of_ble_eq_true rfl⟩) (pvW 6 6 hK hP rfl rfl hc_5) rfl rfl hl.1 rfl (lv_room (Nat.le_of_ble_eq_true rfl)) dX6_readLaw_41 ⟨Nat.le_of_ble_eq_true rfl, Nat.le_of_ble_eq_true rfl⟩) hS (fun q _ h => hc_5.2.2 q h) hc_5.2.2 (fun r_5 u_5 t_5 H1 locs ht hvm h_5 hB hz1 hk1 hS => ?_)
  refine xl_3_4 hB (fun fpn_5 fn_5 kn_5 hP1 hD1 hF_5_0 hF_5_1 => ?_)
  clear hB
  rw [ht] at hP1
  obtain ⟨hP, hD⟩ := va_join (wr := [(xo_3_iiiiiiiirrrrr td r_2 tv1 tv2 tv3 (nI thh) tv5 (nI tww) (nI tkk) tb1 tb2 tb3 tb4 tb5), (xI tb1 cI 6 tg1), (xI tb2 cI 6 tg2), (xI tb3 cI 6 tg3), (xI tb4 cI 6 tg4), (xI tb5 cI 6 tg5)]) (w1 := [(xo_6_ririii h bs (nI z) td fpn_5 fn_5 kn_5), (xI bs cI 120 fb)]) hP hD [6, 7] [0, 1, 2, 3, 4, 5] rfl rfl (by decide +kernel) (by decide +kernel) hk1 hc_5.2.2 hP1 hD1
  generalize H1 = H at hP hS ⊢
  have hP : va_P (dC, dI) vwCl [(xo_3_iiiiiiiirrrrr td r_2 tv1 tv2 tv3 (nI thh) tv5 (nI tww) (nI tkk) tb1 tb2 tb3 tb4 tb5), (xI tb1 cI 6 tg1), (xI tb2 cI 6 tg2), (xI tb3 cI 6 tg3), (xI tb4 cI 6 tg4), (xI tb5 cI 6 tg5), (xo_6_ririii h bs (nI z) td fpn_5 fn_5 kn_5), (xI bs cI 120 fb)] H := hP
  have hD := dto hP hD
  refine va_put (D := (dC, dI)) (ci := 3) (v := .int r_5) (ty := .int) (C := RX3) (T := TX3) (N := 13) hx hb hts i_X6_readLaw_X3 tyX3 tyX3_ok nmX3 hown hK hP hD hS 0 rfl rfl 1 (by decide) (hts _ mx_X6_readLaw_3) (fun _ h9 => h9) rfl (by decide +kernel) rfl rfl (Nat.le_of_ble_eq_true rfl) dX6_readLaw_44 (fun H locs hP hD hS => ?_)
  have hP : va_P (dC, dI) vwCl [(xo_3_iiiiiiiirrrrr td r_2 r_5 tv2 tv3 (nI thh) tv5 (nI tww) (nI tkk) tb1 tb2 tb3 tb4 tb5), (xI tb1 cI 6 tg1), (xI tb2 cI 6 tg2), (xI tb3 cI 6 tg3), (xI tb4 cI 6 tg4), (xI tb5 cI 6 tg5), (xo_6_ririii h bs (nI z) td fpn_5 fn_5 kn_5), (xI bs cI 120 fb)] H := hP
  have hD := dto hP hD
  refine lv_aload_n hx hb dX6_readLaw_47 rfl (lv_at hl 0 rfl) ?_
  refine lv_bipush (v := 44) hx hb dX6_readLaw_48 (by decide) ?_
  have hc_6 := cutW (wc := [(xo_6_ririii h bs (nI z) td fpn_5 fn_5 kn_5), (xI bs cI 120 fb)]) hP hD hS hA [6, 7] (by decide +kernel) rfl
  refine va_callv (va_runV (As := [.int 44]) (rest := []) ⟨hx, hb, hml, hown, hts⟩ (r_X6_readByte l dC dI cI cZ cL cJ H.size h bs td z fpn_5 fn_5 kn_5 fb 44 (hz)) (cwV 1 hts gX6_readLaw_X6_readByte rfl rfl rfl (by decide +kernel) ⟨Nat.le_of_ble_eq_true rfl, Nat.le_of_ble_eq_true rfl⟩) (pvW 6 6 hK hP rfl rfl hc_6) rfl rfl hl.1 rfl (lv_room (Nat.le_of_ble_eq_true rfl)) dX6_readLaw_50 ⟨Nat.le_of_ble_eq_true rfl, Nat.le_of_ble_eq_true rfl⟩) hS (fun q _ h => hc_6.2.2 q h) hc_6.2.2 (fun u_6 t_6 H1 locs ht hvm h_6 hB hz1 hk1 hS => ?_)
  refine xl_3_4 hB (fun fpn_6 fn_6 kn_6 hP1 hD1 hF_6_0 hF_6_1 => ?_)
  clear hB
  rw [ht] at hP1
  obtain ⟨hP, hD⟩ := va_join (wr := [(xo_3_iiiiiiiirrrrr td r_2 r_5 tv2 tv3 (nI thh) tv5 (nI tww) (nI tkk) tb1 tb2 tb3 tb4 tb5), (xI tb1 cI 6 tg1), (xI tb2 cI 6 tg2), (xI tb3 cI 6 tg3), (xI tb4 cI 6 tg4), (xI tb5 cI 6 tg5)]) (w1 := [(xo_6_ririii h bs (nI z) td fpn_6 fn_6 kn_6), (xI bs cI 120 fb)]) hP hD [6, 7] [0, 1, 2, 3, 4, 5] rfl rfl (by decide +kernel) (by decide +kernel) hk1 hc_6.2.2 hP1 hD1
  generalize H1 = H at hP hS ⊢
  have hP : va_P (dC, dI) vwCl [(xo_3_iiiiiiiirrrrr td r_2 r_5 tv2 tv3 (nI thh) tv5 (nI tww) (nI tkk) tb1 tb2 tb3 tb4 tb5), (xI tb1 cI 6 tg1), (xI tb2 cI 6 tg2), (xI tb3 cI 6 tg3), (xI tb4 cI 6 tg4), (xI tb5 cI 6 tg5), (xo_6_ririii h bs (nI z) td fpn_6 fn_6 kn_6), (xI bs cI 120 fb)] H := hP
  have hD := dto hP hD
  refine lv_aload_n hx hb dX6_readLaw_53 rfl (lv_at hl 0 rfl) ?_
  refine va_get (D := (dC, dI)) (ci := 6) (v := .ref td) (C := RX6) (T := TX6) (N := 6) hx hb hts i_X6_readLaw_X6 hown hK hP 6 rfl rfl 2 (by decide) (hts _ mx_X6_readLaw_1) (fun _ h9 => h9) rfl dX6_readLaw_54 ?_
  refine lv_aload_n hx hb dX6_readLaw_57 rfl (lv_at hl 0 rfl) ?_
  refine lv_iconst (v := 0) hx hb dX6_readLaw_58 (by decide) ?_
  refine lv_iconst (v := 4) hx hb dX6_readLaw_59 (by decide) ?_
  have hc_7 := cutW (wc := [(xo_6_ririii h bs (nI z) td fpn_6 fn_6 kn_6), (xI bs cI 120 fb)]) hP hD hS hA [6, 7] (by decide +kernel) rfl
  refine va_calli (va_runV (As := [.int 0, .int 4]) (rest := [.ref td]) ⟨hx, hb, hml, hown, hts⟩ (r_X6_readNumber l dC dI cI cZ cL cJ H.size h bs td z fpn_6 fn_6 kn_6 fb 0 4 (hz)) (cwV 2 hts gX6_readLaw_X6_readNumber rfl rfl rfl (by decide +kernel) ⟨Nat.le_of_ble_eq_true rfl, Nat.le_of_ble_eq_true rfl⟩) (pvW 6 6 hK hP rfl rfl hc_7) rfl rfl hl.1 rfl (lv_room (Nat.le_of_ble_eq_true rfl)) dX6_readLaw_60 ⟨Nat.le_of_ble_eq_true rfl, Nat.le_of_ble_eq_true rfl⟩) hS (fun q _ h => hc_7.2.2 q h) hc_7.2.2 (fun r_7 u_7 t_7 H1 locs ht hvm h_7 hB hz1 hk1 hS => ?_)
  refine xl_3_4 hB (fun fpn_7 fn_7 kn_7 hP1 hD1 hF_7_0 hF_7_1 => ?_)
  clear hB
  rw [ht] at hP1
  obtain ⟨hP, hD⟩ := va_join (wr := [(xo_3_iiiiiiiirrrrr td r_2 r_5 tv2 tv3 (nI thh) tv5 (nI tww) (nI tkk) tb1 tb2 tb3 tb4 tb5), (xI tb1 cI 6 tg1), (xI tb2 cI 6 tg2), (xI tb3 cI 6 tg3), (xI tb4 cI 6 tg4), (xI tb5 cI 6 tg5)]) (w1 := [(xo_6_ririii h bs (nI z) td fpn_7 fn_7 kn_7), (xI bs cI 120 fb)]) hP hD [6, 7] [0, 1, 2, 3, 4, 5] rfl rfl (by decide +kernel) (by decide +kernel) hk1 hc_7.2.2 hP1 hD1
  generalize H1 = H at hP hS ⊢
  have hP : va_P (dC, dI) vwCl [(xo_3_iiiiiiiirrrrr td r_2 r_5 tv2 tv3 (nI thh) tv5 (nI tww) (nI tkk) tb1 tb2 tb3 tb4 tb5), (xI tb1 cI 6 tg1), (xI tb2 cI 6 tg2), (xI tb3 cI 6 tg3), (xI tb4 cI 6 tg4), (xI tb5 cI 6 tg5), (xo_6_ririii h bs (nI z) td fpn_7 fn_7 kn_7), (xI bs cI 120 fb)] H := hP
  have hD := dto hP hD
  refine va_put (D := (dC, dI)) (ci := 3) (v := .int r_7) (ty := .int) (C := RX3) (T := TX3) (N := 13) hx hb hts i_X6_readLaw_X3 tyX3 tyX3_ok nmX3 hown hK hP hD hS 0 rfl rfl 2 (by decide) (hts _ mx_X6_readLaw_4) (fun _ h9 => h9) rfl (by decide +kernel) rfl rfl (Nat.le_of_ble_eq_true rfl) dX6_readLaw_63 (fun H locs hP hD hS => ?_)
  have hP : va_P (dC, dI) vwCl [(xo_3_iiiiiiiirrrrr td r_2 r_5 r_7 tv3 (nI thh) tv5 (nI tww) (nI tkk) tb1 tb2 tb3 tb4 tb5), (xI tb1 cI 6 tg1), (xI tb2 cI 6 tg2), (xI tb3 cI 6 tg3), (xI tb4 cI 6 tg4), (xI tb5 cI 6 tg5), (xo_6_ririii h bs (nI z) td fpn_7 fn_7 kn_7), (xI bs cI 120 fb)] H := hP
  have hD := dto hP hD
  refine lv_aload_n hx hb dX6_readLaw_66 rfl (lv_at hl 0 rfl) ?_
  refine lv_bipush (v := 59) hx hb dX6_readLaw_67 (by decide) ?_
  have hc_8 := cutW (wc := [(xo_6_ririii h bs (nI z) td fpn_7 fn_7 kn_7), (xI bs cI 120 fb)]) hP hD hS hA [6, 7] (by decide +kernel) rfl
  refine va_callv (va_runV (As := [.int 59]) (rest := []) ⟨hx, hb, hml, hown, hts⟩ (r_X6_readByte l dC dI cI cZ cL cJ H.size h bs td z fpn_7 fn_7 kn_7 fb 59 (hz)) (cwV 1 hts gX6_readLaw_X6_readByte rfl rfl rfl (by decide +kernel) ⟨Nat.le_of_ble_eq_true rfl, Nat.le_of_ble_eq_true rfl⟩) (pvW 6 6 hK hP rfl rfl hc_8) rfl rfl hl.1 rfl (lv_room (Nat.le_of_ble_eq_true rfl)) dX6_readLaw_69 ⟨Nat.le_of_ble_eq_true rfl, Nat.le_of_ble_eq_true rfl⟩) hS (fun q _ h => hc_8.2.2 q h) hc_8.2.2 (fun u_8 t_8 H1 locs ht hvm h_8 hB hz1 hk1 hS => ?_)
  refine xl_3_4 hB (fun fpn_8 fn_8 kn_8 hP1 hD1 hF_8_0 hF_8_1 => ?_)
  clear hB
  rw [ht] at hP1
  obtain ⟨hP, hD⟩ := va_join (wr := [(xo_3_iiiiiiiirrrrr td r_2 r_5 r_7 tv3 (nI thh) tv5 (nI tww) (nI tkk) tb1 tb2 tb3 tb4 tb5), (xI tb1 cI 6 tg1), (xI tb2 cI 6 tg2), (xI tb3 cI 6 tg3), (xI tb4 cI 6 tg4), (xI tb5 cI 6 tg5)]) (w1 := [(xo_6_ririii h bs (nI z) td fpn_8 fn_8 kn_8), (xI bs cI 120 fb)]) hP hD [6, 7] [0, 1, 2, 3, 4, 5] rfl rfl (by decide +kernel) (by decide +kernel) hk1 hc_8.2.2 hP1 hD1
  generalize H1 = H at hP hS ⊢
  have hP : va_P (dC, dI) vwCl [(xo_3_iiiiiiiirrrrr td r_2 r_5 r_7 tv3 (nI thh) tv5 (nI tww) (nI tkk) tb1 tb2 tb3 tb4 tb5), (xI tb1 cI 6 tg1), (xI tb2 cI 6 tg2), (xI tb3 cI 6 tg3), (xI tb4 cI 6 tg4), (xI tb5 cI 6 tg5), (xo_6_ririii h bs (nI z) td fpn_8 fn_8 kn_8), (xI bs cI 120 fb)] H := hP
  have hD := dto hP hD
  have hX9 := cut2 (wc := [(xo_6_ririii h bs (nI z) td fpn_8 fn_8 kn_8), (xI bs cI 120 fb), (xo_3_iiiiiiiirrrrr td r_2 r_5 r_7 tv3 (nI thh) tv5 (nI tww) (nI tkk) tb1 tb2 tb3 tb4 tb5), (xI tb1 cI 6 tg1), (xI tb2 cI 6 tg2), (xI tb3 cI 6 tg3), (xI tb4 cI 6 tg4), (xI tb5 cI 6 tg5)]) hP hD [6, 7, 0, 1, 2, 3, 4, 5] (by decide +kernel) rfl
  exact W.vret hx hb hr (fun t ht hW => ⟨⟨(), rfl, trivial, ⟨fpn_8, fn_8, kn_8, r_2, r_5, r_7, va_Ht ht hX9.1, hX9.2, (lf_X6_readLaw_1 hz htww htkk hF_1_0 hF_1_1 hF_2_0 hF_2_1 h_2 hF_3_0 hF_3_1 e_4 hF_5_0 hF_5_1 h_5 hF_6_0 hF_6_1 hF_7_0 hF_7_1 h_7 hF_8_0 hF_8_1), (lf_X6_readLaw_2 hz htww htkk hF_1_0 hF_1_1 hF_2_0 hF_2_1 h_2 hF_3_0 hF_3_1 e_4 hF_5_0 hF_5_1 h_5 hF_6_0 hF_6_1 hF_7_0 hF_7_1 h_7 hF_8_0 hF_8_1), (lf_X6_readLaw_3 hz htww htkk hF_1_0 hF_1_1 hF_2_0 hF_2_1 h_2 hF_3_0 hF_3_1 e_4 hF_5_0 hF_5_1 h_5 hF_6_0 hF_6_1 hF_7_0 hF_7_1 h_7 hF_8_0 hF_8_1), (lf_X6_readLaw_4 hz htww htkk hF_1_0 hF_1_1 hF_2_0 hF_2_1 h_2 hF_3_0 hF_3_1 e_4 hF_5_0 hF_5_1 h_5 hF_6_0 hF_6_1 hF_7_0 hF_7_1 h_7 hF_8_0 hF_8_1)⟩⟩, hS.F ht⟩) hS.2.2 dX6_readLaw_72
theorem lf_X6_readWind_1 {z : Nat} {fp : Int32} {f : Int32} {k : Int32} {fb : Nat → Int32} {tww : Nat} {tkk : Nat} {fpn_2 : Int32} {fn_2 : Int32} {kn_2 : Int32} {fpn_3 : Int32} {fn_3 : Int32} {kn_3 : Int32} {r_3 : Int32} {fpn_4 : Int32} {fn_4 : Int32} {kn_4 : Int32} (hz : z ≤ 120) (htww : tww ≤ 6) (htkk : tkk ≤ 6) (c_1 : ¬ (f = 0)) (hF_2_0 : (fn_2 = 0 → f = 0 ∧ bAt fb z k = 119)) (hF_2_1 : rB fb z 119 (fp, f, k) = (fpn_2, fn_2, kn_2)) (hF_3_0 : (fn_3 = 0 → fn_2 = 0)) (hF_3_1 : rN fb z 0 4 (fpn_2, fn_2, kn_2) = (fpn_3, fn_3, kn_3)) (h_3 : r_3 = (rV fb z 0 4 kn_2)) (hF_4_0 : (fn_4 = 0 → fn_3 = 0 ∧ bAt fb z kn_3 = 59)) (hF_4_1 : rB fb z 59 (fpn_3, fn_3, kn_3) = (fpn_4, fn_4, kn_4)) (c_5 : ¬ (fn_4 = 0)) : tww ≤ 6 := by
  first
  | omega
  | (simp only [xW, xWb, xWa, xW0]; grind)
theorem lf_X6_readWind_2 {z : Nat} {fp : Int32} {f : Int32} {k : Int32} {fb : Nat → Int32} {tww : Nat} {tkk : Nat} {tg1 : Nat → Int32} {fpn_2 : Int32} {fn_2 : Int32} {kn_2 : Int32} {fpn_3 : Int32} {fn_3 : Int32} {kn_3 : Int32} {r_3 : Int32} {fpn_4 : Int32} {fn_4 : Int32} {kn_4 : Int32} (hz : z ≤ 120) (htww : tww ≤ 6) (htkk : tkk ≤ 6) (c_1 : ¬ (f = 0)) (hF_2_0 : (fn_2 = 0 → f = 0 ∧ bAt fb z k = 119)) (hF_2_1 : rB fb z 119 (fp, f, k) = (fpn_2, fn_2, kn_2)) (hF_3_0 : (fn_3 = 0 → fn_2 = 0)) (hF_3_1 : rN fb z 0 4 (fpn_2, fn_2, kn_2) = (fpn_3, fn_3, kn_3)) (h_3 : r_3 = (rV fb z 0 4 kn_2)) (hF_4_0 : (fn_4 = 0 → fn_3 = 0 ∧ bAt fb z kn_3 = 59)) (hF_4_1 : rB fb z 59 (fpn_3, fn_3, kn_3) = (fpn_4, fn_4, kn_4)) (c_5 : ¬ (fn_4 = 0)) : xW fb z ((fp, f, k), tww, tg1) = ((fpn_4, fn_4, kn_4), tww, tg1) := by
  first
  | omega
  | (simp only [xW, xWb, xWa, xW0]; grind)
theorem lf_X6_readWind_3 {z : Nat} {fp : Int32} {f : Int32} {k : Int32} {fb : Nat → Int32} {tww : Nat} {tkk : Nat} {fpn_2 : Int32} {fn_2 : Int32} {kn_2 : Int32} {fpn_3 : Int32} {fn_3 : Int32} {kn_3 : Int32} {r_3 : Int32} {fpn_4 : Int32} {fn_4 : Int32} {kn_4 : Int32} (hz : z ≤ 120) (htww : tww ≤ 6) (htkk : tkk ≤ 6) (c_1 : ¬ (f = 0)) (hF_2_0 : (fn_2 = 0 → f = 0 ∧ bAt fb z k = 119)) (hF_2_1 : rB fb z 119 (fp, f, k) = (fpn_2, fn_2, kn_2)) (hF_3_0 : (fn_3 = 0 → fn_2 = 0)) (hF_3_1 : rN fb z 0 4 (fpn_2, fn_2, kn_2) = (fpn_3, fn_3, kn_3)) (h_3 : r_3 = (rV fb z 0 4 kn_2)) (hF_4_0 : (fn_4 = 0 → fn_3 = 0 ∧ bAt fb z kn_3 = 59)) (hF_4_1 : rB fb z 59 (fpn_3, fn_3, kn_3) = (fpn_4, fn_4, kn_4)) (c_5 : fn_4 = 0) : tww < 6 := by
  grind
theorem lf_X6_readWind_4 {z : Nat} {fp : Int32} {f : Int32} {k : Int32} {fb : Nat → Int32} {tww : Nat} {tkk : Nat} {tg1 : Nat → Int32} {fpn_2 : Int32} {fn_2 : Int32} {kn_2 : Int32} {fpn_3 : Int32} {fn_3 : Int32} {kn_3 : Int32} {r_3 : Int32} {fpn_4 : Int32} {fn_4 : Int32} {kn_4 : Int32} {g_6 : Nat → Int32} (hz : z ≤ 120) (htww : tww ≤ 6) (htkk : tkk ≤ 6) (c_1 : ¬ (f = 0)) (hF_2_0 : (fn_2 = 0 → f = 0 ∧ bAt fb z k = 119)) (hF_2_1 : rB fb z 119 (fp, f, k) = (fpn_2, fn_2, kn_2)) (hF_3_0 : (fn_3 = 0 → fn_2 = 0)) (hF_3_1 : rN fb z 0 4 (fpn_2, fn_2, kn_2) = (fpn_3, fn_3, kn_3)) (h_3 : r_3 = (rV fb z 0 4 kn_2)) (hF_4_0 : (fn_4 = 0 → fn_3 = 0 ∧ bAt fb z kn_3 = 59)) (hF_4_1 : rB fb z 59 (fpn_3, fn_3, kn_3) = (fpn_4, fn_4, kn_4)) (c_5 : fn_4 = 0) (hw6 : tww < 6) (hu_6 : g_6 = upd tg1 tww r_3) : (tww + 1) ≤ 6 := by
  first
  | omega
  | (simp only [xW, xWb, xWa, xW0]; grind)
theorem lf_X6_readWind_5 {z : Nat} {fp : Int32} {f : Int32} {k : Int32} {fb : Nat → Int32} {tww : Nat} {tkk : Nat} {tg1 : Nat → Int32} {fpn_2 : Int32} {fn_2 : Int32} {kn_2 : Int32} {fpn_3 : Int32} {fn_3 : Int32} {kn_3 : Int32} {r_3 : Int32} {fpn_4 : Int32} {fn_4 : Int32} {kn_4 : Int32} {g_6 : Nat → Int32} (hz : z ≤ 120) (htww : tww ≤ 6) (htkk : tkk ≤ 6) (c_1 : ¬ (f = 0)) (hF_2_0 : (fn_2 = 0 → f = 0 ∧ bAt fb z k = 119)) (hF_2_1 : rB fb z 119 (fp, f, k) = (fpn_2, fn_2, kn_2)) (hF_3_0 : (fn_3 = 0 → fn_2 = 0)) (hF_3_1 : rN fb z 0 4 (fpn_2, fn_2, kn_2) = (fpn_3, fn_3, kn_3)) (h_3 : r_3 = (rV fb z 0 4 kn_2)) (hF_4_0 : (fn_4 = 0 → fn_3 = 0 ∧ bAt fb z kn_3 = 59)) (hF_4_1 : rB fb z 59 (fpn_3, fn_3, kn_3) = (fpn_4, fn_4, kn_4)) (c_5 : fn_4 = 0) (hw6 : tww < 6) (hu_6 : g_6 = upd tg1 tww r_3) : xW fb z ((fp, f, k), tww, tg1) = ((fpn_4, fn_4, kn_4), (tww + 1), g_6) := by
  first
  | omega
  | (simp only [xW, xWb, xWa, xW0]; grind)
theorem lf_X6_readWind_6 {z : Nat} {fp : Int32} {f : Int32} {k : Int32} {fb : Nat → Int32} {tww : Nat} {tkk : Nat} {r_8 : Int32} {fpn_10 : Int32} {fn_10 : Int32} {kn_10 : Int32} {fpn_11 : Int32} {fn_11 : Int32} {kn_11 : Int32} {r_11 : Int32} {fpn_12 : Int32} {fn_12 : Int32} {kn_12 : Int32} (hz : z ≤ 120) (htww : tww ≤ 6) (htkk : tkk ≤ 6) (c_1 : f = 0) (h_8 : r_8 = (bAt fb z k)) (c_9 : ¬ (r_8 = 119)) (hF_10_0 : (fn_10 = 0 → f = 0 ∧ bAt fb z k = 119)) (hF_10_1 : rB fb z 119 (fp, f, k) = (fpn_10, fn_10, kn_10)) (hF_11_0 : (fn_11 = 0 → fn_10 = 0)) (hF_11_1 : rN fb z 0 4 (fpn_10, fn_10, kn_10) = (fpn_11, fn_11, kn_11)) (h_11 : r_11 = (rV fb z 0 4 kn_10)) (hF_12_0 : (fn_12 = 0 → fn_11 = 0 ∧ bAt fb z kn_11 = 59)) (hF_12_1 : rB fb z 59 (fpn_11, fn_11, kn_11) = (fpn_12, fn_12, kn_12)) (c_13 : ¬ (fn_12 = 0)) : tww ≤ 6 := by
  first
  | omega
  | (simp only [xW, xWb, xWa, xW0]; grind)
theorem lf_X6_readWind_7 {z : Nat} {fp : Int32} {f : Int32} {k : Int32} {fb : Nat → Int32} {tww : Nat} {tkk : Nat} {tg1 : Nat → Int32} {r_8 : Int32} {fpn_10 : Int32} {fn_10 : Int32} {kn_10 : Int32} {fpn_11 : Int32} {fn_11 : Int32} {kn_11 : Int32} {r_11 : Int32} {fpn_12 : Int32} {fn_12 : Int32} {kn_12 : Int32} (hz : z ≤ 120) (htww : tww ≤ 6) (htkk : tkk ≤ 6) (c_1 : f = 0) (h_8 : r_8 = (bAt fb z k)) (c_9 : ¬ (r_8 = 119)) (hF_10_0 : (fn_10 = 0 → f = 0 ∧ bAt fb z k = 119)) (hF_10_1 : rB fb z 119 (fp, f, k) = (fpn_10, fn_10, kn_10)) (hF_11_0 : (fn_11 = 0 → fn_10 = 0)) (hF_11_1 : rN fb z 0 4 (fpn_10, fn_10, kn_10) = (fpn_11, fn_11, kn_11)) (h_11 : r_11 = (rV fb z 0 4 kn_10)) (hF_12_0 : (fn_12 = 0 → fn_11 = 0 ∧ bAt fb z kn_11 = 59)) (hF_12_1 : rB fb z 59 (fpn_11, fn_11, kn_11) = (fpn_12, fn_12, kn_12)) (c_13 : ¬ (fn_12 = 0)) : xW fb z ((fp, f, k), tww, tg1) = ((fpn_12, fn_12, kn_12), tww, tg1) := by
  first
  | omega
  | (simp only [xW, xWb, xWa, xW0]; grind)
theorem lf_X6_readWind_8 {z : Nat} {fp : Int32} {f : Int32} {k : Int32} {fb : Nat → Int32} {tww : Nat} {tkk : Nat} {r_8 : Int32} {fpn_10 : Int32} {fn_10 : Int32} {kn_10 : Int32} {fpn_11 : Int32} {fn_11 : Int32} {kn_11 : Int32} {r_11 : Int32} {fpn_12 : Int32} {fn_12 : Int32} {kn_12 : Int32} (hz : z ≤ 120) (htww : tww ≤ 6) (htkk : tkk ≤ 6) (c_1 : f = 0) (h_8 : r_8 = (bAt fb z k)) (c_9 : ¬ (r_8 = 119)) (hF_10_0 : (fn_10 = 0 → f = 0 ∧ bAt fb z k = 119)) (hF_10_1 : rB fb z 119 (fp, f, k) = (fpn_10, fn_10, kn_10)) (hF_11_0 : (fn_11 = 0 → fn_10 = 0)) (hF_11_1 : rN fb z 0 4 (fpn_10, fn_10, kn_10) = (fpn_11, fn_11, kn_11)) (h_11 : r_11 = (rV fb z 0 4 kn_10)) (hF_12_0 : (fn_12 = 0 → fn_11 = 0 ∧ bAt fb z kn_11 = 59)) (hF_12_1 : rB fb z 59 (fpn_11, fn_11, kn_11) = (fpn_12, fn_12, kn_12)) (c_13 : fn_12 = 0) : tww < 6 := by
  grind
theorem lf_X6_readWind_9 {z : Nat} {fp : Int32} {f : Int32} {k : Int32} {fb : Nat → Int32} {tww : Nat} {tkk : Nat} {tg1 : Nat → Int32} {r_8 : Int32} {fpn_10 : Int32} {fn_10 : Int32} {kn_10 : Int32} {fpn_11 : Int32} {fn_11 : Int32} {kn_11 : Int32} {r_11 : Int32} {fpn_12 : Int32} {fn_12 : Int32} {kn_12 : Int32} {g_14 : Nat → Int32} (hz : z ≤ 120) (htww : tww ≤ 6) (htkk : tkk ≤ 6) (c_1 : f = 0) (h_8 : r_8 = (bAt fb z k)) (c_9 : ¬ (r_8 = 119)) (hF_10_0 : (fn_10 = 0 → f = 0 ∧ bAt fb z k = 119)) (hF_10_1 : rB fb z 119 (fp, f, k) = (fpn_10, fn_10, kn_10)) (hF_11_0 : (fn_11 = 0 → fn_10 = 0)) (hF_11_1 : rN fb z 0 4 (fpn_10, fn_10, kn_10) = (fpn_11, fn_11, kn_11)) (h_11 : r_11 = (rV fb z 0 4 kn_10)) (hF_12_0 : (fn_12 = 0 → fn_11 = 0 ∧ bAt fb z kn_11 = 59)) (hF_12_1 : rB fb z 59 (fpn_11, fn_11, kn_11) = (fpn_12, fn_12, kn_12)) (c_13 : fn_12 = 0) (hw6 : tww < 6) (hu_14 : g_14 = upd tg1 tww r_11) : (tww + 1) ≤ 6 := by
  first
  | omega
  | (simp only [xW, xWb, xWa, xW0]; grind)
theorem lf_X6_readWind_10 {z : Nat} {fp : Int32} {f : Int32} {k : Int32} {fb : Nat → Int32} {tww : Nat} {tkk : Nat} {tg1 : Nat → Int32} {r_8 : Int32} {fpn_10 : Int32} {fn_10 : Int32} {kn_10 : Int32} {fpn_11 : Int32} {fn_11 : Int32} {kn_11 : Int32} {r_11 : Int32} {fpn_12 : Int32} {fn_12 : Int32} {kn_12 : Int32} {g_14 : Nat → Int32} (hz : z ≤ 120) (htww : tww ≤ 6) (htkk : tkk ≤ 6) (c_1 : f = 0) (h_8 : r_8 = (bAt fb z k)) (c_9 : ¬ (r_8 = 119)) (hF_10_0 : (fn_10 = 0 → f = 0 ∧ bAt fb z k = 119)) (hF_10_1 : rB fb z 119 (fp, f, k) = (fpn_10, fn_10, kn_10)) (hF_11_0 : (fn_11 = 0 → fn_10 = 0)) (hF_11_1 : rN fb z 0 4 (fpn_10, fn_10, kn_10) = (fpn_11, fn_11, kn_11)) (h_11 : r_11 = (rV fb z 0 4 kn_10)) (hF_12_0 : (fn_12 = 0 → fn_11 = 0 ∧ bAt fb z kn_11 = 59)) (hF_12_1 : rB fb z 59 (fpn_11, fn_11, kn_11) = (fpn_12, fn_12, kn_12)) (c_13 : fn_12 = 0) (hw6 : tww < 6) (hu_14 : g_14 = upd tg1 tww r_11) : xW fb z ((fp, f, k), tww, tg1) = ((fpn_12, fn_12, kn_12), (tww + 1), g_14) := by
  first
  | omega
  | (simp only [xW, xWb, xWa, xW0]; grind)
theorem lf_X6_readWind_11 {z : Nat} {fp : Int32} {f : Int32} {k : Int32} {fb : Nat → Int32} {tww : Nat} {tkk : Nat} {r_8 : Int32} {fpn_17 : Int32} {fn_17 : Int32} {kn_17 : Int32} {fpn_18 : Int32} {fn_18 : Int32} {kn_18 : Int32} {r_18 : Int32} {fpn_19 : Int32} {fn_19 : Int32} {kn_19 : Int32} (hz : z ≤ 120) (htww : tww ≤ 6) (htkk : tkk ≤ 6) (c_1 : f = 0) (h_8 : r_8 = (bAt fb z k)) (c_9 : r_8 = 119) (c_16 : tww < 6) (hF_17_0 : (fn_17 = 0 → f = 0 ∧ bAt fb z k = 119)) (hF_17_1 : rB fb z 119 (fp, f, k) = (fpn_17, fn_17, kn_17)) (hF_18_0 : (fn_18 = 0 → fn_17 = 0)) (hF_18_1 : rN fb z 0 4 (fpn_17, fn_17, kn_17) = (fpn_18, fn_18, kn_18)) (h_18 : r_18 = (rV fb z 0 4 kn_17)) (hF_19_0 : (fn_19 = 0 → fn_18 = 0 ∧ bAt fb z kn_18 = 59)) (hF_19_1 : rB fb z 59 (fpn_18, fn_18, kn_18) = (fpn_19, fn_19, kn_19)) (c_20 : ¬ (fn_19 = 0)) : tww ≤ 6 := by
  first
  | omega
  | (simp only [xW, xWb, xWa, xW0]; grind)
theorem lf_X6_readWind_12 {z : Nat} {fp : Int32} {f : Int32} {k : Int32} {fb : Nat → Int32} {tww : Nat} {tkk : Nat} {tg1 : Nat → Int32} {r_8 : Int32} {fpn_17 : Int32} {fn_17 : Int32} {kn_17 : Int32} {fpn_18 : Int32} {fn_18 : Int32} {kn_18 : Int32} {r_18 : Int32} {fpn_19 : Int32} {fn_19 : Int32} {kn_19 : Int32} (hz : z ≤ 120) (htww : tww ≤ 6) (htkk : tkk ≤ 6) (c_1 : f = 0) (h_8 : r_8 = (bAt fb z k)) (c_9 : r_8 = 119) (c_16 : tww < 6) (hF_17_0 : (fn_17 = 0 → f = 0 ∧ bAt fb z k = 119)) (hF_17_1 : rB fb z 119 (fp, f, k) = (fpn_17, fn_17, kn_17)) (hF_18_0 : (fn_18 = 0 → fn_17 = 0)) (hF_18_1 : rN fb z 0 4 (fpn_17, fn_17, kn_17) = (fpn_18, fn_18, kn_18)) (h_18 : r_18 = (rV fb z 0 4 kn_17)) (hF_19_0 : (fn_19 = 0 → fn_18 = 0 ∧ bAt fb z kn_18 = 59)) (hF_19_1 : rB fb z 59 (fpn_18, fn_18, kn_18) = (fpn_19, fn_19, kn_19)) (c_20 : ¬ (fn_19 = 0)) : xW fb z ((fp, f, k), tww, tg1) = ((fpn_19, fn_19, kn_19), tww, tg1) := by
  first
  | omega
  | (simp only [xW, xWb, xWa, xW0]; grind)
theorem lf_X6_readWind_13 {z : Nat} {fp : Int32} {f : Int32} {k : Int32} {fb : Nat → Int32} {tww : Nat} {tkk : Nat} {r_8 : Int32} {fpn_17 : Int32} {fn_17 : Int32} {kn_17 : Int32} {fpn_18 : Int32} {fn_18 : Int32} {kn_18 : Int32} {r_18 : Int32} {fpn_19 : Int32} {fn_19 : Int32} {kn_19 : Int32} (hz : z ≤ 120) (htww : tww ≤ 6) (htkk : tkk ≤ 6) (c_1 : f = 0) (h_8 : r_8 = (bAt fb z k)) (c_9 : r_8 = 119) (c_16 : tww < 6) (hF_17_0 : (fn_17 = 0 → f = 0 ∧ bAt fb z k = 119)) (hF_17_1 : rB fb z 119 (fp, f, k) = (fpn_17, fn_17, kn_17)) (hF_18_0 : (fn_18 = 0 → fn_17 = 0)) (hF_18_1 : rN fb z 0 4 (fpn_17, fn_17, kn_17) = (fpn_18, fn_18, kn_18)) (h_18 : r_18 = (rV fb z 0 4 kn_17)) (hF_19_0 : (fn_19 = 0 → fn_18 = 0 ∧ bAt fb z kn_18 = 59)) (hF_19_1 : rB fb z 59 (fpn_18, fn_18, kn_18) = (fpn_19, fn_19, kn_19)) (c_20 : fn_19 = 0) : tww < 6 := by
  grind
theorem lf_X6_readWind_14 {z : Nat} {fp : Int32} {f : Int32} {k : Int32} {fb : Nat → Int32} {tww : Nat} {tkk : Nat} {tg1 : Nat → Int32} {r_8 : Int32} {fpn_17 : Int32} {fn_17 : Int32} {kn_17 : Int32} {fpn_18 : Int32} {fn_18 : Int32} {kn_18 : Int32} {r_18 : Int32} {fpn_19 : Int32} {fn_19 : Int32} {kn_19 : Int32} {g_21 : Nat → Int32} (hz : z ≤ 120) (htww : tww ≤ 6) (htkk : tkk ≤ 6) (c_1 : f = 0) (h_8 : r_8 = (bAt fb z k)) (c_9 : r_8 = 119) (c_16 : tww < 6) (hF_17_0 : (fn_17 = 0 → f = 0 ∧ bAt fb z k = 119)) (hF_17_1 : rB fb z 119 (fp, f, k) = (fpn_17, fn_17, kn_17)) (hF_18_0 : (fn_18 = 0 → fn_17 = 0)) (hF_18_1 : rN fb z 0 4 (fpn_17, fn_17, kn_17) = (fpn_18, fn_18, kn_18)) (h_18 : r_18 = (rV fb z 0 4 kn_17)) (hF_19_0 : (fn_19 = 0 → fn_18 = 0 ∧ bAt fb z kn_18 = 59)) (hF_19_1 : rB fb z 59 (fpn_18, fn_18, kn_18) = (fpn_19, fn_19, kn_19)) (c_20 : fn_19 = 0) (hw6 : tww < 6) (hu_21 : g_21 = upd tg1 tww r_18) : (tww + 1) ≤ 6 := by
  first
  | omega
  | (simp only [xW, xWb, xWa, xW0]; grind)
theorem lf_X6_readWind_15 {z : Nat} {fp : Int32} {f : Int32} {k : Int32} {fb : Nat → Int32} {tww : Nat} {tkk : Nat} {tg1 : Nat → Int32} {r_8 : Int32} {fpn_17 : Int32} {fn_17 : Int32} {kn_17 : Int32} {fpn_18 : Int32} {fn_18 : Int32} {kn_18 : Int32} {r_18 : Int32} {fpn_19 : Int32} {fn_19 : Int32} {kn_19 : Int32} {g_21 : Nat → Int32} (hz : z ≤ 120) (htww : tww ≤ 6) (htkk : tkk ≤ 6) (c_1 : f = 0) (h_8 : r_8 = (bAt fb z k)) (c_9 : r_8 = 119) (c_16 : tww < 6) (hF_17_0 : (fn_17 = 0 → f = 0 ∧ bAt fb z k = 119)) (hF_17_1 : rB fb z 119 (fp, f, k) = (fpn_17, fn_17, kn_17)) (hF_18_0 : (fn_18 = 0 → fn_17 = 0)) (hF_18_1 : rN fb z 0 4 (fpn_17, fn_17, kn_17) = (fpn_18, fn_18, kn_18)) (h_18 : r_18 = (rV fb z 0 4 kn_17)) (hF_19_0 : (fn_19 = 0 → fn_18 = 0 ∧ bAt fb z kn_18 = 59)) (hF_19_1 : rB fb z 59 (fpn_18, fn_18, kn_18) = (fpn_19, fn_19, kn_19)) (c_20 : fn_19 = 0) (hw6 : tww < 6) (hu_21 : g_21 = upd tg1 tww r_18) : xW fb z ((fp, f, k), tww, tg1) = ((fpn_19, fn_19, kn_19), (tww + 1), g_21) := by
  first
  | omega
  | (simp only [xW, xWb, xWa, xW0]; grind)
theorem lf_X6_readWind_16 {z : Nat} {fp : Int32} {f : Int32} {k : Int32} {fb : Nat → Int32} {tww : Nat} {tkk : Nat} {r_8 : Int32} {fpn_23 : Int32} {fn_23 : Int32} {fpn_24 : Int32} {fn_24 : Int32} {kn_24 : Int32} {fpn_25 : Int32} {fn_25 : Int32} {kn_25 : Int32} {r_25 : Int32} {fpn_26 : Int32} {fn_26 : Int32} {kn_26 : Int32} (hz : z ≤ 120) (htww : tww ≤ 6) (htkk : tkk ≤ 6) (c_1 : f = 0) (h_8 : r_8 = (bAt fb z k)) (c_9 : r_8 = 119) (c_16 : ¬ (tww < 6)) (hF_23_0 : (¬ (3 : Int32) = 0 → ¬ fn_23 = 0)) (hF_23_1 : (¬ f = 0 → fn_23 = f)) (hF_23_2 : rF 3 (fp, f, k) = (fpn_23, fn_23, k)) (hF_24_0 : (fn_24 = 0 → fn_23 = 0 ∧ bAt fb z k = 119)) (hF_24_1 : rB fb z 119 (fpn_23, fn_23, k) = (fpn_24, fn_24, kn_24)) (hF_25_0 : (fn_25 = 0 → fn_24 = 0)) (hF_25_1 : rN fb z 0 4 (fpn_24, fn_24, kn_24) = (fpn_25, fn_25, kn_25)) (h_25 : r_25 = (rV fb z 0 4 kn_24)) (hF_26_0 : (fn_26 = 0 → fn_25 = 0 ∧ bAt fb z kn_25 = 59)) (hF_26_1 : rB fb z 59 (fpn_25, fn_25, kn_25) = (fpn_26, fn_26, kn_26)) (c_27 : ¬ (fn_26 = 0)) : tww ≤ 6 := by
  first
  | omega
  | (simp only [xW, xWb, xWa, xW0]; grind)
theorem lf_X6_readWind_17 {z : Nat} {fp : Int32} {f : Int32} {k : Int32} {fb : Nat → Int32} {tww : Nat} {tkk : Nat} {tg1 : Nat → Int32} {r_8 : Int32} {fpn_23 : Int32} {fn_23 : Int32} {fpn_24 : Int32} {fn_24 : Int32} {kn_24 : Int32} {fpn_25 : Int32} {fn_25 : Int32} {kn_25 : Int32} {r_25 : Int32} {fpn_26 : Int32} {fn_26 : Int32} {kn_26 : Int32} (hz : z ≤ 120) (htww : tww ≤ 6) (htkk : tkk ≤ 6) (c_1 : f = 0) (h_8 : r_8 = (bAt fb z k)) (c_9 : r_8 = 119) (c_16 : ¬ (tww < 6)) (hF_23_0 : (¬ (3 : Int32) = 0 → ¬ fn_23 = 0)) (hF_23_1 : (¬ f = 0 → fn_23 = f)) (hF_23_2 : rF 3 (fp, f, k) = (fpn_23, fn_23, k)) (hF_24_0 : (fn_24 = 0 → fn_23 = 0 ∧ bAt fb z k = 119)) (hF_24_1 : rB fb z 119 (fpn_23, fn_23, k) = (fpn_24, fn_24, kn_24)) (hF_25_0 : (fn_25 = 0 → fn_24 = 0)) (hF_25_1 : rN fb z 0 4 (fpn_24, fn_24, kn_24) = (fpn_25, fn_25, kn_25)) (h_25 : r_25 = (rV fb z 0 4 kn_24)) (hF_26_0 : (fn_26 = 0 → fn_25 = 0 ∧ bAt fb z kn_25 = 59)) (hF_26_1 : rB fb z 59 (fpn_25, fn_25, kn_25) = (fpn_26, fn_26, kn_26)) (c_27 : ¬ (fn_26 = 0)) : xW fb z ((fp, f, k), tww, tg1) = ((fpn_26, fn_26, kn_26), tww, tg1) := by
  first
  | omega
  | (simp only [xW, xWb, xWa, xW0]; grind)
theorem lf_X6_readWind_18 {z : Nat} {fp : Int32} {f : Int32} {k : Int32} {fb : Nat → Int32} {tww : Nat} {tkk : Nat} {r_8 : Int32} {fpn_23 : Int32} {fn_23 : Int32} {fpn_24 : Int32} {fn_24 : Int32} {kn_24 : Int32} {fpn_25 : Int32} {fn_25 : Int32} {kn_25 : Int32} {r_25 : Int32} {fpn_26 : Int32} {fn_26 : Int32} {kn_26 : Int32} (hz : z ≤ 120) (htww : tww ≤ 6) (htkk : tkk ≤ 6) (c_1 : f = 0) (h_8 : r_8 = (bAt fb z k)) (c_9 : r_8 = 119) (c_16 : ¬ (tww < 6)) (hF_23_0 : (¬ (3 : Int32) = 0 → ¬ fn_23 = 0)) (hF_23_1 : (¬ f = 0 → fn_23 = f)) (hF_23_2 : rF 3 (fp, f, k) = (fpn_23, fn_23, k)) (hF_24_0 : (fn_24 = 0 → fn_23 = 0 ∧ bAt fb z k = 119)) (hF_24_1 : rB fb z 119 (fpn_23, fn_23, k) = (fpn_24, fn_24, kn_24)) (hF_25_0 : (fn_25 = 0 → fn_24 = 0)) (hF_25_1 : rN fb z 0 4 (fpn_24, fn_24, kn_24) = (fpn_25, fn_25, kn_25)) (h_25 : r_25 = (rV fb z 0 4 kn_24)) (hF_26_0 : (fn_26 = 0 → fn_25 = 0 ∧ bAt fb z kn_25 = 59)) (hF_26_1 : rB fb z 59 (fpn_25, fn_25, kn_25) = (fpn_26, fn_26, kn_26)) (c_27 : fn_26 = 0) : tww < 6 := by
  grind
theorem lf_X6_readWind_19 {z : Nat} {fp : Int32} {f : Int32} {k : Int32} {fb : Nat → Int32} {tww : Nat} {tkk : Nat} {tg1 : Nat → Int32} {r_8 : Int32} {fpn_23 : Int32} {fn_23 : Int32} {fpn_24 : Int32} {fn_24 : Int32} {kn_24 : Int32} {fpn_25 : Int32} {fn_25 : Int32} {kn_25 : Int32} {r_25 : Int32} {fpn_26 : Int32} {fn_26 : Int32} {kn_26 : Int32} {g_28 : Nat → Int32} (hz : z ≤ 120) (htww : tww ≤ 6) (htkk : tkk ≤ 6) (c_1 : f = 0) (h_8 : r_8 = (bAt fb z k)) (c_9 : r_8 = 119) (c_16 : ¬ (tww < 6)) (hF_23_0 : (¬ (3 : Int32) = 0 → ¬ fn_23 = 0)) (hF_23_1 : (¬ f = 0 → fn_23 = f)) (hF_23_2 : rF 3 (fp, f, k) = (fpn_23, fn_23, k)) (hF_24_0 : (fn_24 = 0 → fn_23 = 0 ∧ bAt fb z k = 119)) (hF_24_1 : rB fb z 119 (fpn_23, fn_23, k) = (fpn_24, fn_24, kn_24)) (hF_25_0 : (fn_25 = 0 → fn_24 = 0)) (hF_25_1 : rN fb z 0 4 (fpn_24, fn_24, kn_24) = (fpn_25, fn_25, kn_25)) (h_25 : r_25 = (rV fb z 0 4 kn_24)) (hF_26_0 : (fn_26 = 0 → fn_25 = 0 ∧ bAt fb z kn_25 = 59)) (hF_26_1 : rB fb z 59 (fpn_25, fn_25, kn_25) = (fpn_26, fn_26, kn_26)) (c_27 : fn_26 = 0) (hw6 : tww < 6) (hu_28 : g_28 = upd tg1 tww r_25) : (tww + 1) ≤ 6 := by
  first
  | omega
  | (simp only [xW, xWb, xWa, xW0]; grind)
theorem lf_X6_readWind_20 {z : Nat} {fp : Int32} {f : Int32} {k : Int32} {fb : Nat → Int32} {tww : Nat} {tkk : Nat} {tg1 : Nat → Int32} {r_8 : Int32} {fpn_23 : Int32} {fn_23 : Int32} {fpn_24 : Int32} {fn_24 : Int32} {kn_24 : Int32} {fpn_25 : Int32} {fn_25 : Int32} {kn_25 : Int32} {r_25 : Int32} {fpn_26 : Int32} {fn_26 : Int32} {kn_26 : Int32} {g_28 : Nat → Int32} (hz : z ≤ 120) (htww : tww ≤ 6) (htkk : tkk ≤ 6) (c_1 : f = 0) (h_8 : r_8 = (bAt fb z k)) (c_9 : r_8 = 119) (c_16 : ¬ (tww < 6)) (hF_23_0 : (¬ (3 : Int32) = 0 → ¬ fn_23 = 0)) (hF_23_1 : (¬ f = 0 → fn_23 = f)) (hF_23_2 : rF 3 (fp, f, k) = (fpn_23, fn_23, k)) (hF_24_0 : (fn_24 = 0 → fn_23 = 0 ∧ bAt fb z k = 119)) (hF_24_1 : rB fb z 119 (fpn_23, fn_23, k) = (fpn_24, fn_24, kn_24)) (hF_25_0 : (fn_25 = 0 → fn_24 = 0)) (hF_25_1 : rN fb z 0 4 (fpn_24, fn_24, kn_24) = (fpn_25, fn_25, kn_25)) (h_25 : r_25 = (rV fb z 0 4 kn_24)) (hF_26_0 : (fn_26 = 0 → fn_25 = 0 ∧ bAt fb z kn_25 = 59)) (hF_26_1 : rB fb z 59 (fpn_25, fn_25, kn_25) = (fpn_26, fn_26, kn_26)) (c_27 : fn_26 = 0) (hw6 : tww < 6) (hu_28 : g_28 = upd tg1 tww r_25) : xW fb z ((fp, f, k), tww, tg1) = ((fpn_26, fn_26, kn_26), (tww + 1), g_28) := by
  first
  | omega
  | (simp only [xW, xWb, xWa, xW0]; grind)
set_option maxHeartbeats 4000000 in
set_option maxRecDepth 100000 in
theorem r_X6_readWind (l : Launch) (dC : Nat → ClassId) (dI : Nat → Nat → Nat) (cI cZ cL cJ : ClassId) (sz : Nat) (h : Nat) (bs : Nat) (td : Nat) (z : Nat) (fp : Int32) (f : Int32) (k : Int32) (fb : Nat → Int32) (tv0 : Int32) (tv1 : Int32) (tv2 : Int32) (tv3 : Int32) (tv5 : Int32) (thh : Nat) (tww : Nat) (tkk : Nat) (tb1 : Nat) (tb2 : Nat) (tb3 : Nat) (tb4 : Nat) (tb5 : Nat) (tg1 : Nat → Int32) (tg2 : Nat → Int32) (tg3 : Nat → Int32) (tg4 : Nat → Int32) (tg5 : Nat → Int32) (hz : z ≤ 120) (htww : tww ≤ 6) (htkk : tkk ≤ 6) : Met l yX6_readWind wsX6_readWind ({ frames := 3, cells := 0, slots := 0, locals := 67 }) (va_Pc [.ref h] (fun U => U.heap.size = sz ∧ va_P (dC, dI) vwCl [(xo_6_ririii h bs (nI z) td fp f k), (xI bs cI 120 fb), (xo_3_iiiiiiiirrrrr td tv0 tv1 tv2 tv3 (nI thh) tv5 (nI tww) (nI tkk) tb1 tb2 tb3 tb4 tb5), (xI tb1 cI 6 tg1), (xI tb2 cI 6 tg2), (xI tb3 cI 6 tg3), (xI tb4 cI 6 tg4), (xI tb5 cI 6 tg5)] U.heap ∧ va_K (dC, dI) vwCl [(cI, .int), (cZ, .boolean), (cL, .object RX3), (cJ, .array .int)] U ∧ va_D (fun _ => True) [(xo_6_ririii h bs (nI z) td fp f k), (xI bs cI 120 fb), (xo_3_iiiiiiiirrrrr td tv0 tv1 tv2 tv3 (nI thh) tv5 (nI tww) (nI tkk) tb1 tb2 tb3 tb4 tb5), (xI tb1 cI 6 tg1), (xI tb2 cI 6 tg2), (xI tb3 cI 6 tg3), (xI tb4 cI 6 tg4), (xI tb5 cI 6 tg5)])) (va_Qv (fun (_ : Unit) => True) (fun (_ : Unit) t => ∃ (fpn : Int32) (fn : Int32) (kn : Int32) (tn : Nat) (tg1n : Nat → Int32), va_P (dC, dI) vwCl [(xo_6_ririii h bs (nI z) td fpn fn kn), (xI bs cI 120 fb), (xo_3_iiiiiiiirrrrr td tv0 tv1 tv2 tv3 (nI thh) tv5 (nI tn) (nI tkk) tb1 tb2 tb3 tb4 tb5), (xI tb1 cI 6 tg1n), (xI tb2 cI 6 tg2), (xI tb3 cI 6 tg3), (xI tb4 cI 6 tg4), (xI tb5 cI 6 tg5)] t.heap ∧ va_D (va_A [(xo_6_ririii h bs (nI z) td fp f k), (xI bs cI 120 fb), (xo_3_iiiiiiiirrrrr td tv0 tv1 tv2 tv3 (nI thh) tv5 (nI tww) (nI tkk) tb1 tb2 tb3 tb4 tb5), (xI tb1 cI 6 tg1), (xI tb2 cI 6 tg2), (xI tb3 cI 6 tg3), (xI tb4 cI 6 tg4), (xI tb5 cI 6 tg5)] sz) [(xo_6_ririii h bs (nI z) td fpn fn kn), (xI bs cI 120 fb), (xo_3_iiiiiiiirrrrr td tv0 tv1 tv2 tv3 (nI thh) tv5 (nI tn) (nI tkk) tb1 tb2 tb3 tb4 tb5), (xI tb1 cI 6 tg1n), (xI tb2 cI 6 tg2), (xI tb3 cI 6 tg3), (xI tb4 cI 6 tg4), (xI tb5 cI 6 tg5)] ∧ tn ≤ 6 ∧ xW fb z ((fp, f, k), tww, tg1) = ((fpn, fn, kn), tn, tg1n)) (va_A [(xo_6_ririii h bs (nI z) td fp f k), (xI bs cI 120 fb), (xo_3_iiiiiiiirrrrr td tv0 tv1 tv2 tv3 (nI thh) tv5 (nI tww) (nI tkk) tb1 tb2 tb3 tb4 tb5), (xI tb1 cI 6 tg1), (xI tb2 cI 6 tg2), (xI tb3 cI 6 tg3), (xI tb4 cI 6 tg4), (xI tb5 cI 6 tg5)] sz)) 0 0 (va_A [(xo_6_ririii h bs (nI z) td fp f k), (xI bs cI 120 fb), (xo_3_iiiiiiiirrrrr td tv0 tv1 tv2 tv3 (nI thh) tv5 (nI tww) (nI tkk) tb1 tb2 tb3 tb4 tb5), (xI tb1 cI 6 tg1), (xI tb2 cI 6 tg2), (xI tb3 cI 6 tg3), (xI tb4 cI 6 tg4), (xI tb5 cI 6 tg5)] sz) := by
  refine Met.ofW (cc := cX6_readWind) (maxL := 2) (ret := none) (by decide) rfl ?_
  intro p e s m args below meth c s₁ B hml hv
  obtain ⟨rfl, hsz, hP, hK, hD0⟩ := hv
  have hx := B.exec
  have hb := B.bytes
  have hr := B.returns
  have hts := atoms_spec (ws := wsX6_readWind) B.pre
  have hown : s.vm.findClass RX6 = some m.cls := findClass_of_methodNamed B.named
  have hlocks := B.notSynchronized
  subst hsz
  have hD := hD0.self (sz := s.heap.size)
  generalize hAe : va_A [(xo_6_ririii h bs (nI z) td fp f k), (xI bs cI 120 fb), (xo_3_iiiiiiiirrrrr td tv0 tv1 tv2 tv3 (nI thh) tv5 (nI tww) (nI tkk) tb1 tb2 tb3 tb4 tb5), (xI tb1 cI 6 tg1), (xI tb2 cI 6 tg2), (xI tb3 cI 6 tg3), (xI tb4 cI 6 tg4), (xI tb5 cI 6 tg5)] s.heap.size = A at hD ⊢
  have hA : ∀ q : Nat, s.heap.size ≤ q → A q := fun q h => by rw [← hAe]; exact Or.inr h
  have hS : va_S A s.heap s.heap [] := va_S.rf
  have hP : va_P (dC, dI) vwCl [(xo_6_ririii h bs (nI z) td fp f k), (xI bs cI 120 fb), (xo_3_iiiiiiiirrrrr td tv0 tv1 tv2 tv3 (nI thh) tv5 (nI tww) (nI tkk) tb1 tb2 tb3 tb4 tb5), (xI tb1 cI 6 tg1), (xI tb2 cI 6 tg2), (xI tb3 cI 6 tg3), (xI tb4 cI 6 tg4), (xI tb5 cI 6 tg5)] s.heap := hP
  have hl := lv_entry ([.ref h]) (n := 2) (Nat.le_of_ble_eq_true rfl)
  rw [lg_entry_eq]
  generalize (lg_sl ([.ref h]) ++ List.replicate (2 - (lg_sl ([.ref h])).length) Slot.unset).toArray = ls at hl ⊢
  have hl : lv_has ls 2 [(0, .ref h)] := hl
  refine lv_aload_n hx hb dX6_readWind_0 rfl (lv_at hl 0 rfl) ?_
  refine va_get (D := (dC, dI)) (ci := 6) (v := .int f) (C := RX6) (T := TX6) (N := 6) hx hb hts i_X6_readWind_X6 hown hK hP 0 rfl rfl 4 (by decide) (hts _ mx_X6_readWind_1) (fun _ h9 => h9) rfl dX6_readWind_1 ?_
  refine lv_if_ne (tgt := 37) hx hb dX6_readWind_4 (by decide) (fun c_1 => ?_) (fun c_1 => ?_)
  · skip
    refine lv_aload_n hx hb dX6_readWind_37 rfl (lv_at hl 0 rfl) ?_
    refine lv_bipush (v := 119) hx hb dX6_readWind_38 (by decide) ?_
    have hc_2 := cutW (wc := [(xo_6_ririii h bs (nI z) td fp f k), (xI bs cI 120 fb)]) hP hD hS hA [0, 1] (by decide +kernel) rfl
    refine va_callv (va_runV (As := [.int 119]) (rest := []) ⟨hx, hb, hml, hown, hts⟩ (r_X6_readByte l dC dI cI cZ cL cJ s.heap.size h bs td z fp f k fb 119 (hz)) (cwV 1 hts gX6_readWind_X6_readByte rfl rfl rfl (by decide +kernel) ⟨Nat.le_of_ble_eq_true rfl, Nat.le_of_ble_eq_true rfl⟩) (pvW 6 0 hK hP rfl rfl hc_2) rfl rfl hl.1 rfl (lv_room (Nat.le_of_ble_eq_true rfl)) dX6_readWind_40 ⟨Nat.le_of_ble_eq_true rfl, Nat.le_of_ble_eq_true rfl⟩) hS (fun q _ h => hc_2.2.2 q h) hc_2.2.2 (fun u_2 t_2 H1 locs ht hvm h_2 hB hz1 hk1 hS => ?_)
    refine xl_3_4 hB (fun fpn_2 fn_2 kn_2 hP1 hD1 hF_2_0 hF_2_1 => ?_)
    clear hB
    rw [ht] at hP1
    obtain ⟨hP, hD⟩ := va_join (wr := [(xo_3_iiiiiiiirrrrr td tv0 tv1 tv2 tv3 (nI thh) tv5 (nI tww) (nI tkk) tb1 tb2 tb3 tb4 tb5), (xI tb1 cI 6 tg1), (xI tb2 cI 6 tg2), (xI tb3 cI 6 tg3), (xI tb4 cI 6 tg4), (xI tb5 cI 6 tg5)]) (w1 := [(xo_6_ririii h bs (nI z) td fpn_2 fn_2 kn_2), (xI bs cI 120 fb)]) hP hD [0, 1] [2, 3, 4, 5, 6, 7] rfl rfl (by decide +kernel) (by decide +kernel) hk1 hc_2.2.2 hP1 hD1
    generalize H1 = H at hP hS ⊢
    have hP : va_P (dC, dI) vwCl [(xo_3_iiiiiiiirrrrr td tv0 tv1 tv2 tv3 (nI thh) tv5 (nI tww) (nI tkk) tb1 tb2 tb3 tb4 tb5), (xI tb1 cI 6 tg1), (xI tb2 cI 6 tg2), (xI tb3 cI 6 tg3), (xI tb4 cI 6 tg4), (xI tb5 cI 6 tg5), (xo_6_ririii h bs (nI z) td fpn_2 fn_2 kn_2), (xI bs cI 120 fb)] H := hP
    have hD := dto hP hD
    refine lv_aload_n hx hb dX6_readWind_43 rfl (lv_at hl 0 rfl) ?_
    refine lv_iconst (v := 0) hx hb dX6_readWind_44 (by decide) ?_
    refine lv_iconst (v := 4) hx hb dX6_readWind_45 (by decide) ?_
    have hc_3 := cutW (wc := [(xo_6_ririii h bs (nI z) td fpn_2 fn_2 kn_2), (xI bs cI 120 fb)]) hP hD hS hA [6, 7] (by decide +kernel) rfl
    refine va_calli (va_runV (As := [.int 0, .int 4]) (rest := []) ⟨hx, hb, hml, hown, hts⟩ (r_X6_readNumber l dC dI cI cZ cL cJ H.size h bs td z fpn_2 fn_2 kn_2 fb 0 4 (hz)) (cwV 2 hts gX6_readWind_X6_readNumber rfl rfl rfl (by decide +kernel) ⟨Nat.le_of_ble_eq_true rfl, Nat.le_of_ble_eq_true rfl⟩) (pvW 6 6 hK hP rfl rfl hc_3) rfl rfl hl.1 rfl (lv_room (Nat.le_of_ble_eq_true rfl)) dX6_readWind_46 ⟨Nat.le_of_ble_eq_true rfl, Nat.le_of_ble_eq_true rfl⟩) hS (fun q _ h => hc_3.2.2 q h) hc_3.2.2 (fun r_3 u_3 t_3 H1 locs ht hvm h_3 hB hz1 hk1 hS => ?_)
    refine xl_3_4 hB (fun fpn_3 fn_3 kn_3 hP1 hD1 hF_3_0 hF_3_1 => ?_)
    clear hB
    rw [ht] at hP1
    obtain ⟨hP, hD⟩ := va_join (wr := [(xo_3_iiiiiiiirrrrr td tv0 tv1 tv2 tv3 (nI thh) tv5 (nI tww) (nI tkk) tb1 tb2 tb3 tb4 tb5), (xI tb1 cI 6 tg1), (xI tb2 cI 6 tg2), (xI tb3 cI 6 tg3), (xI tb4 cI 6 tg4), (xI tb5 cI 6 tg5)]) (w1 := [(xo_6_ririii h bs (nI z) td fpn_3 fn_3 kn_3), (xI bs cI 120 fb)]) hP hD [6, 7] [0, 1, 2, 3, 4, 5] rfl rfl (by decide +kernel) (by decide +kernel) hk1 hc_3.2.2 hP1 hD1
    generalize H1 = H at hP hS ⊢
    have hP : va_P (dC, dI) vwCl [(xo_3_iiiiiiiirrrrr td tv0 tv1 tv2 tv3 (nI thh) tv5 (nI tww) (nI tkk) tb1 tb2 tb3 tb4 tb5), (xI tb1 cI 6 tg1), (xI tb2 cI 6 tg2), (xI tb3 cI 6 tg3), (xI tb4 cI 6 tg4), (xI tb5 cI 6 tg5), (xo_6_ririii h bs (nI z) td fpn_3 fn_3 kn_3), (xI bs cI 120 fb)] H := hP
    have hD := dto hP hD
    refine lv_istore_n (lv' := [(1, .int r_3), (0, .ref h)]) hx hb dX6_readWind_49 rfl hl (by decide) rfl (fun ls hl => ?_)
    refine lv_aload_n hx hb dX6_readWind_50 rfl (lv_at hl 1 rfl) ?_
    refine lv_bipush (v := 59) hx hb dX6_readWind_51 (by decide) ?_
    have hc_4 := cutW (wc := [(xo_6_ririii h bs (nI z) td fpn_3 fn_3 kn_3), (xI bs cI 120 fb)]) hP hD hS hA [6, 7] (by decide +kernel) rfl
    refine va_callv (va_runV (As := [.int 59]) (rest := []) ⟨hx, hb, hml, hown, hts⟩ (r_X6_readByte l dC dI cI cZ cL cJ H.size h bs td z fpn_3 fn_3 kn_3 fb 59 (hz)) (cwV 1 hts gX6_readWind_X6_readByte rfl rfl rfl (by decide +kernel) ⟨Nat.le_of_ble_eq_true rfl, Nat.le_of_ble_eq_true rfl⟩) (pvW 6 6 hK hP rfl rfl hc_4) rfl rfl hl.1 rfl (lv_room (Nat.le_of_ble_eq_true rfl)) dX6_readWind_53 ⟨Nat.le_of_ble_eq_true rfl, Nat.le_of_ble_eq_true rfl⟩) hS (fun q _ h => hc_4.2.2 q h) hc_4.2.2 (fun u_4 t_4 H1 locs ht hvm h_4 hB hz1 hk1 hS => ?_)
    refine xl_3_4 hB (fun fpn_4 fn_4 kn_4 hP1 hD1 hF_4_0 hF_4_1 => ?_)
    clear hB
    rw [ht] at hP1
    obtain ⟨hP, hD⟩ := va_join (wr := [(xo_3_iiiiiiiirrrrr td tv0 tv1 tv2 tv3 (nI thh) tv5 (nI tww) (nI tkk) tb1 tb2 tb3 tb4 tb5), (xI tb1 cI 6 tg1), (xI tb2 cI 6 tg2), (xI tb3 cI 6 tg3), (xI tb4 cI 6 tg4), (xI tb5 cI 6 tg5)]) (w1 := [(xo_6_ririii h bs (nI z) td fpn_4 fn_4 kn_4), (xI bs cI 120 fb)]) hP hD [6, 7] [0, 1, 2, 3, 4, 5] rfl rfl (by decide +kernel) (by decide +kernel) hk1 hc_4.2.2 hP1 hD1
    generalize H1 = H at hP hS ⊢
    have hP : va_P (dC, dI) vwCl [(xo_3_iiiiiiiirrrrr td tv0 tv1 tv2 tv3 (nI thh) tv5 (nI tww) (nI tkk) tb1 tb2 tb3 tb4 tb5), (xI tb1 cI 6 tg1), (xI tb2 cI 6 tg2), (xI tb3 cI 6 tg3), (xI tb4 cI 6 tg4), (xI tb5 cI 6 tg5), (xo_6_ririii h bs (nI z) td fpn_4 fn_4 kn_4), (xI bs cI 120 fb)] H := hP
    have hD := dto hP hD
    refine lv_aload_n hx hb dX6_readWind_56 rfl (lv_at hl 1 rfl) ?_
    refine va_get (D := (dC, dI)) (ci := 6) (v := .int fn_4) (C := RX6) (T := TX6) (N := 6) hx hb hts i_X6_readWind_X6 hown hK hP 6 rfl rfl 4 (by decide) (hts _ mx_X6_readWind_1) (fun _ h9 => h9) rfl dX6_readWind_57 ?_
    refine lv_if_ne (tgt := 92) hx hb dX6_readWind_60 (by decide) (fun c_5 => ?_) (fun c_5 => ?_)
    · skip
      have hX9 := cut2 (wc := [(xo_6_ririii h bs (nI z) td fpn_4 fn_4 kn_4), (xI bs cI 120 fb), (xo_3_iiiiiiiirrrrr td tv0 tv1 tv2 tv3 (nI thh) tv5 (nI tww) (nI tkk) tb1 tb2 tb3 tb4 tb5), (xI tb1 cI 6 tg1), (xI tb2 cI 6 tg2), (xI tb3 cI 6 tg3), (xI tb4 cI 6 tg4), (xI tb5 cI 6 tg5)]) hP hD [6, 7, 0, 1, 2, 3, 4, 5] (by decide +kernel) rfl
      exact W.vret hx hb hr (fun t ht hW => ⟨⟨(), rfl, trivial, ⟨fpn_4, fn_4, kn_4, tww, tg1, va_Ht ht hX9.1, hX9.2, (lf_X6_readWind_1 hz htww htkk c_1 hF_2_0 hF_2_1 hF_3_0 hF_3_1 h_3 hF_4_0 hF_4_1 c_5), (lf_X6_readWind_2 hz htww htkk c_1 hF_2_0 hF_2_1 hF_3_0 hF_3_1 h_3 hF_4_0 hF_4_1 c_5)⟩⟩, hS.F ht⟩) hS.2.2 dX6_readWind_92
    · skip
      have hw6 : tww < 6 := (lf_X6_readWind_3 hz htww htkk c_1 hF_2_0 hF_2_1 hF_3_0 hF_3_1 h_3 hF_4_0 hF_4_1 c_5)
      refine lv_aload_n hx hb dX6_readWind_63 rfl (lv_at hl 1 rfl) ?_
      refine va_get (D := (dC, dI)) (ci := 6) (v := .ref td) (C := RX6) (T := TX6) (N := 6) hx hb hts i_X6_readWind_X6 hown hK hP 6 rfl rfl 2 (by decide) (hts _ mx_X6_readWind_3) (fun _ h9 => h9) rfl dX6_readWind_64 ?_
      refine va_get (D := (dC, dI)) (ci := 3) (v := .ref tb1) (C := RX3) (T := TX3) (N := 13) hx hb hts i_X6_readWind_X3 hown hK hP 0 rfl rfl 8 (by decide) (hts _ mx_X6_readWind_5) (fun _ h9 => h9) rfl dX6_readWind_67 ?_
      refine lv_aload_n hx hb dX6_readWind_70 rfl (lv_at hl 1 rfl) ?_
      refine va_get (D := (dC, dI)) (ci := 6) (v := .ref td) (C := RX6) (T := TX6) (N := 6) hx hb hts i_X6_readWind_X6 hown hK hP 6 rfl rfl 2 (by decide) (hts _ mx_X6_readWind_3) (fun _ h9 => h9) rfl dX6_readWind_71 ?_
      refine va_get (D := (dC, dI)) (ci := 3) (v := .int (nI tww)) (C := RX3) (T := TX3) (N := 13) hx hb hts i_X6_readWind_X3 hown hK hP 0 rfl rfl 6 (by decide) (hts _ mx_X6_readWind_4) (fun _ h9 => h9) rfl dX6_readWind_74 ?_
      refine lv_iload_n hx hb dX6_readWind_77 rfl (lv_at hl 0 rfl) ?_
      refine va_iast hx hb hK hP hD hS 1 0 rfl rfl (vp_in_nI (by omega) (by omega)) dX6_readWind_78 (fun H locs hP hD hS => ?_)
      generalize hg_6 : upd tg1 ((nI tww) : Int32).toNatClampNeg r_3 = g_6 at hP hD
      have hu_6 : g_6 = upd tg1 tww r_3 := (by rw [← hg_6, nI_clamp (by omega)])
      have hP : va_P (dC, dI) vwCl [(xo_3_iiiiiiiirrrrr td tv0 tv1 tv2 tv3 (nI thh) tv5 (nI tww) (nI tkk) tb1 tb2 tb3 tb4 tb5), (xI tb1 cI 6 g_6), (xI tb2 cI 6 tg2), (xI tb3 cI 6 tg3), (xI tb4 cI 6 tg4), (xI tb5 cI 6 tg5), (xo_6_ririii h bs (nI z) td fpn_4 fn_4 kn_4), (xI bs cI 120 fb)] H := hP
      have hD := dto hP hD
      refine lv_aload_n hx hb dX6_readWind_79 rfl (lv_at hl 1 rfl) ?_
      refine va_get (D := (dC, dI)) (ci := 6) (v := .ref td) (C := RX6) (T := TX6) (N := 6) hx hb hts i_X6_readWind_X6 hown hK hP 6 rfl rfl 2 (by decide) (hts _ mx_X6_readWind_3) (fun _ h9 => h9) rfl dX6_readWind_80 ?_
      refine lv_dup hx hb dX6_readWind_83 rfl ?_
      refine va_get (D := (dC, dI)) (ci := 3) (v := .int (nI tww)) (C := RX3) (T := TX3) (N := 13) hx hb hts i_X6_readWind_X3 hown hK hP 0 rfl rfl 6 (by decide) (hts _ mx_X6_readWind_4) (fun _ h9 => h9) rfl dX6_readWind_84 ?_
      refine lv_iconst (v := 1) hx hb dX6_readWind_87 (by decide) ?_
      refine lv_iadd hx hb dX6_readWind_88 ?_
      refine lv_topi (fun v_7 e_7 => ?_)
      obtain rfl : v_7 = (nI (tww + 1)) := (e_7).trans (nI_add tww 1)
      refine va_put (D := (dC, dI)) (ci := 3) (v := .int (nI (tww + 1))) (ty := .int) (C := RX3) (T := TX3) (N := 13) hx hb hts i_X6_readWind_X3 tyX3 tyX3_ok nmX3 hown hK hP hD hS 0 rfl rfl 6 (by decide) (hts _ mx_X6_readWind_4) (fun _ h9 => h9) rfl (by decide +kernel) rfl rfl (Nat.le_of_ble_eq_true rfl) dX6_readWind_89 (fun H locs hP hD hS => ?_)
      have hP : va_P (dC, dI) vwCl [(xo_3_iiiiiiiirrrrr td tv0 tv1 tv2 tv3 (nI thh) tv5 (nI (tww + 1)) (nI tkk) tb1 tb2 tb3 tb4 tb5), (xI tb1 cI 6 g_6), (xI tb2 cI 6 tg2), (xI tb3 cI 6 tg3), (xI tb4 cI 6 tg4), (xI tb5 cI 6 tg5), (xo_6_ririii h bs (nI z) td fpn_4 fn_4 kn_4), (xI bs cI 120 fb)] H := hP
      have hD := dto hP hD
      have hX9 := cut2 (wc := [(xo_6_ririii h bs (nI z) td fpn_4 fn_4 kn_4), (xI bs cI 120 fb), (xo_3_iiiiiiiirrrrr td tv0 tv1 tv2 tv3 (nI thh) tv5 (nI (tww + 1)) (nI tkk) tb1 tb2 tb3 tb4 tb5), (xI tb1 cI 6 g_6), (xI tb2 cI 6 tg2), (xI tb3 cI 6 tg3), (xI tb4 cI 6 tg4), (xI tb5 cI 6 tg5)]) hP hD [6, 7, 0, 1, 2, 3, 4, 5] (by decide +kernel) rfl
      exact W.vret hx hb hr (fun t ht hW => ⟨⟨(), rfl, trivial, ⟨fpn_4, fn_4, kn_4, (tww + 1), g_6, va_Ht ht hX9.1, hX9.2, (lf_X6_readWind_4 hz htww htkk c_1 hF_2_0 hF_2_1 hF_3_0 hF_3_1 h_3 hF_4_0 hF_4_1 c_5 hw6 hu_6), (lf_X6_readWind_5 hz htww htkk c_1 hF_2_0 hF_2_1 hF_3_0 hF_3_1 h_3 hF_4_0 hF_4_1 c_5 hw6 hu_6)⟩⟩, hS.F ht⟩) hS.2.2 dX6_readWind_92
  · skip
    refine lv_aload_n hx hb dX6_readWind_7 rfl (lv_at hl 0 rfl) ?_
    refine lv_aload_n hx hb dX6_readWind_8 rfl (lv_at hl 0 rfl) ?_
    refine va_get (D := (dC, dI)) (ci := 6) (v := .int k) (C := RX6) (T := TX6) (N := 6) hx hb hts i_X6_readWind_X6 hown hK hP 0 rfl rfl 5 (by decide) (hts _ mx_X6_readWind_2) (fun _ h9 => h9) rfl dX6_readWind_9 ?_
    have hPc_8 := hP.sub (ws' := [(xo_6_ririii h bs (nI z) td fp f k), (xI bs cI 120 fb)]) [0, 1] rfl
    refine vp_callSi (W.runV (As := [.int k]) (rest := []) ⟨hx, hb, hml, hown, hts⟩ (r_X6_byteAt l dC dI cI cZ cL cJ h bs td z fp f k fb k (hz)) (cwV 1 hts gX6_readWind_X6_byteAt rfl rfl rfl (by decide +kernel) ⟨Nat.le_of_ble_eq_true rfl, Nat.le_of_ble_eq_true rfl⟩) (pvP 6 0 hK hP rfl rfl hPc_8) rfl rfl hl.1 rfl (lv_room (Nat.le_of_ble_eq_true rfl)) dX6_readWind_12 ⟨Nat.le_of_ble_eq_true rfl, Nat.le_of_ble_eq_true rfl⟩) (fun r_8 h_8 => ?_)
    refine lv_bipush (v := 119) hx hb dX6_readWind_15 (by decide) ?_
    refine lv_icmp_ne (tgt := 37) hx hb dX6_readWind_17 (by decide) (fun c_9 => ?_) (fun c_9 => ?_)
    · skip
      refine lv_aload_n hx hb dX6_readWind_37 rfl (lv_at hl 0 rfl) ?_
      refine lv_bipush (v := 119) hx hb dX6_readWind_38 (by decide) ?_
      have hc_10 := cutW (wc := [(xo_6_ririii h bs (nI z) td fp f k), (xI bs cI 120 fb)]) hP hD hS hA [0, 1] (by decide +kernel) rfl
      refine va_callv (va_runV (As := [.int 119]) (rest := []) ⟨hx, hb, hml, hown, hts⟩ (r_X6_readByte l dC dI cI cZ cL cJ s.heap.size h bs td z fp f k fb 119 (hz)) (cwV 1 hts gX6_readWind_X6_readByte rfl rfl rfl (by decide +kernel) ⟨Nat.le_of_ble_eq_true rfl, Nat.le_of_ble_eq_true rfl⟩) (pvW 6 0 hK hP rfl rfl hc_10) rfl rfl hl.1 rfl (lv_room (Nat.le_of_ble_eq_true rfl)) dX6_readWind_40 ⟨Nat.le_of_ble_eq_true rfl, Nat.le_of_ble_eq_true rfl⟩) hS (fun q _ h => hc_10.2.2 q h) hc_10.2.2 (fun u_10 t_10 H1 locs ht hvm h_10 hB hz1 hk1 hS => ?_)
      refine xl_3_4 hB (fun fpn_10 fn_10 kn_10 hP1 hD1 hF_10_0 hF_10_1 => ?_)
      clear hB
      rw [ht] at hP1
      obtain ⟨hP, hD⟩ := va_join (wr := [(xo_3_iiiiiiiirrrrr td tv0 tv1 tv2 tv3 (nI thh) tv5 (nI tww) (nI tkk) tb1 tb2 tb3 tb4 tb5), (xI tb1 cI 6 tg1), (xI tb2 cI 6 tg2), (xI tb3 cI 6 tg3), (xI tb4 cI 6 tg4), (xI tb5 cI 6 tg5)]) (w1 := [(xo_6_ririii h bs (nI z) td fpn_10 fn_10 kn_10), (xI bs cI 120 fb)]) hP hD [0, 1] [2, 3, 4, 5, 6, 7] rfl rfl (by decide +kernel) (by decide +kernel) hk1 hc_10.2.2 hP1 hD1
      generalize H1 = H at hP hS ⊢
      have hP : va_P (dC, dI) vwCl [(xo_3_iiiiiiiirrrrr td tv0 tv1 tv2 tv3 (nI thh) tv5 (nI tww) (nI tkk) tb1 tb2 tb3 tb4 tb5), (xI tb1 cI 6 tg1), (xI tb2 cI 6 tg2), (xI tb3 cI 6 tg3), (xI tb4 cI 6 tg4), (xI tb5 cI 6 tg5), (xo_6_ririii h bs (nI z) td fpn_10 fn_10 kn_10), (xI bs cI 120 fb)] H := hP
      have hD := dto hP hD
      refine lv_aload_n hx hb dX6_readWind_43 rfl (lv_at hl 0 rfl) ?_
      refine lv_iconst (v := 0) hx hb dX6_readWind_44 (by decide) ?_
      refine lv_iconst (v := 4) hx hb dX6_readWind_45 (by decide) ?_
      have hc_11 := cutW (wc := [(xo_6_ririii h bs (nI z) td fpn_10 fn_10 kn_10), (xI bs cI 120 fb)]) hP hD hS hA [6, 7] (by decide +kernel) rfl
      refine va_calli (va_runV (As := [.int 0, .int 4]) (rest := []) ⟨hx, hb, hml, hown, hts⟩ (r_X6_readNumber l dC dI cI cZ cL cJ H.size h bs td z fpn_10 fn_10 kn_10 fb 0 4 (hz)) (cwV 2 hts gX6_readWind_X6_readNumber rfl rfl rfl (by decide +kernel) ⟨Nat.le_of_ble_eq_true rfl, Nat.le_of_ble_eq_true rfl⟩) (pvW 6 6 hK hP rfl rfl hc_11) rfl rfl hl.1 rfl (lv_room (Nat.le_of_ble_eq_true rfl)) dX6_readWind_46 ⟨Nat.le_of_ble_eq_true rfl, Nat.le_of_ble_eq_true rfl⟩) hS (fun q _ h => hc_11.2.2 q h) hc_11.2.2 (fun r_11 u_11 t_11 H1 locs ht hvm h_11 hB hz1 hk1 hS => ?_)
      refine xl_3_4 hB (fun fpn_11 fn_11 kn_11 hP1 hD1 hF_11_0 hF_11_1 => ?_)
      clear hB
      rw [ht] at hP1
      obtain ⟨hP, hD⟩ := va_join (wr := [(xo_3_iiiiiiiirrrrr td tv0 tv1 tv2 tv3 (nI thh) tv5 (nI tww) (nI tkk) tb1 tb2 tb3 tb4 tb5), (xI tb1 cI 6 tg1), (xI tb2 cI 6 tg2), (xI tb3 cI 6 tg3), (xI tb4 cI 6 tg4), (xI tb5 cI 6 tg5)]) (w1 := [(xo_6_ririii h bs (nI z) td fpn_11 fn_11 kn_11), (xI bs cI 120 fb)]) hP hD [6, 7] [0, 1, 2, 3, 4, 5] rfl rfl (by decide +kernel) (by decide +kernel) hk1 hc_11.2.2 hP1 hD1
      generalize H1 = H at hP hS ⊢
      have hP : va_P (dC, dI) vwCl [(xo_3_iiiiiiiirrrrr td tv0 tv1 tv2 tv3 (nI thh) tv5 (nI tww) (nI tkk) tb1 tb2 tb3 tb4 tb5), (xI tb1 cI 6 tg1), (xI tb2 cI 6 tg2), (xI tb3 cI 6 tg3), (xI tb4 cI 6 tg4), (xI tb5 cI 6 tg5), (xo_6_ririii h bs (nI z) td fpn_11 fn_11 kn_11), (xI bs cI 120 fb)] H := hP
      have hD := dto hP hD
      refine lv_istore_n (lv' := [(1, .int r_11), (0, .ref h)]) hx hb dX6_readWind_49 rfl hl (by decide) rfl (fun ls hl => ?_)
      refine lv_aload_n hx hb dX6_readWind_50 rfl (lv_at hl 1 rfl) ?_
      refine lv_bipush (v := 59) hx hb dX6_readWind_51 (by decide) ?_
      have hc_12 := cutW (wc := [(xo_6_ririii h bs (nI z) td fpn_11 fn_11 kn_11), (xI bs cI 120 fb)]) hP hD hS hA [6, 7] (by decide +kernel) rfl
      refine va_callv (va_runV (As := [.int 59]) (rest := []) ⟨hx, hb, hml, hown, hts⟩ (r_X6_readByte l dC dI cI cZ cL cJ H.size h bs td z fpn_11 fn_11 kn_11 fb 59 (hz)) (cwV 1 hts gX6_readWind_X6_readByte rfl rfl rfl (by decide +kernel) ⟨Nat.le_of_ble_eq_true rfl, Nat.le_of_ble_eq_true rfl⟩) (pvW 6 6 hK hP rfl rfl hc_12) rfl rfl hl.1 rfl (lv_room (Nat.le_of_ble_eq_true rfl)) dX6_readWind_53 ⟨Nat.le_of_ble_eq_true rfl, Nat.le_of_ble_eq_true rfl⟩) hS (fun q _ h => hc_12.2.2 q h) hc_12.2.2 (fun u_12 t_12 H1 locs ht hvm h_12 hB hz1 hk1 hS => ?_)
      refine xl_3_4 hB (fun fpn_12 fn_12 kn_12 hP1 hD1 hF_12_0 hF_12_1 => ?_)
      clear hB
      rw [ht] at hP1
      obtain ⟨hP, hD⟩ := va_join (wr := [(xo_3_iiiiiiiirrrrr td tv0 tv1 tv2 tv3 (nI thh) tv5 (nI tww) (nI tkk) tb1 tb2 tb3 tb4 tb5), (xI tb1 cI 6 tg1), (xI tb2 cI 6 tg2), (xI tb3 cI 6 tg3), (xI tb4 cI 6 tg4), (xI tb5 cI 6 tg5)]) (w1 := [(xo_6_ririii h bs (nI z) td fpn_12 fn_12 kn_12), (xI bs cI 120 fb)]) hP hD [6, 7] [0, 1, 2, 3, 4, 5] rfl rfl (by decide +kernel) (by decide +kernel) hk1 hc_12.2.2 hP1 hD1
      generalize H1 = H at hP hS ⊢
      have hP : va_P (dC, dI) vwCl [(xo_3_iiiiiiiirrrrr td tv0 tv1 tv2 tv3 (nI thh) tv5 (nI tww) (nI tkk) tb1 tb2 tb3 tb4 tb5), (xI tb1 cI 6 tg1), (xI tb2 cI 6 tg2), (xI tb3 cI 6 tg3), (xI tb4 cI 6 tg4), (xI tb5 cI 6 tg5), (xo_6_ririii h bs (nI z) td fpn_12 fn_12 kn_12), (xI bs cI 120 fb)] H := hP
      have hD := dto hP hD
      refine lv_aload_n hx hb dX6_readWind_56 rfl (lv_at hl 1 rfl) ?_
      refine va_get (D := (dC, dI)) (ci := 6) (v := .int fn_12) (C := RX6) (T := TX6) (N := 6) hx hb hts i_X6_readWind_X6 hown hK hP 6 rfl rfl 4 (by decide) (hts _ mx_X6_readWind_1) (fun _ h9 => h9) rfl dX6_readWind_57 ?_
      refine lv_if_ne (tgt := 92) hx hb dX6_readWind_60 (by decide) (fun c_13 => ?_) (fun c_13 => ?_)
      · skip
        have hX9 := cut2 (wc := [(xo_6_ririii h bs (nI z) td fpn_12 fn_12 kn_12), (xI bs cI 120 fb), (xo_3_iiiiiiiirrrrr td tv0 tv1 tv2 tv3 (nI thh) tv5 (nI tww) (nI tkk) tb1 tb2 tb3 tb4 tb5), (xI tb1 cI 6 tg1), (xI tb2 cI 6 tg2), (xI tb3 cI 6 tg3), (xI tb4 cI 6 tg4), (xI tb5 cI 6 tg5)]) hP hD [6, 7, 0, 1, 2, 3, 4, 5] (by decide +kernel) rfl
        exact W.vret hx hb hr (fun t ht hW => ⟨⟨(), rfl, trivial, ⟨fpn_12, fn_12, kn_12, tww, tg1, va_Ht ht hX9.1, hX9.2, (lf_X6_readWind_6 hz htww htkk c_1 h_8 c_9 hF_10_0 hF_10_1 hF_11_0 hF_11_1 h_11 hF_12_0 hF_12_1 c_13), (lf_X6_readWind_7 hz htww htkk c_1 h_8 c_9 hF_10_0 hF_10_1 hF_11_0 hF_11_1 h_11 hF_12_0 hF_12_1 c_13)⟩⟩, hS.F ht⟩) hS.2.2 dX6_readWind_92
      · skip
        have hw6 : tww < 6 := (lf_X6_readWind_8 hz htww htkk c_1 h_8 c_9 hF_10_0 hF_10_1 hF_11_0 hF_11_1 h_11 hF_12_0 hF_12_1 c_13)
        refine lv_aload_n hx hb dX6_readWind_63 rfl (lv_at hl 1 rfl) ?_
        refine va_get (D := (dC, dI)) (ci := 6) (v := .ref td) (C := RX6) (T := TX6) (N := 6) hx hb hts i_X6_readWind_X6 hown hK hP 6 rfl rfl 2 (by decide) (hts _ mx_X6_readWind_3) (fun _ h9 => h9) rfl dX6_readWind_64 ?_
        refine va_get (D := (dC, dI)) (ci := 3) (v := .ref tb1) (C := RX3) (T := TX3) (N := 13) hx hb hts i_X6_readWind_X3 hown hK hP 0 rfl rfl 8 (by decide) (hts _ mx_X6_readWind_5) (fun _ h9 => h9) rfl dX6_readWind_67 ?_
        refine lv_aload_n hx hb dX6_readWind_70 rfl (lv_at hl 1 rfl) ?_
        refine va_get (D := (dC, dI)) (ci := 6) (v := .ref td) (C := RX6) (T := TX6) (N := 6) hx hb hts i_X6_readWind_X6 hown hK hP 6 rfl rfl 2 (by decide) (hts _ mx_X6_readWind_3) (fun _ h9 => h9) rfl dX6_readWind_71 ?_
        refine va_get (D := (dC, dI)) (ci := 3) (v := .int (nI tww)) (C := RX3) (T := TX3) (N := 13) hx hb hts i_X6_readWind_X3 hown hK hP 0 rfl rfl 6 (by decide) (hts _ mx_X6_readWind_4) (fun _ h9 => h9) rfl dX6_readWind_74 ?_
        refine lv_iload_n hx hb dX6_readWind_77 rfl (lv_at hl 0 rfl) ?_
        refine va_iast hx hb hK hP hD hS 1 0 rfl rfl (vp_in_nI (by omega) (by omega)) dX6_readWind_78 (fun H locs hP hD hS => ?_)
        generalize hg_14 : upd tg1 ((nI tww) : Int32).toNatClampNeg r_11 = g_14 at hP hD
        have hu_14 : g_14 = upd tg1 tww r_11 := (by rw [← hg_14, nI_clamp (by omega)])
        have hP : va_P (dC, dI) vwCl [(xo_3_iiiiiiiirrrrr td tv0 tv1 tv2 tv3 (nI thh) tv5 (nI tww) (nI tkk) tb1 tb2 tb3 tb4 tb5), (xI tb1 cI 6 g_14), (xI tb2 cI 6 tg2), (xI tb3 cI 6 tg3), (xI tb4 cI 6 tg4), (xI tb5 cI 6 tg5), (xo_6_ririii h bs (nI z) td fpn_12 fn_12 kn_12), (xI bs cI 120 fb)] H := hP
        have hD := dto hP hD
        refine lv_aload_n hx hb dX6_readWind_79 rfl (lv_at hl 1 rfl) ?_
        refine va_get (D := (dC, dI)) (ci := 6) (v := .ref td) (C := RX6) (T := TX6) (N := 6) hx hb hts i_X6_readWind_X6 hown hK hP 6 rfl rfl 2 (by decide) (hts _ mx_X6_readWind_3) (fun _ h9 => h9) rfl dX6_readWind_80 ?_
        refine lv_dup hx hb dX6_readWind_83 rfl ?_
        refine va_get (D := (dC, dI)) (ci := 3) (v := .int (nI tww)) (C := RX3) (T := TX3) (N := 13) hx hb hts i_X6_readWind_X3 hown hK hP 0 rfl rfl 6 (by decide) (hts _ mx_X6_readWind_4) (fun _ h9 => h9) rfl dX6_readWind_84 ?_
        refine lv_iconst (v := 1) hx hb dX6_readWind_87 (by decide) ?_
        refine lv_iadd hx hb dX6_readWind_88 ?_
        refine lv_topi (fun v_15 e_15 => ?_)
        obtain rfl : v_15 = (nI (tww + 1)) := (e_15).trans (nI_add tww 1)
        refine va_put (D := (dC, dI)) (ci := 3) (v := .int (nI (tww + 1))) (ty := .int) (C := RX3) (T := TX3) (N := 13) hx hb hts i_X6_readWind_X3 tyX3 tyX3_ok nmX3 hown hK hP hD hS 0 rfl rfl 6 (by decide) (hts _ mx_X6_readWind_4) (fun _ h9 => h9) rfl (by decide +kernel) rfl rfl (Nat.le_of_ble_eq_true rfl) dX6_readWind_89 (fun H locs hP hD hS => ?_)
        have hP : va_P (dC, dI) vwCl [(xo_3_iiiiiiiirrrrr td tv0 tv1 tv2 tv3 (nI thh) tv5 (nI (tww + 1)) (nI tkk) tb1 tb2 tb3 tb4 tb5), (xI tb1 cI 6 g_14), (xI tb2 cI 6 tg2), (xI tb3 cI 6 tg3), (xI tb4 cI 6 tg4), (xI tb5 cI 6 tg5), (xo_6_ririii h bs (nI z) td fpn_12 fn_12 kn_12), (xI bs cI 120 fb)] H := hP
        have hD := dto hP hD
        have hX9 := cut2 (wc := [(xo_6_ririii h bs (nI z) td fpn_12 fn_12 kn_12), (xI bs cI 120 fb), (xo_3_iiiiiiiirrrrr td tv0 tv1 tv2 tv3 (nI thh) tv5 (nI (tww + 1)) (nI tkk) tb1 tb2 tb3 tb4 tb5), (xI tb1 cI 6 g_14), (xI tb2 cI 6 tg2), (xI tb3 cI 6 tg3), (xI tb4 cI 6 tg4), (xI tb5 cI 6 tg5)]) hP hD [6, 7, 0, 1, 2, 3, 4, 5] (by decide +kernel) rfl
        exact W.vret hx hb hr (fun t ht hW => ⟨⟨(), rfl, trivial, ⟨fpn_12, fn_12, kn_12, (tww + 1), g_14, va_Ht ht hX9.1, hX9.2, (lf_X6_readWind_9 hz htww htkk c_1 h_8 c_9 hF_10_0 hF_10_1 hF_11_0 hF_11_1 h_11 hF_12_0 hF_12_1 c_13 hw6 hu_14), (lf_X6_readWind_10 hz htww htkk c_1 h_8 c_9 hF_10_0 hF_10_1 hF_11_0 hF_11_1 h_11 hF_12_0 hF_12_1 c_13 hw6 hu_14)⟩⟩, hS.F ht⟩) hS.2.2 dX6_readWind_92
    · skip
      refine lv_aload_n hx hb dX6_readWind_20 rfl (lv_at hl 0 rfl) ?_
      refine va_get (D := (dC, dI)) (ci := 6) (v := .ref td) (C := RX6) (T := TX6) (N := 6) hx hb hts i_X6_readWind_X6 hown hK hP 0 rfl rfl 2 (by decide) (hts _ mx_X6_readWind_3) (fun _ h9 => h9) rfl dX6_readWind_21 ?_
      refine va_get (D := (dC, dI)) (ci := 3) (v := .int (nI tww)) (C := RX3) (T := TX3) (N := 13) hx hb hts i_X6_readWind_X3 hown hK hP 2 rfl rfl 6 (by decide) (hts _ mx_X6_readWind_4) (fun _ h9 => h9) rfl dX6_readWind_24 ?_
      refine lv_bipush (v := 6) hx hb dX6_readWind_27 (by decide) ?_
      refine lv_icmp_lt (tgt := 37) hx hb dX6_readWind_29 (by decide) (fun c_16 => ?_) (fun c_16 => ?_)
      · have c_16 : tww < 6 := (nI_ltI (a := tww) (b := 6) (by omega) (by omega)).mp c_16
        refine lv_aload_n hx hb dX6_readWind_37 rfl (lv_at hl 0 rfl) ?_
        refine lv_bipush (v := 119) hx hb dX6_readWind_38 (by decide) ?_
        have hc_17 := cutW (wc := [(xo_6_ririii h bs (nI z) td fp f k), (xI bs cI 120 fb)]) hP hD hS hA [0, 1] (by decide +kernel) rfl
        refine va_callv (va_runV (As := [.int 119]) (rest := []) ⟨hx, hb, hml, hown, hts⟩ (r_X6_readByte l dC dI cI cZ cL cJ s.heap.size h bs td z fp f k fb 119 (hz)) (cwV 1 hts gX6_readWind_X6_readByte rfl rfl rfl (by decide +kernel) ⟨Nat.le_of_ble_eq_true rfl, Nat.le_of_ble_eq_true rfl⟩) (pvW 6 0 hK hP rfl rfl hc_17) rfl rfl hl.1 rfl (lv_room (Nat.le_of_ble_eq_true rfl)) dX6_readWind_40 ⟨Nat.le_of_ble_eq_true rfl, Nat.le_of_ble_eq_true rfl⟩) hS (fun q _ h => hc_17.2.2 q h) hc_17.2.2 (fun u_17 t_17 H1 locs ht hvm h_17 hB hz1 hk1 hS => ?_)
        refine xl_3_4 hB (fun fpn_17 fn_17 kn_17 hP1 hD1 hF_17_0 hF_17_1 => ?_)
        clear hB
        rw [ht] at hP1
        obtain ⟨hP, hD⟩ := va_join (wr := [(xo_3_iiiiiiiirrrrr td tv0 tv1 tv2 tv3 (nI thh) tv5 (nI tww) (nI tkk) tb1 tb2 tb3 tb4 tb5), (xI tb1 cI 6 tg1), (xI tb2 cI 6 tg2), (xI tb3 cI 6 tg3), (xI tb4 cI 6 tg4), (xI tb5 cI 6 tg5)]) (w1 := [(xo_6_ririii h bs (nI z) td fpn_17 fn_17 kn_17), (xI bs cI 120 fb)]) hP hD [0, 1] [2, 3, 4, 5, 6, 7] rfl rfl (by decide +kernel) (by decide +kernel) hk1 hc_17.2.2 hP1 hD1
        generalize H1 = H at hP hS ⊢
        have hP : va_P (dC, dI) vwCl [(xo_3_iiiiiiiirrrrr td tv0 tv1 tv2 tv3 (nI thh) tv5 (nI tww) (nI tkk) tb1 tb2 tb3 tb4 tb5), (xI tb1 cI 6 tg1), (xI tb2 cI 6 tg2), (xI tb3 cI 6 tg3), (xI tb4 cI 6 tg4), (xI tb5 cI 6 tg5), (xo_6_ririii h bs (nI z) td fpn_17 fn_17 kn_17), (xI bs cI 120 fb)] H := hP
        have hD := dto hP hD
        refine lv_aload_n hx hb dX6_readWind_43 rfl (lv_at hl 0 rfl) ?_
        refine lv_iconst (v := 0) hx hb dX6_readWind_44 (by decide) ?_
        refine lv_iconst (v := 4) hx hb dX6_readWind_45 (by decide) ?_
        have hc_18 := cutW (wc := [(xo_6_ririii h bs (nI z) td fpn_17 fn_17 kn_17), (xI bs cI 120 fb)]) hP hD hS hA [6, 7] (by decide +kernel) rfl
        refine va_calli (va_runV (As := [.int 0, .int 4]) (rest := []) ⟨hx, hb, hml, hown, hts⟩ (r_X6_readNumber l dC dI cI cZ cL cJ H.size h bs td z fpn_17 fn_17 kn_17 fb 0 4 (hz)) (cwV 2 hts gX6_readWind_X6_readNumber rfl rfl rfl (by decide +kernel) ⟨Nat.le_of_ble_eq_true rfl, Nat.le_of_ble_eq_true rfl⟩) (pvW 6 6 hK hP rfl rfl hc_18) rfl rfl hl.1 rfl (lv_room (Nat.le_of_ble_eq_true rfl)) dX6_readWind_46 ⟨Nat.le_of_ble_eq_true rfl, Nat.le_of_ble_eq_true rfl⟩) hS (fun q _ h => hc_18.2.2 q h) hc_18.2.2 (fun r_18 u_18 t_18 H1 locs ht hvm h_18 hB hz1 hk1 hS => ?_)
        refine xl_3_4 hB (fun fpn_18 fn_18 kn_18 hP1 hD1 hF_18_0 hF_18_1 => ?_)
        clear hB
        rw [ht] at hP1
        obtain ⟨hP, hD⟩ := va_join (wr := [(xo_3_iiiiiiiirrrrr td tv0 tv1 tv2 tv3 (nI thh) tv5 (nI tww) (nI tkk) tb1 tb2 tb3 tb4 tb5), (xI tb1 cI 6 tg1), (xI tb2 cI 6 tg2), (xI tb3 cI 6 tg3), (xI tb4 cI 6 tg4), (xI tb5 cI 6 tg5)]) (w1 := [(xo_6_ririii h bs (nI z) td fpn_18 fn_18 kn_18), (xI bs cI 120 fb)]) hP hD [6, 7] [0, 1, 2, 3, 4, 5] rfl rfl (by decide +kernel) (by decide +kernel) hk1 hc_18.2.2 hP1 hD1
        generalize H1 = H at hP hS ⊢
        have hP : va_P (dC, dI) vwCl [(xo_3_iiiiiiiirrrrr td tv0 tv1 tv2 tv3 (nI thh) tv5 (nI tww) (nI tkk) tb1 tb2 tb3 tb4 tb5), (xI tb1 cI 6 tg1), (xI tb2 cI 6 tg2), (xI tb3 cI 6 tg3), (xI tb4 cI 6 tg4), (xI tb5 cI 6 tg5), (xo_6_ririii h bs (nI z) td fpn_18 fn_18 kn_18), (xI bs cI 120 fb)] H := hP
        have hD := dto hP hD
        refine lv_istore_n (lv' := [(1, .int r_18), (0, .ref h)]) hx hb dX6_readWind_49 rfl hl (by decide) rfl (fun ls hl => ?_)
        refine lv_aload_n hx hb dX6_readWind_50 rfl (lv_at hl 1 rfl) ?_
        refine lv_bipush (v := 59) hx hb dX6_readWind_51 (by decide) ?_
        have hc_19 := cutW (wc := [(xo_6_ririii h bs (nI z) td fpn_18 fn_18 kn_18), (xI bs cI 120 fb)]) hP hD hS hA [6, 7] (by decide +kernel) rfl
        refine va_callv (va_runV (As := [.int 59]) (rest := []) ⟨hx, hb, hml, hown, hts⟩ (r_X6_readByte l dC dI cI cZ cL cJ H.size h bs td z fpn_18 fn_18 kn_18 fb 59 (hz)) (cwV 1 hts gX6_readWind_X6_readByte rfl rfl rfl (by decide +kernel) ⟨Nat.le_of_ble_eq_true rfl, Nat.le_of_ble_eq_true rfl⟩) (pvW 6 6 hK hP rfl rfl hc_19) rfl rfl hl.1 rfl (lv_room (Nat.le_of_ble_eq_true rfl)) dX6_readWind_53 ⟨Nat.le_of_ble_eq_true rfl, Nat.le_of_ble_eq_true rfl⟩) hS (fun q _ h => hc_19.2.2 q h) hc_19.2.2 (fun u_19 t_19 H1 locs ht hvm h_19 hB hz1 hk1 hS => ?_)
        refine xl_3_4 hB (fun fpn_19 fn_19 kn_19 hP1 hD1 hF_19_0 hF_19_1 => ?_)
        clear hB
        rw [ht] at hP1
        obtain ⟨hP, hD⟩ := va_join (wr := [(xo_3_iiiiiiiirrrrr td tv0 tv1 tv2 tv3 (nI thh) tv5 (nI tww) (nI tkk) tb1 tb2 tb3 tb4 tb5), (xI tb1 cI 6 tg1), (xI tb2 cI 6 tg2), (xI tb3 cI 6 tg3), (xI tb4 cI 6 tg4), (xI tb5 cI 6 tg5)]) (w1 := [(xo_6_ririii h bs (nI z) td fpn_19 fn_19 kn_19), (xI bs cI 120 fb)]) hP hD [6, 7] [0, 1, 2, 3, 4, 5] rfl rfl (by decide +kernel) (by decide +kernel) hk1 hc_19.2.2 hP1 hD1
        generalize H1 = H at hP hS ⊢
        have hP : va_P (dC, dI) vwCl [(xo_3_iiiiiiiirrrrr td tv0 tv1 tv2 tv3 (nI thh) tv5 (nI tww) (nI tkk) tb1 tb2 tb3 tb4 tb5), (xI tb1 cI 6 tg1), (xI tb2 cI 6 tg2), (xI tb3 cI 6 tg3), (xI tb4 cI 6 tg4), (xI tb5 cI 6 tg5), (xo_6_ririii h bs (nI z) td fpn_19 fn_19 kn_19), (xI bs cI 120 fb)] H := hP
        have hD := dto hP hD
        refine lv_aload_n hx hb dX6_readWind_56 rfl (lv_at hl 1 rfl) ?_
        refine va_get (D := (dC, dI)) (ci := 6) (v := .int fn_19) (C := RX6) (T := TX6) (N := 6) hx hb hts i_X6_readWind_X6 hown hK hP 6 rfl rfl 4 (by decide) (hts _ mx_X6_readWind_1) (fun _ h9 => h9) rfl dX6_readWind_57 ?_
        refine lv_if_ne (tgt := 92) hx hb dX6_readWind_60 (by decide) (fun c_20 => ?_) (fun c_20 => ?_)
        · skip
          have hX9 := cut2 (wc := [(xo_6_ririii h bs (nI z) td fpn_19 fn_19 kn_19), (xI bs cI 120 fb), (xo_3_iiiiiiiirrrrr td tv0 tv1 tv2 tv3 (nI thh) tv5 (nI tww) (nI tkk) tb1 tb2 tb3 tb4 tb5), (xI tb1 cI 6 tg1), (xI tb2 cI 6 tg2), (xI tb3 cI 6 tg3), (xI tb4 cI 6 tg4), (xI tb5 cI 6 tg5)]) hP hD [6, 7, 0, 1, 2, 3, 4, 5] (by decide +kernel) rfl
          exact W.vret hx hb hr (fun t ht hW => ⟨⟨(), rfl, trivial, ⟨fpn_19, fn_19, kn_19, tww, tg1, va_Ht ht hX9.1, hX9.2, (lf_X6_readWind_11 hz htww htkk c_1 h_8 c_9 c_16 hF_17_0 hF_17_1 hF_18_0 hF_18_1 h_18 hF_19_0 hF_19_1 c_20), (lf_X6_readWind_12 hz htww htkk c_1 h_8 c_9 c_16 hF_17_0 hF_17_1 hF_18_0 hF_18_1 h_18 hF_19_0 hF_19_1 c_20)⟩⟩, hS.F ht⟩) hS.2.2 dX6_readWind_92
        · skip
          have hw6 : tww < 6 := (lf_X6_readWind_13 hz htww htkk c_1 h_8 c_9 c_16 hF_17_0 hF_17_1 hF_18_0 hF_18_1 h_18 hF_19_0 hF_19_1 c_20)
          refine lv_aload_n hx hb dX6_readWind_63 rfl (lv_at hl 1 rfl) ?_
          refine va_get (D := (dC, dI)) (ci := 6) (v := .ref td) (C := RX6) (T := TX6) (N := 6) hx hb hts i_X6_readWind_X6 hown hK hP 6 rfl rfl 2 (by decide) (hts _ mx_X6_readWind_3) (fun _ h9 => h9) rfl dX6_readWind_64 ?_
          refine va_get (D := (dC, dI)) (ci := 3) (v := .ref tb1) (C := RX3) (T := TX3) (N := 13) hx hb hts i_X6_readWind_X3 hown hK hP 0 rfl rfl 8 (by decide) (hts _ mx_X6_readWind_5) (fun _ h9 => h9) rfl dX6_readWind_67 ?_
          refine lv_aload_n hx hb dX6_readWind_70 rfl (lv_at hl 1 rfl) ?_
          refine va_get (D := (dC, dI)) (ci := 6) (v := .ref td) (C := RX6) (T := TX6) (N := 6) hx hb hts i_X6_readWind_X6 hown hK hP 6 rfl rfl 2 (by decide) (hts _ mx_X6_readWind_3) (fun _ h9 => h9) rfl dX6_readWind_71 ?_
          refine va_get (D := (dC, dI)) (ci := 3) (v := .int (nI tww)) (C := RX3) (T := TX3) (N := 13) hx hb hts i_X6_readWind_X3 hown hK hP 0 rfl rfl 6 (by decide) (hts _ mx_X6_readWind_4) (fun _ h9 => h9) rfl dX6_readWind_74 ?_
          refine lv_iload_n hx hb dX6_readWind_77 rfl (lv_at hl 0 rfl) ?_
          refine va_iast hx hb hK hP hD hS 1 0 rfl rfl (vp_in_nI (by omega) (by omega)) dX6_readWind_78 (fun H locs hP hD hS => ?_)
          generalize hg_21 : upd tg1 ((nI tww) : Int32).toNatClampNeg r_18 = g_21 at hP hD
          have hu_21 : g_21 = upd tg1 tww r_18 := (by rw [← hg_21, nI_clamp (by omega)])
          have hP : va_P (dC, dI) vwCl [(xo_3_iiiiiiiirrrrr td tv0 tv1 tv2 tv3 (nI thh) tv5 (nI tww) (nI tkk) tb1 tb2 tb3 tb4 tb5), (xI tb1 cI 6 g_21), (xI tb2 cI 6 tg2), (xI tb3 cI 6 tg3), (xI tb4 cI 6 tg4), (xI tb5 cI 6 tg5), (xo_6_ririii h bs (nI z) td fpn_19 fn_19 kn_19), (xI bs cI 120 fb)] H := hP
          have hD := dto hP hD
          refine lv_aload_n hx hb dX6_readWind_79 rfl (lv_at hl 1 rfl) ?_
          refine va_get (D := (dC, dI)) (ci := 6) (v := .ref td) (C := RX6) (T := TX6) (N := 6) hx hb hts i_X6_readWind_X6 hown hK hP 6 rfl rfl 2 (by decide) (hts _ mx_X6_readWind_3) (fun _ h9 => h9) rfl dX6_readWind_80 ?_
          refine lv_dup hx hb dX6_readWind_83 rfl ?_
          refine va_get (D := (dC, dI)) (ci := 3) (v := .int (nI tww)) (C := RX3) (T := TX3) (N := 13) hx hb hts i_X6_readWind_X3 hown hK hP 0 rfl rfl 6 (by decide) (hts _ mx_X6_readWind_4) (fun _ h9 => h9) rfl dX6_readWind_84 ?_
          refine lv_iconst (v := 1) hx hb dX6_readWind_87 (by decide) ?_
          refine lv_iadd hx hb dX6_readWind_88 ?_
          refine lv_topi (fun v_22 e_22 => ?_)
          obtain rfl : v_22 = (nI (tww + 1)) := (e_22).trans (nI_add tww 1)
          refine va_put (D := (dC, dI)) (ci := 3) (v := .int (nI (tww + 1))) (ty := .int) (C := RX3) (T := TX3) (N := 13) hx hb hts i_X6_readWind_X3 tyX3 tyX3_ok nmX3 hown hK hP hD hS 0 rfl rfl 6 (by decide) (hts _ mx_X6_readWind_4) (fun _ h9 => h9) rfl (by decide +kernel) rfl rfl (Nat.le_of_ble_eq_true rfl) dX6_readWind_89 (fun H locs hP hD hS => ?_)
          have hP : va_P (dC, dI) vwCl [(xo_3_iiiiiiiirrrrr td tv0 tv1 tv2 tv3 (nI thh) tv5 (nI (tww + 1)) (nI tkk) tb1 tb2 tb3 tb4 tb5), (xI tb1 cI 6 g_21), (xI tb2 cI 6 tg2), (xI tb3 cI 6 tg3), (xI tb4 cI 6 tg4), (xI tb5 cI 6 tg5), (xo_6_ririii h bs (nI z) td fpn_19 fn_19 kn_19), (xI bs cI 120 fb)] H := hP
          have hD := dto hP hD
          have hX9 := cut2 (wc := [(xo_6_ririii h bs (nI z) td fpn_19 fn_19 kn_19), (xI bs cI 120 fb), (xo_3_iiiiiiiirrrrr td tv0 tv1 tv2 tv3 (nI thh) tv5 (nI (tww + 1)) (nI tkk) tb1 tb2 tb3 tb4 tb5), (xI tb1 cI 6 g_21), (xI tb2 cI 6 tg2), (xI tb3 cI 6 tg3), (xI tb4 cI 6 tg4), (xI tb5 cI 6 tg5)]) hP hD [6, 7, 0, 1, 2, 3, 4, 5] (by decide +kernel) rfl
          exact W.vret hx hb hr (fun t ht hW => ⟨⟨(), rfl, trivial, ⟨fpn_19, fn_19, kn_19, (tww + 1), g_21, va_Ht ht hX9.1, hX9.2, (lf_X6_readWind_14 hz htww htkk c_1 h_8 c_9 c_16 hF_17_0 hF_17_1 hF_18_0 hF_18_1 h_18 hF_19_0 hF_19_1 c_20 hw6 hu_21), (lf_X6_readWind_15 hz htww htkk c_1 h_8 c_9 c_16 hF_17_0 hF_17_1 hF_18_0 hF_18_1 h_18 hF_19_0 hF_19_1 c_20 hw6 hu_21)⟩⟩, hS.F ht⟩) hS.2.2 dX6_readWind_92
      · have c_16 : ¬ (tww < 6) := fun q_ => c_16 ((nI_ltI (a := tww) (b := 6) (by omega) (by omega)).mpr q_)
        refine lv_aload_n hx hb dX6_readWind_32 rfl (lv_at hl 0 rfl) ?_
        refine lv_iconst (v := 3) hx hb dX6_readWind_33 (by decide) ?_
        have hc_23 := cutW (wc := [(xo_6_ririii h bs (nI z) td fp f k)]) hP hD hS hA [0] (by decide +kernel) rfl
        refine va_callv (va_runV (As := [.int 3]) (rest := []) ⟨hx, hb, hml, hown, hts⟩ (r_X6_fail l dC dI cI cZ cL cJ s.heap.size h bs td z fp f k 3 ) (cwV 1 hts gX6_readWind_X6_fail rfl rfl rfl (by decide +kernel) ⟨Nat.le_of_ble_eq_true rfl, Nat.le_of_ble_eq_true rfl⟩) (pvW 6 0 hK hP rfl rfl hc_23) rfl rfl hl.1 rfl (lv_room (Nat.le_of_ble_eq_true rfl)) dX6_readWind_34 ⟨Nat.le_of_ble_eq_true rfl, Nat.le_of_ble_eq_true rfl⟩) hS (fun q _ h => hc_23.2.2 q h) hc_23.2.2 (fun u_23 t_23 H1 locs ht hvm h_23 hB hz1 hk1 hS => ?_)
        refine xl_2_5 hB (fun fpn_23 fn_23 hP1 hD1 hF_23_0 hF_23_1 hF_23_2 => ?_)
        clear hB
        rw [ht] at hP1
        obtain ⟨hP, hD⟩ := va_join (wr := [(xI bs cI 120 fb), (xo_3_iiiiiiiirrrrr td tv0 tv1 tv2 tv3 (nI thh) tv5 (nI tww) (nI tkk) tb1 tb2 tb3 tb4 tb5), (xI tb1 cI 6 tg1), (xI tb2 cI 6 tg2), (xI tb3 cI 6 tg3), (xI tb4 cI 6 tg4), (xI tb5 cI 6 tg5)]) (w1 := [(xo_6_ririii h bs (nI z) td fpn_23 fn_23 k)]) hP hD [0] [1, 2, 3, 4, 5, 6, 7] rfl rfl (by decide +kernel) (by decide +kernel) hk1 hc_23.2.2 hP1 hD1
        generalize H1 = H at hP hS ⊢
        have hP : va_P (dC, dI) vwCl [(xI bs cI 120 fb), (xo_3_iiiiiiiirrrrr td tv0 tv1 tv2 tv3 (nI thh) tv5 (nI tww) (nI tkk) tb1 tb2 tb3 tb4 tb5), (xI tb1 cI 6 tg1), (xI tb2 cI 6 tg2), (xI tb3 cI 6 tg3), (xI tb4 cI 6 tg4), (xI tb5 cI 6 tg5), (xo_6_ririii h bs (nI z) td fpn_23 fn_23 k)] H := hP
        have hD := dto hP hD
        refine lv_aload_n hx hb dX6_readWind_37 rfl (lv_at hl 0 rfl) ?_
        refine lv_bipush (v := 119) hx hb dX6_readWind_38 (by decide) ?_
        have hc_24 := cutW (wc := [(xo_6_ririii h bs (nI z) td fpn_23 fn_23 k), (xI bs cI 120 fb)]) hP hD hS hA [7, 0] (by decide +kernel) rfl
        refine va_callv (va_runV (As := [.int 119]) (rest := []) ⟨hx, hb, hml, hown, hts⟩ (r_X6_readByte l dC dI cI cZ cL cJ H.size h bs td z fpn_23 fn_23 k fb 119 (hz)) (cwV 1 hts gX6_readWind_X6_readByte rfl rfl rfl (by decide +kernel) ⟨Nat.le_of_ble_eq_true rfl, Nat.le_of_ble_eq_true rfl⟩) (pvW 6 7 hK hP rfl rfl hc_24) rfl rfl hl.1 rfl (lv_room (Nat.le_of_ble_eq_true rfl)) dX6_readWind_40 ⟨Nat.le_of_ble_eq_true rfl, Nat.le_of_ble_eq_true rfl⟩) hS (fun q _ h => hc_24.2.2 q h) hc_24.2.2 (fun u_24 t_24 H1 locs ht hvm h_24 hB hz1 hk1 hS => ?_)
        refine xl_3_4 hB (fun fpn_24 fn_24 kn_24 hP1 hD1 hF_24_0 hF_24_1 => ?_)
        clear hB
        rw [ht] at hP1
        obtain ⟨hP, hD⟩ := va_join (wr := [(xo_3_iiiiiiiirrrrr td tv0 tv1 tv2 tv3 (nI thh) tv5 (nI tww) (nI tkk) tb1 tb2 tb3 tb4 tb5), (xI tb1 cI 6 tg1), (xI tb2 cI 6 tg2), (xI tb3 cI 6 tg3), (xI tb4 cI 6 tg4), (xI tb5 cI 6 tg5)]) (w1 := [(xo_6_ririii h bs (nI z) td fpn_24 fn_24 kn_24), (xI bs cI 120 fb)]) hP hD [7, 0] [1, 2, 3, 4, 5, 6] rfl rfl (by decide +kernel) (by decide +kernel) hk1 hc_24.2.2 hP1 hD1
        generalize H1 = H at hP hS ⊢
        have hP : va_P (dC, dI) vwCl [(xo_3_iiiiiiiirrrrr td tv0 tv1 tv2 tv3 (nI thh) tv5 (nI tww) (nI tkk) tb1 tb2 tb3 tb4 tb5), (xI tb1 cI 6 tg1), (xI tb2 cI 6 tg2), (xI tb3 cI 6 tg3), (xI tb4 cI 6 tg4), (xI tb5 cI 6 tg5), (xo_6_ririii h bs (nI z) td fpn_24 fn_24 kn_24), (xI bs cI 120 fb)] H := hP
        have hD := dto hP hD
        refine lv_aload_n hx hb dX6_readWind_43 rfl (lv_at hl 0 rfl) ?_
        refine lv_iconst (v := 0) hx hb dX6_readWind_44 (by decide) ?_
        refine lv_iconst (v := 4) hx hb dX6_readWind_45 (by decide) ?_
        have hc_25 := cutW (wc := [(xo_6_ririii h bs (nI z) td fpn_24 fn_24 kn_24), (xI bs cI 120 fb)]) hP hD hS hA [6, 7] (by decide +kernel) rfl
        refine va_calli (va_runV (As := [.int 0, .int 4]) (rest := []) ⟨hx, hb, hml, hown, hts⟩ (r_X6_readNumber l dC dI cI cZ cL cJ H.size h bs td z fpn_24 fn_24 kn_24 fb 0 4 (hz)) (cwV 2 hts gX6_readWind_X6_readNumber rfl rfl rfl (by decide +kernel) ⟨Nat.le_of_ble_eq_true rfl, Nat.le_of_ble_eq_true rfl⟩) (pvW 6 6 hK hP rfl rfl hc_25) rfl rfl hl.1 rfl (lv_room (Nat.le_of_ble_eq_true rfl)) dX6_readWind_46 ⟨Nat.le_of_ble_eq_true rfl, Nat.le_of_ble_eq_true rfl⟩) hS (fun q _ h => hc_25.2.2 q h) hc_25.2.2 (fun r_25 u_25 t_25 H1 locs ht hvm h_25 hB hz1 hk1 hS => ?_)
        refine xl_3_4 hB (fun fpn_25 fn_25 kn_25 hP1 hD1 hF_25_0 hF_25_1 => ?_)
        clear hB
        rw [ht] at hP1
        obtain ⟨hP, hD⟩ := va_join (wr := [(xo_3_iiiiiiiirrrrr td tv0 tv1 tv2 tv3 (nI thh) tv5 (nI tww) (nI tkk) tb1 tb2 tb3 tb4 tb5), (xI tb1 cI 6 tg1), (xI tb2 cI 6 tg2), (xI tb3 cI 6 tg3), (xI tb4 cI 6 tg4), (xI tb5 cI 6 tg5)]) (w1 := [(xo_6_ririii h bs (nI z) td fpn_25 fn_25 kn_25), (xI bs cI 120 fb)]) hP hD [6, 7] [0, 1, 2, 3, 4, 5] rfl rfl (by decide +kernel) (by decide +kernel) hk1 hc_25.2.2 hP1 hD1
        generalize H1 = H at hP hS ⊢
        have hP : va_P (dC, dI) vwCl [(xo_3_iiiiiiiirrrrr td tv0 tv1 tv2 tv3 (nI thh) tv5 (nI tww) (nI tkk) tb1 tb2 tb3 tb4 tb5), (xI tb1 cI 6 tg1), (xI tb2 cI 6 tg2), (xI tb3 cI 6 tg3), (xI tb4 cI 6 tg4), (xI tb5 cI 6 tg5), (xo_6_ririii h bs (nI z) td fpn_25 fn_25 kn_25), (xI bs cI 120 fb)] H := hP
        have hD := dto hP hD
        refine lv_istore_n (lv' := [(1, .int r_25), (0, .ref h)]) hx hb dX6_readWind_49 rfl hl (by decide) rfl (fun ls hl => ?_)
        refine lv_aload_n hx hb dX6_readWind_50 rfl (lv_at hl 1 rfl) ?_
        refine lv_bipush (v := 59) hx hb dX6_readWind_51 (by decide) ?_
        have hc_26 := cutW (wc := [(xo_6_ririii h bs (nI z) td fpn_25 fn_25 kn_25), (xI bs cI 120 fb)]) hP hD hS hA [6, 7] (by decide +kernel) rfl
        refine va_callv (va_runV (As := [.int 59]) (rest := []) ⟨hx, hb, hml, hown, hts⟩ (r_X6_readByte l dC dI cI cZ cL cJ H.size h bs td z fpn_25 fn_25 kn_25 fb 59 (hz)) (cwV 1 hts gX6_readWind_X6_readByte rfl rfl rfl (by decide +kernel) ⟨Nat.le_of_ble_eq_true rfl, Nat.le_of_ble_eq_true rfl⟩) (pvW 6 6 hK hP rfl rfl hc_26) rfl rfl hl.1 rfl (lv_room (Nat.le_of_ble_eq_true rfl)) dX6_readWind_53 ⟨Nat.le_of_ble_eq_true rfl, Nat.le_of_ble_eq_true rfl⟩) hS (fun q _ h => hc_26.2.2 q h) hc_26.2.2 (fun u_26 t_26 H1 locs ht hvm h_26 hB hz1 hk1 hS => ?_)
        refine xl_3_4 hB (fun fpn_26 fn_26 kn_26 hP1 hD1 hF_26_0 hF_26_1 => ?_)
        clear hB
        rw [ht] at hP1
        obtain ⟨hP, hD⟩ := va_join (wr := [(xo_3_iiiiiiiirrrrr td tv0 tv1 tv2 tv3 (nI thh) tv5 (nI tww) (nI tkk) tb1 tb2 tb3 tb4 tb5), (xI tb1 cI 6 tg1), (xI tb2 cI 6 tg2), (xI tb3 cI 6 tg3), (xI tb4 cI 6 tg4), (xI tb5 cI 6 tg5)]) (w1 := [(xo_6_ririii h bs (nI z) td fpn_26 fn_26 kn_26), (xI bs cI 120 fb)]) hP hD [6, 7] [0, 1, 2, 3, 4, 5] rfl rfl (by decide +kernel) (by decide +kernel) hk1 hc_26.2.2 hP1 hD1
        generalize H1 = H at hP hS ⊢
        have hP : va_P (dC, dI) vwCl [(xo_3_iiiiiiiirrrrr td tv0 tv1 tv2 tv3 (nI thh) tv5 (nI tww) (nI tkk) tb1 tb2 tb3 tb4 tb5), (xI tb1 cI 6 tg1), (xI tb2 cI 6 tg2), (xI tb3 cI 6 tg3), (xI tb4 cI 6 tg4), (xI tb5 cI 6 tg5), (xo_6_ririii h bs (nI z) td fpn_26 fn_26 kn_26), (xI bs cI 120 fb)] H := hP
        have hD := dto hP hD
        refine lv_aload_n hx hb dX6_readWind_56 rfl (lv_at hl 1 rfl) ?_
        refine va_get (D := (dC, dI)) (ci := 6) (v := .int fn_26) (C := RX6) (T := TX6) (N := 6) hx hb hts i_X6_readWind_X6 hown hK hP 6 rfl rfl 4 (by decide) (hts _ mx_X6_readWind_1) (fun _ h9 => h9) rfl dX6_readWind_57 ?_
        refine lv_if_ne (tgt := 92) hx hb dX6_readWind_60 (by decide) (fun c_27 => ?_) (fun c_27 => ?_)
        · skip
          have hX9 := cut2 (wc := [(xo_6_ririii h bs (nI z) td fpn_26 fn_26 kn_26), (xI bs cI 120 fb), (xo_3_iiiiiiiirrrrr td tv0 tv1 tv2 tv3 (nI thh) tv5 (nI tww) (nI tkk) tb1 tb2 tb3 tb4 tb5), (xI tb1 cI 6 tg1), (xI tb2 cI 6 tg2), (xI tb3 cI 6 tg3), (xI tb4 cI 6 tg4), (xI tb5 cI 6 tg5)]) hP hD [6, 7, 0, 1, 2, 3, 4, 5] (by decide +kernel) rfl
          exact W.vret hx hb hr (fun t ht hW => ⟨⟨(), rfl, trivial, ⟨fpn_26, fn_26, kn_26, tww, tg1, va_Ht ht hX9.1, hX9.2, (lf_X6_readWind_16 hz htww htkk c_1 h_8 c_9 c_16 hF_23_0 hF_23_1 hF_23_2 hF_24_0 hF_24_1 hF_25_0 hF_25_1 h_25 hF_26_0 hF_26_1 c_27), (lf_X6_readWind_17 hz htww htkk c_1 h_8 c_9 c_16 hF_23_0 hF_23_1 hF_23_2 hF_24_0 hF_24_1 hF_25_0 hF_25_1 h_25 hF_26_0 hF_26_1 c_27)⟩⟩, hS.F ht⟩) hS.2.2 dX6_readWind_92
        · skip
          have hw6 : tww < 6 := (lf_X6_readWind_18 hz htww htkk c_1 h_8 c_9 c_16 hF_23_0 hF_23_1 hF_23_2 hF_24_0 hF_24_1 hF_25_0 hF_25_1 h_25 hF_26_0 hF_26_1 c_27)
          refine lv_aload_n hx hb dX6_readWind_63 rfl (lv_at hl 1 rfl) ?_
          refine va_get (D := (dC, dI)) (ci := 6) (v := .ref td) (C := RX6) (T := TX6) (N := 6) hx hb hts i_X6_readWind_X6 hown hK hP 6 rfl rfl 2 (by decide) (hts _ mx_X6_readWind_3) (fun _ h9 => h9) rfl dX6_readWind_64 ?_
          refine va_get (D := (dC, dI)) (ci := 3) (v := .ref tb1) (C := RX3) (T := TX3) (N := 13) hx hb hts i_X6_readWind_X3 hown hK hP 0 rfl rfl 8 (by decide) (hts _ mx_X6_readWind_5) (fun _ h9 => h9) rfl dX6_readWind_67 ?_
          refine lv_aload_n hx hb dX6_readWind_70 rfl (lv_at hl 1 rfl) ?_
          refine va_get (D := (dC, dI)) (ci := 6) (v := .ref td) (C := RX6) (T := TX6) (N := 6) hx hb hts i_X6_readWind_X6 hown hK hP 6 rfl rfl 2 (by decide) (hts _ mx_X6_readWind_3) (fun _ h9 => h9) rfl dX6_readWind_71 ?_
          refine va_get (D := (dC, dI)) (ci := 3) (v := .int (nI tww)) (C := RX3) (T := TX3) (N := 13) hx hb hts i_X6_readWind_X3 hown hK hP 0 rfl rfl 6 (by decide) (hts _ mx_X6_readWind_4) (fun _ h9 => h9) rfl dX6_readWind_74 ?_
          refine lv_iload_n hx hb dX6_readWind_77 rfl (lv_at hl 0 rfl) ?_
          refine va_iast hx hb hK hP hD hS 1 0 rfl rfl (vp_in_nI (by omega) (by omega)) dX6_readWind_78 (fun H locs hP hD hS => ?_)
          generalize hg_28 : upd tg1 ((nI tww) : Int32).toNatClampNeg r_25 = g_28 at hP hD
          have hu_28 : g_28 = upd tg1 tww r_25 := (by rw [← hg_28, nI_clamp (by omega)])
          have hP : va_P (dC, dI) vwCl [(xo_3_iiiiiiiirrrrr td tv0 tv1 tv2 tv3 (nI thh) tv5 (nI tww) (nI tkk) tb1 tb2 tb3 tb4 tb5), (xI tb1 cI 6 g_28), (xI tb2 cI 6 tg2), (xI tb3 cI 6 tg3), (xI tb4 cI 6 tg4), (xI tb5 cI 6 tg5), (xo_6_ririii h bs (nI z) td fpn_26 fn_26 kn_26), (xI bs cI 120 fb)] H := hP
          have hD := dto hP hD
          refine lv_aload_n hx hb dX6_readWind_79 rfl (lv_at hl 1 rfl) ?_
          refine va_get (D := (dC, dI)) (ci := 6) (v := .ref td) (C := RX6) (T := TX6) (N := 6) hx hb hts i_X6_readWind_X6 hown hK hP 6 rfl rfl 2 (by decide) (hts _ mx_X6_readWind_3) (fun _ h9 => h9) rfl dX6_readWind_80 ?_
          refine lv_dup hx hb dX6_readWind_83 rfl ?_
          refine va_get (D := (dC, dI)) (ci := 3) (v := .int (nI tww)) (C := RX3) (T := TX3) (N := 13) hx hb hts i_X6_readWind_X3 hown hK hP 0 rfl rfl 6 (by decide) (hts _ mx_X6_readWind_4) (fun _ h9 => h9) rfl dX6_readWind_84 ?_
          refine lv_iconst (v := 1) hx hb dX6_readWind_87 (by decide) ?_
          refine lv_iadd hx hb dX6_readWind_88 ?_
          refine lv_topi (fun v_29 e_29 => ?_)
          obtain rfl : v_29 = (nI (tww + 1)) := (e_29).trans (nI_add tww 1)
          refine va_put (D := (dC, dI)) (ci := 3) (v := .int (nI (tww + 1))) (ty := .int) (C := RX3) (T := TX3) (N := 13) hx hb hts i_X6_readWind_X3 tyX3 tyX3_ok nmX3 hown hK hP hD hS 0 rfl rfl 6 (by decide) (hts _ mx_X6_readWind_4) (fun _ h9 => h9) rfl (by decide +kernel) rfl rfl (Nat.le_of_ble_eq_true rfl) dX6_readWind_89 (fun H locs hP hD hS => ?_)
          have hP : va_P (dC, dI) vwCl [(xo_3_iiiiiiiirrrrr td tv0 tv1 tv2 tv3 (nI thh) tv5 (nI (tww + 1)) (nI tkk) tb1 tb2 tb3 tb4 tb5), (xI tb1 cI 6 g_28), (xI tb2 cI 6 tg2), (xI tb3 cI 6 tg3), (xI tb4 cI 6 tg4), (xI tb5 cI 6 tg5), (xo_6_ririii h bs (nI z) td fpn_26 fn_26 kn_26), (xI bs cI 120 fb)] H := hP
          have hD := dto hP hD
          have hX9 := cut2 (wc := [(xo_6_ririii h bs (nI z) td fpn_26 fn_26 kn_26), (xI bs cI 120 fb), (xo_3_iiiiiiiirrrrr td tv0 tv1 tv2 tv3 (nI thh) tv5 (nI (tww + 1)) (nI tkk) tb1 tb2 tb3 tb4 tb5), (xI tb1 cI 6 g_28), (xI tb2 cI 6 tg2), (xI tb3 cI 6 tg3), (xI tb4 cI 6 tg4), (xI tb5 cI 6 tg5)]) hP hD [6, 7, 0, 1, 2, 3, 4, 5] (by decide +kernel) rfl
          exact W.vret hx hb hr (fun t ht hW => ⟨⟨(), rfl, trivial, ⟨fpn_26, fn_26, kn_26, (tww + 1), g_28, va_Ht ht hX9.1, hX9.2, (lf_X6_readWind_19 hz htww htkk c_1 h_8 c_9 c_16 hF_23_0 hF_23_1 hF_23_2 hF_24_0 hF_24_1 hF_25_0 hF_25_1 h_25 hF_26_0 hF_26_1 c_27 hw6 hu_28), (lf_X6_readWind_20 hz htww htkk c_1 h_8 c_9 c_16 hF_23_0 hF_23_1 hF_23_2 hF_24_0 hF_24_1 hF_25_0 hF_25_1 h_25 hF_26_0 hF_26_1 c_27 hw6 hu_28)⟩⟩, hS.F ht⟩) hS.2.2 dX6_readWind_92
theorem lf_X6_readWinds_1 {z : Nat} {fp : Int32} {f : Int32} {k : Int32} {fb : Nat → Int32} {tww : Nat} {tkk : Nat} {tg1 : Nat → Int32} {fpn_1 : Int32} {fn_1 : Int32} {kn_1 : Int32} {tn_1 : Nat} {tg1n_1 : Nat → Int32} {w_7 : Int32} {w_8 : Int32} {w_9 : Int32} {w_10 : Nat} {w_11 : Nat → Int32} {ii : Nat} (hz : z ≤ 120) (htww : tww ≤ 6) (htkk : tkk ≤ 6) (hF_1_0 : tn_1 ≤ 6) (hF_1_1 : xW fb z ((fp, f, k), tww, tg1) = ((fpn_1, fn_1, kn_1), tn_1, tg1n_1)) (hii : ii < 6) (haf_0 : (xWs fb z (6 - ii) ((w_7, w_8, w_9), w_10, w_11) = xWs fb z 6 ((fpn_1, fn_1, kn_1), tn_1, tg1n_1))) (hnb_w_10 : w_10 ≤ 6) (c_23 : ¬ (w_8 = 0)) : w_10 ≤ 6 := by
  first
  | omega
  | (rw [xWs_stop (s := ((w_7, w_8, w_9), w_10, w_11)) (by grind)] at haf_0; grind)
  | (have h7 : xWs fb z (6 - 6) ((w_7, w_8, w_9), w_10, w_11) = ((w_7, w_8, w_9), w_10, w_11) := rfl
     rw [h7] at haf_0
     grind)
theorem lf_X6_readWinds_2 {z : Nat} {fp : Int32} {f : Int32} {k : Int32} {fb : Nat → Int32} {tww : Nat} {tkk : Nat} {tg1 : Nat → Int32} {fpn_1 : Int32} {fn_1 : Int32} {kn_1 : Int32} {tn_1 : Nat} {tg1n_1 : Nat → Int32} {w_7 : Int32} {w_8 : Int32} {w_9 : Int32} {w_10 : Nat} {w_11 : Nat → Int32} {ii : Nat} (hz : z ≤ 120) (htww : tww ≤ 6) (htkk : tkk ≤ 6) (hF_1_0 : tn_1 ≤ 6) (hF_1_1 : xW fb z ((fp, f, k), tww, tg1) = ((fpn_1, fn_1, kn_1), tn_1, tg1n_1)) (hii : ii < 6) (haf_0 : (xWs fb z (6 - ii) ((w_7, w_8, w_9), w_10, w_11) = xWs fb z 6 ((fpn_1, fn_1, kn_1), tn_1, tg1n_1))) (hnb_w_10 : w_10 ≤ 6) (c_23 : ¬ (w_8 = 0)) : xWs fb z 6 (xW fb z ((fp, f, k), tww, tg1)) = ((w_7, w_8, w_9), w_10, w_11) := by
  first
  | omega
  | (rw [xWs_stop (s := ((w_7, w_8, w_9), w_10, w_11)) (by grind)] at haf_0; grind)
  | (have h7 : xWs fb z (6 - 6) ((w_7, w_8, w_9), w_10, w_11) = ((w_7, w_8, w_9), w_10, w_11) := rfl
     rw [h7] at haf_0
     grind)
theorem lf_X6_readWinds_3 {z : Nat} {fp : Int32} {f : Int32} {k : Int32} {fb : Nat → Int32} {tww : Nat} {tkk : Nat} {tg1 : Nat → Int32} {fpn_1 : Int32} {fn_1 : Int32} {kn_1 : Int32} {tn_1 : Nat} {tg1n_1 : Nat → Int32} {w_7 : Int32} {w_8 : Int32} {w_9 : Int32} {w_10 : Nat} {w_11 : Nat → Int32} {ii : Nat} {r_24 : Int32} (hz : z ≤ 120) (htww : tww ≤ 6) (htkk : tkk ≤ 6) (hF_1_0 : tn_1 ≤ 6) (hF_1_1 : xW fb z ((fp, f, k), tww, tg1) = ((fpn_1, fn_1, kn_1), tn_1, tg1n_1)) (hii : ii < 6) (haf_0 : (xWs fb z (6 - ii) ((w_7, w_8, w_9), w_10, w_11) = xWs fb z 6 ((fpn_1, fn_1, kn_1), tn_1, tg1n_1))) (hnb_w_10 : w_10 ≤ 6) (c_23 : w_8 = 0) (h_24 : r_24 = (bAt fb z w_9)) (c_25 : ¬ (r_24 = 119)) : w_10 ≤ 6 := by
  first
  | omega
  | (rw [xWs_stop (s := ((w_7, w_8, w_9), w_10, w_11)) (by grind)] at haf_0; grind)
  | (have h7 : xWs fb z (6 - 6) ((w_7, w_8, w_9), w_10, w_11) = ((w_7, w_8, w_9), w_10, w_11) := rfl
     rw [h7] at haf_0
     grind)
theorem lf_X6_readWinds_4 {z : Nat} {fp : Int32} {f : Int32} {k : Int32} {fb : Nat → Int32} {tww : Nat} {tkk : Nat} {tg1 : Nat → Int32} {fpn_1 : Int32} {fn_1 : Int32} {kn_1 : Int32} {tn_1 : Nat} {tg1n_1 : Nat → Int32} {w_7 : Int32} {w_8 : Int32} {w_9 : Int32} {w_10 : Nat} {w_11 : Nat → Int32} {ii : Nat} {r_24 : Int32} (hz : z ≤ 120) (htww : tww ≤ 6) (htkk : tkk ≤ 6) (hF_1_0 : tn_1 ≤ 6) (hF_1_1 : xW fb z ((fp, f, k), tww, tg1) = ((fpn_1, fn_1, kn_1), tn_1, tg1n_1)) (hii : ii < 6) (haf_0 : (xWs fb z (6 - ii) ((w_7, w_8, w_9), w_10, w_11) = xWs fb z 6 ((fpn_1, fn_1, kn_1), tn_1, tg1n_1))) (hnb_w_10 : w_10 ≤ 6) (c_23 : w_8 = 0) (h_24 : r_24 = (bAt fb z w_9)) (c_25 : ¬ (r_24 = 119)) : xWs fb z 6 (xW fb z ((fp, f, k), tww, tg1)) = ((w_7, w_8, w_9), w_10, w_11) := by
  first
  | omega
  | (rw [xWs_stop (s := ((w_7, w_8, w_9), w_10, w_11)) (by grind)] at haf_0; grind)
  | (have h7 : xWs fb z (6 - 6) ((w_7, w_8, w_9), w_10, w_11) = ((w_7, w_8, w_9), w_10, w_11) := rfl
     rw [h7] at haf_0
     grind)
theorem lf_X6_readWinds_5 {z : Nat} {fp : Int32} {f : Int32} {k : Int32} {fb : Nat → Int32} {tww : Nat} {tkk : Nat} {tg1 : Nat → Int32} {fpn_1 : Int32} {fn_1 : Int32} {kn_1 : Int32} {tn_1 : Nat} {tg1n_1 : Nat → Int32} {w_7 : Int32} {w_8 : Int32} {w_9 : Int32} {w_10 : Nat} {w_11 : Nat → Int32} {ii : Nat} {r_24 : Int32} {fpn_26 : Int32} {fn_26 : Int32} {kn_26 : Int32} {tn_26 : Nat} {tg1n_26 : Nat → Int32} (hz : z ≤ 120) (htww : tww ≤ 6) (htkk : tkk ≤ 6) (hF_1_0 : tn_1 ≤ 6) (hF_1_1 : xW fb z ((fp, f, k), tww, tg1) = ((fpn_1, fn_1, kn_1), tn_1, tg1n_1)) (hii : ii < 6) (haf_0 : (xWs fb z (6 - ii) ((w_7, w_8, w_9), w_10, w_11) = xWs fb z 6 ((fpn_1, fn_1, kn_1), tn_1, tg1n_1))) (hnb_w_10 : w_10 ≤ 6) (c_23 : w_8 = 0) (h_24 : r_24 = (bAt fb z w_9)) (c_25 : r_24 = 119) (hF_26_0 : tn_26 ≤ 6) (hF_26_1 : xW fb z ((w_7, w_8, w_9), w_10, w_11) = ((fpn_26, fn_26, kn_26), tn_26, tg1n_26)) : xWs fb z (6 - (ii + 1)) ((fpn_26, fn_26, kn_26), tn_26, tg1n_26) = xWs fb z 6 ((fpn_1, fn_1, kn_1), tn_1, tg1n_1) := by
  rw [xWs_go (s := ((w_7, w_8, w_9), w_10, w_11)) (by omega) (by grind)] at haf_0
  rw [show 6 - (ii + 1) = 6 - ii - 1 by omega, ← haf_0]
  exact congrArg _ (by grind)
theorem lf_X6_readWinds_6 {z : Nat} {fp : Int32} {f : Int32} {k : Int32} {fb : Nat → Int32} {tww : Nat} {tkk : Nat} {tg1 : Nat → Int32} {fpn_1 : Int32} {fn_1 : Int32} {kn_1 : Int32} {tn_1 : Nat} {tg1n_1 : Nat → Int32} {w_7 : Int32} {w_8 : Int32} {w_9 : Int32} {w_10 : Nat} {w_11 : Nat → Int32} (hz : z ≤ 120) (htww : tww ≤ 6) (htkk : tkk ≤ 6) (hF_1_0 : tn_1 ≤ 6) (hF_1_1 : xW fb z ((fp, f, k), tww, tg1) = ((fpn_1, fn_1, kn_1), tn_1, tg1n_1)) (haf_0 : (xWs fb z (6 - 6) ((w_7, w_8, w_9), w_10, w_11) = xWs fb z 6 ((fpn_1, fn_1, kn_1), tn_1, tg1n_1))) (hnb_w_10 : w_10 ≤ 6) : w_10 ≤ 6 := by
  first
  | omega
  | (rw [xWs_stop (s := ((w_7, w_8, w_9), w_10, w_11)) (by grind)] at haf_0; grind)
  | (have h7 : xWs fb z (6 - 6) ((w_7, w_8, w_9), w_10, w_11) = ((w_7, w_8, w_9), w_10, w_11) := rfl
     rw [h7] at haf_0
     grind)
theorem lf_X6_readWinds_7 {z : Nat} {fp : Int32} {f : Int32} {k : Int32} {fb : Nat → Int32} {tww : Nat} {tkk : Nat} {tg1 : Nat → Int32} {fpn_1 : Int32} {fn_1 : Int32} {kn_1 : Int32} {tn_1 : Nat} {tg1n_1 : Nat → Int32} {w_7 : Int32} {w_8 : Int32} {w_9 : Int32} {w_10 : Nat} {w_11 : Nat → Int32} (hz : z ≤ 120) (htww : tww ≤ 6) (htkk : tkk ≤ 6) (hF_1_0 : tn_1 ≤ 6) (hF_1_1 : xW fb z ((fp, f, k), tww, tg1) = ((fpn_1, fn_1, kn_1), tn_1, tg1n_1)) (haf_0 : (xWs fb z (6 - 6) ((w_7, w_8, w_9), w_10, w_11) = xWs fb z 6 ((fpn_1, fn_1, kn_1), tn_1, tg1n_1))) (hnb_w_10 : w_10 ≤ 6) : xWs fb z 6 (xW fb z ((fp, f, k), tww, tg1)) = ((w_7, w_8, w_9), w_10, w_11) := by
  first
  | omega
  | (rw [xWs_stop (s := ((w_7, w_8, w_9), w_10, w_11)) (by grind)] at haf_0; grind)
  | (have h7 : xWs fb z (6 - 6) ((w_7, w_8, w_9), w_10, w_11) = ((w_7, w_8, w_9), w_10, w_11) := rfl
     rw [h7] at haf_0
     grind)
set_option maxHeartbeats 4000000 in
set_option maxRecDepth 100000 in
theorem r_X6_readWinds (l : Launch) (dC : Nat → ClassId) (dI : Nat → Nat → Nat) (cI cZ cL cJ : ClassId) (sz : Nat) (h : Nat) (bs : Nat) (td : Nat) (z : Nat) (fp : Int32) (f : Int32) (k : Int32) (fb : Nat → Int32) (tv0 : Int32) (tv1 : Int32) (tv2 : Int32) (tv3 : Int32) (tv5 : Int32) (thh : Nat) (tww : Nat) (tkk : Nat) (tb1 : Nat) (tb2 : Nat) (tb3 : Nat) (tb4 : Nat) (tb5 : Nat) (tg1 : Nat → Int32) (tg2 : Nat → Int32) (tg3 : Nat → Int32) (tg4 : Nat → Int32) (tg5 : Nat → Int32) (hz : z ≤ 120) (htww : tww ≤ 6) (htkk : tkk ≤ 6) : Met l yX6_readWinds wsX6_readWinds ({ frames := 4, cells := 0, slots := 0, locals := 88 }) (va_Pc [.ref h] (fun U => U.heap.size = sz ∧ va_P (dC, dI) vwCl [(xo_6_ririii h bs (nI z) td fp f k), (xI bs cI 120 fb), (xo_3_iiiiiiiirrrrr td tv0 tv1 tv2 tv3 (nI thh) tv5 (nI tww) (nI tkk) tb1 tb2 tb3 tb4 tb5), (xI tb1 cI 6 tg1), (xI tb2 cI 6 tg2), (xI tb3 cI 6 tg3), (xI tb4 cI 6 tg4), (xI tb5 cI 6 tg5)] U.heap ∧ va_K (dC, dI) vwCl [(cI, .int), (cZ, .boolean), (cL, .object RX3), (cJ, .array .int)] U ∧ va_D (fun _ => True) [(xo_6_ririii h bs (nI z) td fp f k), (xI bs cI 120 fb), (xo_3_iiiiiiiirrrrr td tv0 tv1 tv2 tv3 (nI thh) tv5 (nI tww) (nI tkk) tb1 tb2 tb3 tb4 tb5), (xI tb1 cI 6 tg1), (xI tb2 cI 6 tg2), (xI tb3 cI 6 tg3), (xI tb4 cI 6 tg4), (xI tb5 cI 6 tg5)])) (va_Qv (fun (_ : Unit) => True) (fun (_ : Unit) t => ∃ (fpn : Int32) (fn : Int32) (kn : Int32) (tn : Nat) (tg1n : Nat → Int32), va_P (dC, dI) vwCl [(xo_6_ririii h bs (nI z) td fpn fn kn), (xI bs cI 120 fb), (xo_3_iiiiiiiirrrrr td tv0 tv1 tv2 tv3 (nI thh) tv5 (nI tn) (nI tkk) tb1 tb2 tb3 tb4 tb5), (xI tb1 cI 6 tg1n), (xI tb2 cI 6 tg2), (xI tb3 cI 6 tg3), (xI tb4 cI 6 tg4), (xI tb5 cI 6 tg5)] t.heap ∧ va_D (va_A [(xo_6_ririii h bs (nI z) td fp f k), (xI bs cI 120 fb), (xo_3_iiiiiiiirrrrr td tv0 tv1 tv2 tv3 (nI thh) tv5 (nI tww) (nI tkk) tb1 tb2 tb3 tb4 tb5), (xI tb1 cI 6 tg1), (xI tb2 cI 6 tg2), (xI tb3 cI 6 tg3), (xI tb4 cI 6 tg4), (xI tb5 cI 6 tg5)] sz) [(xo_6_ririii h bs (nI z) td fpn fn kn), (xI bs cI 120 fb), (xo_3_iiiiiiiirrrrr td tv0 tv1 tv2 tv3 (nI thh) tv5 (nI tn) (nI tkk) tb1 tb2 tb3 tb4 tb5), (xI tb1 cI 6 tg1n), (xI tb2 cI 6 tg2), (xI tb3 cI 6 tg3), (xI tb4 cI 6 tg4), (xI tb5 cI 6 tg5)] ∧ tn ≤ 6 ∧ xWs fb z 6 (xW fb z ((fp, f, k), tww, tg1)) = ((fpn, fn, kn), tn, tg1n)) (va_A [(xo_6_ririii h bs (nI z) td fp f k), (xI bs cI 120 fb), (xo_3_iiiiiiiirrrrr td tv0 tv1 tv2 tv3 (nI thh) tv5 (nI tww) (nI tkk) tb1 tb2 tb3 tb4 tb5), (xI tb1 cI 6 tg1), (xI tb2 cI 6 tg2), (xI tb3 cI 6 tg3), (xI tb4 cI 6 tg4), (xI tb5 cI 6 tg5)] sz)) 0 0 (va_A [(xo_6_ririii h bs (nI z) td fp f k), (xI bs cI 120 fb), (xo_3_iiiiiiiirrrrr td tv0 tv1 tv2 tv3 (nI thh) tv5 (nI tww) (nI tkk) tb1 tb2 tb3 tb4 tb5), (xI tb1 cI 6 tg1), (xI tb2 cI 6 tg2), (xI tb3 cI 6 tg3), (xI tb4 cI 6 tg4), (xI tb5 cI 6 tg5)] sz) := by
  refine Met.ofW (cc := cX6_readWinds) (maxL := 2) (ret := none) (by decide) rfl ?_
  intro p e s m args below meth c s₁ B hml hv
  obtain ⟨rfl, hsz, hP, hK, hD0⟩ := hv
  have hx := B.exec
  have hb := B.bytes
  have hr := B.returns
  have hts := atoms_spec (ws := wsX6_readWinds) B.pre
  have hown : s.vm.findClass RX6 = some m.cls := findClass_of_methodNamed B.named
  have hlocks := B.notSynchronized
  subst hsz
  have hD := hD0.self (sz := s.heap.size)
  generalize hAe : va_A [(xo_6_ririii h bs (nI z) td fp f k), (xI bs cI 120 fb), (xo_3_iiiiiiiirrrrr td tv0 tv1 tv2 tv3 (nI thh) tv5 (nI tww) (nI tkk) tb1 tb2 tb3 tb4 tb5), (xI tb1 cI 6 tg1), (xI tb2 cI 6 tg2), (xI tb3 cI 6 tg3), (xI tb4 cI 6 tg4), (xI tb5 cI 6 tg5)] s.heap.size = A at hD ⊢
  have hA : ∀ q : Nat, s.heap.size ≤ q → A q := fun q h => by rw [← hAe]; exact Or.inr h
  have hS : va_S A s.heap s.heap [] := va_S.rf
  have hP : va_P (dC, dI) vwCl [(xo_6_ririii h bs (nI z) td fp f k), (xI bs cI 120 fb), (xo_3_iiiiiiiirrrrr td tv0 tv1 tv2 tv3 (nI thh) tv5 (nI tww) (nI tkk) tb1 tb2 tb3 tb4 tb5), (xI tb1 cI 6 tg1), (xI tb2 cI 6 tg2), (xI tb3 cI 6 tg3), (xI tb4 cI 6 tg4), (xI tb5 cI 6 tg5)] s.heap := hP
  have hl := lv_entry ([.ref h]) (n := 2) (Nat.le_of_ble_eq_true rfl)
  rw [lg_entry_eq]
  generalize (lg_sl ([.ref h]) ++ List.replicate (2 - (lg_sl ([.ref h])).length) Slot.unset).toArray = ls at hl ⊢
  have hl : lv_has ls 2 [(0, .ref h)] := hl
  refine lv_aload_n hx hb dX6_readWinds_0 rfl (lv_at hl 0 rfl) ?_
  have hc_1 := cutW (wc := [(xo_6_ririii h bs (nI z) td fp f k), (xI bs cI 120 fb), (xo_3_iiiiiiiirrrrr td tv0 tv1 tv2 tv3 (nI thh) tv5 (nI tww) (nI tkk) tb1 tb2 tb3 tb4 tb5), (xI tb1 cI 6 tg1), (xI tb2 cI 6 tg2), (xI tb3 cI 6 tg3), (xI tb4 cI 6 tg4), (xI tb5 cI 6 tg5)]) hP hD hS hA [0, 1, 2, 3, 4, 5, 6, 7] (by decide +kernel) rfl
  refine va_callv (va_runV (As := []) (rest := []) ⟨hx, hb, hml, hown, hts⟩ (r_X6_readWind l dC dI cI cZ cL cJ s.heap.size h bs td z fp f k fb tv0 tv1 tv2 tv3 tv5 thh tww tkk tb1 tb2 tb3 tb4 tb5 tg1 tg2 tg3 tg4 tg5 (hz) (by omega) (htkk)) (cwV 0 hts gX6_readWinds_X6_readWind rfl rfl rfl (by decide +kernel) ⟨Nat.le_of_ble_eq_true rfl, Nat.le_of_ble_eq_true rfl⟩) (pvW 6 0 hK hP rfl rfl hc_1) rfl rfl hl.1 rfl (lv_room (Nat.le_of_ble_eq_true rfl)) dX6_readWinds_1 ⟨Nat.le_of_ble_eq_true rfl, Nat.le_of_ble_eq_true rfl⟩) hS (fun q _ h => hc_1.2.2 q h) hc_1.2.2 (fun u_1 t_1 H1 locs ht hvm h_1 hB hz1 hk1 hS => ?_)
  refine xl_5_4 hB (fun fpn_1 fn_1 kn_1 tn_1 tg1n_1 hP1 hD1 hF_1_0 hF_1_1 => ?_)
  clear hB
  rw [ht] at hP1
  obtain ⟨hP, hD⟩ := va_join (wr := []) (w1 := [(xo_6_ririii h bs (nI z) td fpn_1 fn_1 kn_1), (xI bs cI 120 fb), (xo_3_iiiiiiiirrrrr td tv0 tv1 tv2 tv3 (nI thh) tv5 (nI tn_1) (nI tkk) tb1 tb2 tb3 tb4 tb5), (xI tb1 cI 6 tg1n_1), (xI tb2 cI 6 tg2), (xI tb3 cI 6 tg3), (xI tb4 cI 6 tg4), (xI tb5 cI 6 tg5)]) hP hD [0, 1, 2, 3, 4, 5, 6, 7] [] rfl rfl (by decide +kernel) (by decide +kernel) hk1 hc_1.2.2 hP1 hD1
  generalize H1 = H at hP hS ⊢
  have hP : va_P (dC, dI) vwCl [(xo_6_ririii h bs (nI z) td fpn_1 fn_1 kn_1), (xI bs cI 120 fb), (xo_3_iiiiiiiirrrrr td tv0 tv1 tv2 tv3 (nI thh) tv5 (nI tn_1) (nI tkk) tb1 tb2 tb3 tb4 tb5), (xI tb1 cI 6 tg1n_1), (xI tb2 cI 6 tg2), (xI tb3 cI 6 tg3), (xI tb4 cI 6 tg4), (xI tb5 cI 6 tg5)] H := hP
  have hD := dto hP hD
  refine lv_iconst (v := 0) hx hb dX6_readWinds_4 (by decide) ?_
  refine lv_istore_n (lv' := [(1, .int 0), (0, .ref h)]) hx hb dX6_readWinds_5 rfl hl (by decide) rfl (fun ls hl => ?_)
  refine lp_go (σ := (Int32) × (Int32) × (Int32) × (Nat) × (Nat → Int32)) (fun ii (st : (Int32) × (Int32) × (Int32) × (Nat) × (Nat → Int32)) H locs ls => match st with | (w_7, w_8, w_9, w_10, w_11) => lv_has ls 2 [(1, .int (nI ii)), (0, .ref h)] ∧ va_P (dC, dI) vwCl [(xo_6_ririii h bs (nI z) td w_7 w_8 w_9), (xI bs cI 120 fb), (xo_3_iiiiiiiirrrrr td tv0 tv1 tv2 tv3 (nI thh) tv5 (nI w_10) (nI tkk) tb1 tb2 tb3 tb4 tb5), (xI tb1 cI 6 w_11), (xI tb2 cI 6 tg2), (xI tb3 cI 6 tg3), (xI tb4 cI 6 tg4), (xI tb5 cI 6 tg5)] H ∧ va_D A [(xo_6_ririii h bs (nI z) td w_7 w_8 w_9), (xI bs cI 120 fb), (xo_3_iiiiiiiirrrrr td tv0 tv1 tv2 tv3 (nI thh) tv5 (nI w_10) (nI tkk) tb1 tb2 tb3 tb4 tb5), (xI tb1 cI 6 w_11), (xI tb2 cI 6 tg2), (xI tb3 cI 6 tg3), (xI tb4 cI 6 tg4), (xI tb5 cI 6 tg5)] ∧ va_S A s.heap H locs ∧ (xWs fb z (6 - ii) ((w_7, w_8, w_9), w_10, w_11) = xWs fb z 6 ((fpn_1, fn_1, kn_1), tn_1, tg1n_1)) ∧ w_10 ≤ 6) 6 ?_ ?_ 0 (by omega) (fpn_1, fn_1, kn_1, tn_1, tg1n_1) ⟨lv_sub hl [0, 1] rfl, hP.sub (ws' := [(xo_6_ririii h bs (nI z) td fpn_1 fn_1 kn_1), (xI bs cI 120 fb), (xo_3_iiiiiiiirrrrr td tv0 tv1 tv2 tv3 (nI thh) tv5 (nI tn_1) (nI tkk) tb1 tb2 tb3 tb4 tb5), (xI tb1 cI 6 tg1n_1), (xI tb2 cI 6 tg2), (xI tb3 cI 6 tg3), (xI tb4 cI 6 tg4), (xI tb5 cI 6 tg5)]) [0, 1, 2, 3, 4, 5, 6, 7] rfl, hD.sub (ws' := [(xo_6_ririii h bs (nI z) td fpn_1 fn_1 kn_1), (xI bs cI 120 fb), (xo_3_iiiiiiiirrrrr td tv0 tv1 tv2 tv3 (nI thh) tv5 (nI tn_1) (nI tkk) tb1 tb2 tb3 tb4 tb5), (xI tb1 cI 6 tg1n_1), (xI tb2 cI 6 tg2), (xI tb3 cI 6 tg3), (xI tb4 cI 6 tg4), (xI tb5 cI 6 tg5)]) [0, 1, 2, 3, 4, 5, 6, 7] (by decide +kernel) rfl, hS, rfl, (by omega)⟩
  · rintro ii ⟨w_7, w_8, w_9, w_10, w_11⟩ H locs ls hii ⟨hl, hP, hD, hS, haf_0, hnb_w_10⟩ ih
    refine lv_iload_n hx hb dX6_readWinds_6 rfl (lv_at hl 0 rfl) ?_
    refine lv_bipush (v := 6) hx hb dX6_readWinds_7 (by decide) ?_
    refine lv_icmp_ge (tgt := 42) hx hb dX6_readWinds_9 (by decide) (fun c_ => absurd c_ (fun q_ => absurd ((nI_leI (a := 6) (b := ii) (by omega) (by omega)).mp q_) (by omega))) (fun _ => ?_)
    refine lv_aload_n hx hb dX6_readWinds_12 rfl (lv_at hl 1 rfl) ?_
    refine va_get (D := (dC, dI)) (ci := 6) (v := .int w_8) (C := RX6) (T := TX6) (N := 6) hx hb hts i_X6_readWinds_X6 hown hK hP 0 rfl rfl 4 (by decide) (hts _ mx_X6_readWinds_1) (fun _ h9 => h9) rfl dX6_readWinds_13 ?_
    refine lv_if_ne (tgt := 42) hx hb dX6_readWinds_16 (by decide) (fun c_23 => ?_) (fun c_23 => ?_)
    · skip
      have hX9 := cut2 (wc := [(xo_6_ririii h bs (nI z) td w_7 w_8 w_9), (xI bs cI 120 fb), (xo_3_iiiiiiiirrrrr td tv0 tv1 tv2 tv3 (nI thh) tv5 (nI w_10) (nI tkk) tb1 tb2 tb3 tb4 tb5), (xI tb1 cI 6 w_11), (xI tb2 cI 6 tg2), (xI tb3 cI 6 tg3), (xI tb4 cI 6 tg4), (xI tb5 cI 6 tg5)]) hP hD [0, 1, 2, 3, 4, 5, 6, 7] (by decide +kernel) rfl
      exact W.vret hx hb hr (fun t ht hW => ⟨⟨(), rfl, trivial, ⟨w_7, w_8, w_9, w_10, w_11, va_Ht ht hX9.1, hX9.2, (lf_X6_readWinds_1 hz htww htkk hF_1_0 hF_1_1 hii haf_0 hnb_w_10 c_23), (lf_X6_readWinds_2 hz htww htkk hF_1_0 hF_1_1 hii haf_0 hnb_w_10 c_23)⟩⟩, hS.F ht⟩) hS.2.2 dX6_readWinds_42
    · skip
      refine lv_aload_n hx hb dX6_readWinds_19 rfl (lv_at hl 1 rfl) ?_
      refine lv_aload_n hx hb dX6_readWinds_20 rfl (lv_at hl 1 rfl) ?_
      refine va_get (D := (dC, dI)) (ci := 6) (v := .int w_9) (C := RX6) (T := TX6) (N := 6) hx hb hts i_X6_readWinds_X6 hown hK hP 0 rfl rfl 5 (by decide) (hts _ mx_X6_readWinds_2) (fun _ h9 => h9) rfl dX6_readWinds_21 ?_
      have hPc_24 := hP.sub (ws' := [(xo_6_ririii h bs (nI z) td w_7 w_8 w_9), (xI bs cI 120 fb)]) [0, 1] rfl
      refine vp_callSi (W.runV (As := [.int w_9]) (rest := []) ⟨hx, hb, hml, hown, hts⟩ (r_X6_byteAt l dC dI cI cZ cL cJ h bs td z w_7 w_8 w_9 fb w_9 (hz)) (cwV 1 hts gX6_readWinds_X6_byteAt rfl rfl rfl (by decide +kernel) ⟨Nat.le_of_ble_eq_true rfl, Nat.le_of_ble_eq_true rfl⟩) (pvP 6 0 hK hP rfl rfl hPc_24) rfl rfl hl.1 rfl (lv_room (Nat.le_of_ble_eq_true rfl)) dX6_readWinds_24 ⟨Nat.le_of_ble_eq_true rfl, Nat.le_of_ble_eq_true rfl⟩) (fun r_24 h_24 => ?_)
      refine lv_bipush (v := 119) hx hb dX6_readWinds_27 (by decide) ?_
      refine lv_icmp_ne (tgt := 42) hx hb dX6_readWinds_29 (by decide) (fun c_25 => ?_) (fun c_25 => ?_)
      · skip
        have hX9 := cut2 (wc := [(xo_6_ririii h bs (nI z) td w_7 w_8 w_9), (xI bs cI 120 fb), (xo_3_iiiiiiiirrrrr td tv0 tv1 tv2 tv3 (nI thh) tv5 (nI w_10) (nI tkk) tb1 tb2 tb3 tb4 tb5), (xI tb1 cI 6 w_11), (xI tb2 cI 6 tg2), (xI tb3 cI 6 tg3), (xI tb4 cI 6 tg4), (xI tb5 cI 6 tg5)]) hP hD [0, 1, 2, 3, 4, 5, 6, 7] (by decide +kernel) rfl
        exact W.vret hx hb hr (fun t ht hW => ⟨⟨(), rfl, trivial, ⟨w_7, w_8, w_9, w_10, w_11, va_Ht ht hX9.1, hX9.2, (lf_X6_readWinds_3 hz htww htkk hF_1_0 hF_1_1 hii haf_0 hnb_w_10 c_23 h_24 c_25), (lf_X6_readWinds_4 hz htww htkk hF_1_0 hF_1_1 hii haf_0 hnb_w_10 c_23 h_24 c_25)⟩⟩, hS.F ht⟩) hS.2.2 dX6_readWinds_42
      · skip
        refine lv_aload_n hx hb dX6_readWinds_32 rfl (lv_at hl 1 rfl) ?_
        have hc_26 := cutW (wc := [(xo_6_ririii h bs (nI z) td w_7 w_8 w_9), (xI bs cI 120 fb), (xo_3_iiiiiiiirrrrr td tv0 tv1 tv2 tv3 (nI thh) tv5 (nI w_10) (nI tkk) tb1 tb2 tb3 tb4 tb5), (xI tb1 cI 6 w_11), (xI tb2 cI 6 tg2), (xI tb3 cI 6 tg3), (xI tb4 cI 6 tg4), (xI tb5 cI 6 tg5)]) hP hD hS hA [0, 1, 2, 3, 4, 5, 6, 7] (by decide +kernel) rfl
        refine va_callv (va_runV (As := []) (rest := []) ⟨hx, hb, hml, hown, hts⟩ (r_X6_readWind l dC dI cI cZ cL cJ H.size h bs td z w_7 w_8 w_9 fb tv0 tv1 tv2 tv3 tv5 thh w_10 tkk tb1 tb2 tb3 tb4 tb5 w_11 tg2 tg3 tg4 tg5 (hz) (by omega) (htkk)) (cwV 0 hts gX6_readWinds_X6_readWind rfl rfl rfl (by decide +kernel) ⟨Nat.le_of_ble_eq_true rfl, Nat.le_of_ble_eq_true rfl⟩) (pvW 6 0 hK hP rfl rfl hc_26) rfl rfl hl.1 rfl (lv_room (Nat.le_of_ble_eq_true rfl)) dX6_readWinds_33 ⟨Nat.le_of_ble_eq_true rfl, Nat.le_of_ble_eq_true rfl⟩) hS (fun q _ h => hc_26.2.2 q h) hc_26.2.2 (fun u_26 t_26 H1 locs ht hvm h_26 hB hz1 hk1 hS => ?_)
        refine xl_5_4 hB (fun fpn_26 fn_26 kn_26 tn_26 tg1n_26 hP1 hD1 hF_26_0 hF_26_1 => ?_)
        clear hB
        rw [ht] at hP1
        obtain ⟨hP, hD⟩ := va_join (wr := []) (w1 := [(xo_6_ririii h bs (nI z) td fpn_26 fn_26 kn_26), (xI bs cI 120 fb), (xo_3_iiiiiiiirrrrr td tv0 tv1 tv2 tv3 (nI thh) tv5 (nI tn_26) (nI tkk) tb1 tb2 tb3 tb4 tb5), (xI tb1 cI 6 tg1n_26), (xI tb2 cI 6 tg2), (xI tb3 cI 6 tg3), (xI tb4 cI 6 tg4), (xI tb5 cI 6 tg5)]) hP hD [0, 1, 2, 3, 4, 5, 6, 7] [] rfl rfl (by decide +kernel) (by decide +kernel) hk1 hc_26.2.2 hP1 hD1
        generalize H1 = H at hP hS ⊢
        have hP : va_P (dC, dI) vwCl [(xo_6_ririii h bs (nI z) td fpn_26 fn_26 kn_26), (xI bs cI 120 fb), (xo_3_iiiiiiiirrrrr td tv0 tv1 tv2 tv3 (nI thh) tv5 (nI tn_26) (nI tkk) tb1 tb2 tb3 tb4 tb5), (xI tb1 cI 6 tg1n_26), (xI tb2 cI 6 tg2), (xI tb3 cI 6 tg3), (xI tb4 cI 6 tg4), (xI tb5 cI 6 tg5)] H := hP
        have hD := dto hP hD
        refine lv_iinc (v := (nI (ii + 1))) (lv' := [(1, .int (nI (ii + 1))), (0, .ref h)]) hx hb dX6_readWinds_36 hl (k := 0) rfl (nI_add ii 1) (by decide) rfl (fun ls hl => ?_)
        refine lv_goto (tgt := 6) hx hb dX6_readWinds_39 (by decide) ?_
        exact ih (fpn_26, fn_26, kn_26, tn_26, tg1n_26) _ _ _ ⟨lv_sub hl [0, 1] rfl, hP.sub (ws' := [(xo_6_ririii h bs (nI z) td fpn_26 fn_26 kn_26), (xI bs cI 120 fb), (xo_3_iiiiiiiirrrrr td tv0 tv1 tv2 tv3 (nI thh) tv5 (nI tn_26) (nI tkk) tb1 tb2 tb3 tb4 tb5), (xI tb1 cI 6 tg1n_26), (xI tb2 cI 6 tg2), (xI tb3 cI 6 tg3), (xI tb4 cI 6 tg4), (xI tb5 cI 6 tg5)]) [0, 1, 2, 3, 4, 5, 6, 7] rfl, hD.sub (ws' := [(xo_6_ririii h bs (nI z) td fpn_26 fn_26 kn_26), (xI bs cI 120 fb), (xo_3_iiiiiiiirrrrr td tv0 tv1 tv2 tv3 (nI thh) tv5 (nI tn_26) (nI tkk) tb1 tb2 tb3 tb4 tb5), (xI tb1 cI 6 tg1n_26), (xI tb2 cI 6 tg2), (xI tb3 cI 6 tg3), (xI tb4 cI 6 tg4), (xI tb5 cI 6 tg5)]) [0, 1, 2, 3, 4, 5, 6, 7] (by decide +kernel) rfl, hS, (lf_X6_readWinds_5 hz htww htkk hF_1_0 hF_1_1 hii haf_0 hnb_w_10 c_23 h_24 c_25 hF_26_0 hF_26_1), (by omega)⟩
  · rintro ⟨w_7, w_8, w_9, w_10, w_11⟩ H locs ls ⟨hl, hP, hD, hS, haf_0, hnb_w_10⟩
    refine lv_iload_n hx hb dX6_readWinds_6 rfl (lv_at hl 0 rfl) ?_
    refine lv_bipush (v := 6) hx hb dX6_readWinds_7 (by decide) ?_
    refine lv_icmp_ge (tgt := 42) hx hb dX6_readWinds_9 (by decide) (fun _ => ?_) (fun c_ => absurd ((nI_leI (a := 6) (b := 6) (by omega) (by omega)).mpr (by omega)) c_)
    have hX9 := cut2 (wc := [(xo_6_ririii h bs (nI z) td w_7 w_8 w_9), (xI bs cI 120 fb), (xo_3_iiiiiiiirrrrr td tv0 tv1 tv2 tv3 (nI thh) tv5 (nI w_10) (nI tkk) tb1 tb2 tb3 tb4 tb5), (xI tb1 cI 6 w_11), (xI tb2 cI 6 tg2), (xI tb3 cI 6 tg3), (xI tb4 cI 6 tg4), (xI tb5 cI 6 tg5)]) hP hD [0, 1, 2, 3, 4, 5, 6, 7] (by decide +kernel) rfl
    exact W.vret hx hb hr (fun t ht hW => ⟨⟨(), rfl, trivial, ⟨w_7, w_8, w_9, w_10, w_11, va_Ht ht hX9.1, hX9.2, (lf_X6_readWinds_6 hz htww htkk hF_1_0 hF_1_1 haf_0 hnb_w_10), (lf_X6_readWinds_7 hz htww htkk hF_1_0 hF_1_1 haf_0 hnb_w_10)⟩⟩, hS.F ht⟩) hS.2.2 dX6_readWinds_42
theorem lf_X6_readSound_1 {z : Nat} {fp : Int32} {f : Int32} {k : Int32} {fb : Nat → Int32} {tv0 : Int32} {thh : Nat} {tww : Nat} {tkk : Nat} {r_1 : Int32} {r_2 : Int32} {v_5 : Int32} {v_6 : Int32} {fpn_7 : Int32} {fn_7 : Int32} {kn_7 : Int32} {r_7 : Int32} {fpn_8 : Int32} {fn_8 : Int32} {kn_8 : Int32} {fpn_9 : Int32} {fn_9 : Int32} {kn_9 : Int32} {r_9 : Int32} {fpn_10 : Int32} {fn_10 : Int32} {kn_10 : Int32} (thb : thh ≤ 999) (hz : z ≤ 120) (htww : tww ≤ 6) (htkk : tkk ≤ 6) (h_1 : r_1 = (bAt fb z k)) (h_2 : r_2 = (kindX r_1)) (c_3 : ¬ (r_2 = 0)) (c_4 : tkk < 6) (e_5 : v_5 = (k + 1)) (e_6 : v_6 = (tv0 - 1)) (hF_7_0 : (fn_7 = 0 → f = 0)) (hF_7_1 : rN fb z 0 v_6 (fp, f, v_5) = (fpn_7, fn_7, kn_7)) (h_7 : r_7 = (rV fb z 0 v_6 v_5)) (hF_8_0 : (fn_8 = 0 → fn_7 = 0 ∧ bAt fb z kn_7 = 44)) (hF_8_1 : rB fb z 44 (fpn_7, fn_7, kn_7) = (fpn_8, fn_8, kn_8)) (hF_9_0 : (fn_9 = 0 → fn_8 = 0)) (hF_9_1 : rN fb z 1 20 (fpn_8, fn_8, kn_8) = (fpn_9, fn_9, kn_9)) (h_9 : r_9 = (rV fb z 1 20 kn_8)) (hF_10_0 : (fn_10 = 0 → fn_9 = 0 ∧ bAt fb z kn_9 = 59)) (hF_10_1 : rB fb z 59 (fpn_9, fn_9, kn_9) = (fpn_10, fn_10, kn_10)) (c_11 : ¬ (fn_10 = 0)) : tkk ≤ 6 := by
  first
  | omega
  | (simp only [xS, xSc, xSb, xSa, xS0]; grind)
theorem lf_X6_readSound_2 {z : Nat} {fp : Int32} {f : Int32} {k : Int32} {fb : Nat → Int32} {tv0 : Int32} {thh : Nat} {tww : Nat} {tkk : Nat} {tg2 : Nat → Int32} {tg3 : Nat → Int32} {tg4 : Nat → Int32} {tg5 : Nat → Int32} {r_1 : Int32} {r_2 : Int32} {v_5 : Int32} {v_6 : Int32} {fpn_7 : Int32} {fn_7 : Int32} {kn_7 : Int32} {r_7 : Int32} {fpn_8 : Int32} {fn_8 : Int32} {kn_8 : Int32} {fpn_9 : Int32} {fn_9 : Int32} {kn_9 : Int32} {r_9 : Int32} {fpn_10 : Int32} {fn_10 : Int32} {kn_10 : Int32} (thb : thh ≤ 999) (hz : z ≤ 120) (htww : tww ≤ 6) (htkk : tkk ≤ 6) (h_1 : r_1 = (bAt fb z k)) (h_2 : r_2 = (kindX r_1)) (c_3 : ¬ (r_2 = 0)) (c_4 : tkk < 6) (e_5 : v_5 = (k + 1)) (e_6 : v_6 = (tv0 - 1)) (hF_7_0 : (fn_7 = 0 → f = 0)) (hF_7_1 : rN fb z 0 v_6 (fp, f, v_5) = (fpn_7, fn_7, kn_7)) (h_7 : r_7 = (rV fb z 0 v_6 v_5)) (hF_8_0 : (fn_8 = 0 → fn_7 = 0 ∧ bAt fb z kn_7 = 44)) (hF_8_1 : rB fb z 44 (fpn_7, fn_7, kn_7) = (fpn_8, fn_8, kn_8)) (hF_9_0 : (fn_9 = 0 → fn_8 = 0)) (hF_9_1 : rN fb z 1 20 (fpn_8, fn_8, kn_8) = (fpn_9, fn_9, kn_9)) (h_9 : r_9 = (rV fb z 1 20 kn_8)) (hF_10_0 : (fn_10 = 0 → fn_9 = 0 ∧ bAt fb z kn_9 = 59)) (hF_10_1 : rB fb z 59 (fpn_9, fn_9, kn_9) = (fpn_10, fn_10, kn_10)) (c_11 : ¬ (fn_10 = 0)) : xS fb z tv0 ((fp, f, k), tkk, tg2, tg3, tg4, tg5) = ((fpn_10, fn_10, kn_10), tkk, tg2, tg3, tg4, tg5) := by
  first
  | omega
  | (simp only [xS, xSc, xSb, xSa, xS0]; grind)
theorem lf_X6_readSound_3 {z : Nat} {fp : Int32} {f : Int32} {k : Int32} {fb : Nat → Int32} {tv0 : Int32} {thh : Nat} {tww : Nat} {tkk : Nat} {r_1 : Int32} {r_2 : Int32} {v_5 : Int32} {v_6 : Int32} {fpn_7 : Int32} {fn_7 : Int32} {kn_7 : Int32} {r_7 : Int32} {fpn_8 : Int32} {fn_8 : Int32} {kn_8 : Int32} {fpn_9 : Int32} {fn_9 : Int32} {kn_9 : Int32} {r_9 : Int32} {fpn_10 : Int32} {fn_10 : Int32} {kn_10 : Int32} (thb : thh ≤ 999) (hz : z ≤ 120) (htww : tww ≤ 6) (htkk : tkk ≤ 6) (h_1 : r_1 = (bAt fb z k)) (h_2 : r_2 = (kindX r_1)) (c_3 : ¬ (r_2 = 0)) (c_4 : tkk < 6) (e_5 : v_5 = (k + 1)) (e_6 : v_6 = (tv0 - 1)) (hF_7_0 : (fn_7 = 0 → f = 0)) (hF_7_1 : rN fb z 0 v_6 (fp, f, v_5) = (fpn_7, fn_7, kn_7)) (h_7 : r_7 = (rV fb z 0 v_6 v_5)) (hF_8_0 : (fn_8 = 0 → fn_7 = 0 ∧ bAt fb z kn_7 = 44)) (hF_8_1 : rB fb z 44 (fpn_7, fn_7, kn_7) = (fpn_8, fn_8, kn_8)) (hF_9_0 : (fn_9 = 0 → fn_8 = 0)) (hF_9_1 : rN fb z 1 20 (fpn_8, fn_8, kn_8) = (fpn_9, fn_9, kn_9)) (h_9 : r_9 = (rV fb z 1 20 kn_8)) (hF_10_0 : (fn_10 = 0 → fn_9 = 0 ∧ bAt fb z kn_9 = 59)) (hF_10_1 : rB fb z 59 (fpn_9, fn_9, kn_9) = (fpn_10, fn_10, kn_10)) (c_11 : fn_10 = 0) : tkk < 6 := by
  grind
theorem lf_X6_readSound_4 {z : Nat} {fp : Int32} {f : Int32} {k : Int32} {fb : Nat → Int32} {tv0 : Int32} {thh : Nat} {tww : Nat} {tkk : Nat} {tg2 : Nat → Int32} {tg3 : Nat → Int32} {tg4 : Nat → Int32} {tg5 : Nat → Int32} {r_1 : Int32} {r_2 : Int32} {v_5 : Int32} {v_6 : Int32} {fpn_7 : Int32} {fn_7 : Int32} {kn_7 : Int32} {r_7 : Int32} {fpn_8 : Int32} {fn_8 : Int32} {kn_8 : Int32} {fpn_9 : Int32} {fn_9 : Int32} {kn_9 : Int32} {r_9 : Int32} {fpn_10 : Int32} {fn_10 : Int32} {kn_10 : Int32} {g_12 : Nat → Int32} {g3n_13 : Nat → Int32} {g4n_13 : Nat → Int32} {g5n_13 : Nat → Int32} (thb : thh ≤ 999) (hz : z ≤ 120) (htww : tww ≤ 6) (htkk : tkk ≤ 6) (h_1 : r_1 = (bAt fb z k)) (h_2 : r_2 = (kindX r_1)) (c_3 : ¬ (r_2 = 0)) (c_4 : tkk < 6) (e_5 : v_5 = (k + 1)) (e_6 : v_6 = (tv0 - 1)) (hF_7_0 : (fn_7 = 0 → f = 0)) (hF_7_1 : rN fb z 0 v_6 (fp, f, v_5) = (fpn_7, fn_7, kn_7)) (h_7 : r_7 = (rV fb z 0 v_6 v_5)) (hF_8_0 : (fn_8 = 0 → fn_7 = 0 ∧ bAt fb z kn_7 = 44)) (hF_8_1 : rB fb z 44 (fpn_7, fn_7, kn_7) = (fpn_8, fn_8, kn_8)) (hF_9_0 : (fn_9 = 0 → fn_8 = 0)) (hF_9_1 : rN fb z 1 20 (fpn_8, fn_8, kn_8) = (fpn_9, fn_9, kn_9)) (h_9 : r_9 = (rV fb z 1 20 kn_8)) (hF_10_0 : (fn_10 = 0 → fn_9 = 0 ∧ bAt fb z kn_9 = 59)) (hF_10_1 : rB fb z 59 (fpn_9, fn_9, kn_9) = (fpn_10, fn_10, kn_10)) (c_11 : fn_10 = 0) (hw6 : tkk < 6) (hu_12 : g_12 = upd tg2 tkk r_2) (hF_13_0 : g3n_13 = upd tg3 tkk r_7) (hF_13_1 : g4n_13 = upd tg4 tkk r_9) (hF_13_2 : g5n_13 = upd tg5 tkk 0) : (tkk + 1) ≤ 6 := by
  first
  | omega
  | (simp only [xS, xSc, xSb, xSa, xS0]; grind)
theorem lf_X6_readSound_5 {z : Nat} {fp : Int32} {f : Int32} {k : Int32} {fb : Nat → Int32} {tv0 : Int32} {thh : Nat} {tww : Nat} {tkk : Nat} {tg2 : Nat → Int32} {tg3 : Nat → Int32} {tg4 : Nat → Int32} {tg5 : Nat → Int32} {r_1 : Int32} {r_2 : Int32} {v_5 : Int32} {v_6 : Int32} {fpn_7 : Int32} {fn_7 : Int32} {kn_7 : Int32} {r_7 : Int32} {fpn_8 : Int32} {fn_8 : Int32} {kn_8 : Int32} {fpn_9 : Int32} {fn_9 : Int32} {kn_9 : Int32} {r_9 : Int32} {fpn_10 : Int32} {fn_10 : Int32} {kn_10 : Int32} {g_12 : Nat → Int32} {g3n_13 : Nat → Int32} {g4n_13 : Nat → Int32} {g5n_13 : Nat → Int32} (thb : thh ≤ 999) (hz : z ≤ 120) (htww : tww ≤ 6) (htkk : tkk ≤ 6) (h_1 : r_1 = (bAt fb z k)) (h_2 : r_2 = (kindX r_1)) (c_3 : ¬ (r_2 = 0)) (c_4 : tkk < 6) (e_5 : v_5 = (k + 1)) (e_6 : v_6 = (tv0 - 1)) (hF_7_0 : (fn_7 = 0 → f = 0)) (hF_7_1 : rN fb z 0 v_6 (fp, f, v_5) = (fpn_7, fn_7, kn_7)) (h_7 : r_7 = (rV fb z 0 v_6 v_5)) (hF_8_0 : (fn_8 = 0 → fn_7 = 0 ∧ bAt fb z kn_7 = 44)) (hF_8_1 : rB fb z 44 (fpn_7, fn_7, kn_7) = (fpn_8, fn_8, kn_8)) (hF_9_0 : (fn_9 = 0 → fn_8 = 0)) (hF_9_1 : rN fb z 1 20 (fpn_8, fn_8, kn_8) = (fpn_9, fn_9, kn_9)) (h_9 : r_9 = (rV fb z 1 20 kn_8)) (hF_10_0 : (fn_10 = 0 → fn_9 = 0 ∧ bAt fb z kn_9 = 59)) (hF_10_1 : rB fb z 59 (fpn_9, fn_9, kn_9) = (fpn_10, fn_10, kn_10)) (c_11 : fn_10 = 0) (hw6 : tkk < 6) (hu_12 : g_12 = upd tg2 tkk r_2) (hF_13_0 : g3n_13 = upd tg3 tkk r_7) (hF_13_1 : g4n_13 = upd tg4 tkk r_9) (hF_13_2 : g5n_13 = upd tg5 tkk 0) : xS fb z tv0 ((fp, f, k), tkk, tg2, tg3, tg4, tg5) = ((fpn_10, fn_10, kn_10), (tkk + 1), g_12, g3n_13, g4n_13, g5n_13) := by
  first
  | omega
  | (simp only [xS, xSc, xSb, xSa, xS0]; grind)
theorem lf_X6_readSound_6 {z : Nat} {fp : Int32} {f : Int32} {k : Int32} {fb : Nat → Int32} {tv0 : Int32} {thh : Nat} {tww : Nat} {tkk : Nat} {r_1 : Int32} {r_2 : Int32} {fpn_15 : Int32} {fn_15 : Int32} {v_16 : Int32} {v_17 : Int32} {fpn_18 : Int32} {fn_18 : Int32} {kn_18 : Int32} {r_18 : Int32} {fpn_19 : Int32} {fn_19 : Int32} {kn_19 : Int32} {fpn_20 : Int32} {fn_20 : Int32} {kn_20 : Int32} {r_20 : Int32} {fpn_21 : Int32} {fn_21 : Int32} {kn_21 : Int32} (thb : thh ≤ 999) (hz : z ≤ 120) (htww : tww ≤ 6) (htkk : tkk ≤ 6) (h_1 : r_1 = (bAt fb z k)) (h_2 : r_2 = (kindX r_1)) (c_3 : ¬ (r_2 = 0)) (c_4 : ¬ (tkk < 6)) (hF_15_0 : (¬ (3 : Int32) = 0 → ¬ fn_15 = 0)) (hF_15_1 : (¬ f = 0 → fn_15 = f)) (hF_15_2 : rF 3 (fp, f, k) = (fpn_15, fn_15, k)) (e_16 : v_16 = (k + 1)) (e_17 : v_17 = (tv0 - 1)) (hF_18_0 : (fn_18 = 0 → fn_15 = 0)) (hF_18_1 : rN fb z 0 v_17 (fpn_15, fn_15, v_16) = (fpn_18, fn_18, kn_18)) (h_18 : r_18 = (rV fb z 0 v_17 v_16)) (hF_19_0 : (fn_19 = 0 → fn_18 = 0 ∧ bAt fb z kn_18 = 44)) (hF_19_1 : rB fb z 44 (fpn_18, fn_18, kn_18) = (fpn_19, fn_19, kn_19)) (hF_20_0 : (fn_20 = 0 → fn_19 = 0)) (hF_20_1 : rN fb z 1 20 (fpn_19, fn_19, kn_19) = (fpn_20, fn_20, kn_20)) (h_20 : r_20 = (rV fb z 1 20 kn_19)) (hF_21_0 : (fn_21 = 0 → fn_20 = 0 ∧ bAt fb z kn_20 = 59)) (hF_21_1 : rB fb z 59 (fpn_20, fn_20, kn_20) = (fpn_21, fn_21, kn_21)) (c_22 : ¬ (fn_21 = 0)) : tkk ≤ 6 := by
  first
  | omega
  | (simp only [xS, xSc, xSb, xSa, xS0]; grind)
theorem lf_X6_readSound_7 {z : Nat} {fp : Int32} {f : Int32} {k : Int32} {fb : Nat → Int32} {tv0 : Int32} {thh : Nat} {tww : Nat} {tkk : Nat} {tg2 : Nat → Int32} {tg3 : Nat → Int32} {tg4 : Nat → Int32} {tg5 : Nat → Int32} {r_1 : Int32} {r_2 : Int32} {fpn_15 : Int32} {fn_15 : Int32} {v_16 : Int32} {v_17 : Int32} {fpn_18 : Int32} {fn_18 : Int32} {kn_18 : Int32} {r_18 : Int32} {fpn_19 : Int32} {fn_19 : Int32} {kn_19 : Int32} {fpn_20 : Int32} {fn_20 : Int32} {kn_20 : Int32} {r_20 : Int32} {fpn_21 : Int32} {fn_21 : Int32} {kn_21 : Int32} (thb : thh ≤ 999) (hz : z ≤ 120) (htww : tww ≤ 6) (htkk : tkk ≤ 6) (h_1 : r_1 = (bAt fb z k)) (h_2 : r_2 = (kindX r_1)) (c_3 : ¬ (r_2 = 0)) (c_4 : ¬ (tkk < 6)) (hF_15_0 : (¬ (3 : Int32) = 0 → ¬ fn_15 = 0)) (hF_15_1 : (¬ f = 0 → fn_15 = f)) (hF_15_2 : rF 3 (fp, f, k) = (fpn_15, fn_15, k)) (e_16 : v_16 = (k + 1)) (e_17 : v_17 = (tv0 - 1)) (hF_18_0 : (fn_18 = 0 → fn_15 = 0)) (hF_18_1 : rN fb z 0 v_17 (fpn_15, fn_15, v_16) = (fpn_18, fn_18, kn_18)) (h_18 : r_18 = (rV fb z 0 v_17 v_16)) (hF_19_0 : (fn_19 = 0 → fn_18 = 0 ∧ bAt fb z kn_18 = 44)) (hF_19_1 : rB fb z 44 (fpn_18, fn_18, kn_18) = (fpn_19, fn_19, kn_19)) (hF_20_0 : (fn_20 = 0 → fn_19 = 0)) (hF_20_1 : rN fb z 1 20 (fpn_19, fn_19, kn_19) = (fpn_20, fn_20, kn_20)) (h_20 : r_20 = (rV fb z 1 20 kn_19)) (hF_21_0 : (fn_21 = 0 → fn_20 = 0 ∧ bAt fb z kn_20 = 59)) (hF_21_1 : rB fb z 59 (fpn_20, fn_20, kn_20) = (fpn_21, fn_21, kn_21)) (c_22 : ¬ (fn_21 = 0)) : xS fb z tv0 ((fp, f, k), tkk, tg2, tg3, tg4, tg5) = ((fpn_21, fn_21, kn_21), tkk, tg2, tg3, tg4, tg5) := by
  first
  | omega
  | (simp only [xS, xSc, xSb, xSa, xS0]; grind)
theorem lf_X6_readSound_8 {z : Nat} {fp : Int32} {f : Int32} {k : Int32} {fb : Nat → Int32} {tv0 : Int32} {thh : Nat} {tww : Nat} {tkk : Nat} {r_1 : Int32} {r_2 : Int32} {fpn_15 : Int32} {fn_15 : Int32} {v_16 : Int32} {v_17 : Int32} {fpn_18 : Int32} {fn_18 : Int32} {kn_18 : Int32} {r_18 : Int32} {fpn_19 : Int32} {fn_19 : Int32} {kn_19 : Int32} {fpn_20 : Int32} {fn_20 : Int32} {kn_20 : Int32} {r_20 : Int32} {fpn_21 : Int32} {fn_21 : Int32} {kn_21 : Int32} (thb : thh ≤ 999) (hz : z ≤ 120) (htww : tww ≤ 6) (htkk : tkk ≤ 6) (h_1 : r_1 = (bAt fb z k)) (h_2 : r_2 = (kindX r_1)) (c_3 : ¬ (r_2 = 0)) (c_4 : ¬ (tkk < 6)) (hF_15_0 : (¬ (3 : Int32) = 0 → ¬ fn_15 = 0)) (hF_15_1 : (¬ f = 0 → fn_15 = f)) (hF_15_2 : rF 3 (fp, f, k) = (fpn_15, fn_15, k)) (e_16 : v_16 = (k + 1)) (e_17 : v_17 = (tv0 - 1)) (hF_18_0 : (fn_18 = 0 → fn_15 = 0)) (hF_18_1 : rN fb z 0 v_17 (fpn_15, fn_15, v_16) = (fpn_18, fn_18, kn_18)) (h_18 : r_18 = (rV fb z 0 v_17 v_16)) (hF_19_0 : (fn_19 = 0 → fn_18 = 0 ∧ bAt fb z kn_18 = 44)) (hF_19_1 : rB fb z 44 (fpn_18, fn_18, kn_18) = (fpn_19, fn_19, kn_19)) (hF_20_0 : (fn_20 = 0 → fn_19 = 0)) (hF_20_1 : rN fb z 1 20 (fpn_19, fn_19, kn_19) = (fpn_20, fn_20, kn_20)) (h_20 : r_20 = (rV fb z 1 20 kn_19)) (hF_21_0 : (fn_21 = 0 → fn_20 = 0 ∧ bAt fb z kn_20 = 59)) (hF_21_1 : rB fb z 59 (fpn_20, fn_20, kn_20) = (fpn_21, fn_21, kn_21)) (c_22 : fn_21 = 0) : tkk < 6 := by
  grind
theorem lf_X6_readSound_9 {z : Nat} {fp : Int32} {f : Int32} {k : Int32} {fb : Nat → Int32} {tv0 : Int32} {thh : Nat} {tww : Nat} {tkk : Nat} {tg2 : Nat → Int32} {tg3 : Nat → Int32} {tg4 : Nat → Int32} {tg5 : Nat → Int32} {r_1 : Int32} {r_2 : Int32} {fpn_15 : Int32} {fn_15 : Int32} {v_16 : Int32} {v_17 : Int32} {fpn_18 : Int32} {fn_18 : Int32} {kn_18 : Int32} {r_18 : Int32} {fpn_19 : Int32} {fn_19 : Int32} {kn_19 : Int32} {fpn_20 : Int32} {fn_20 : Int32} {kn_20 : Int32} {r_20 : Int32} {fpn_21 : Int32} {fn_21 : Int32} {kn_21 : Int32} {g_23 : Nat → Int32} {g3n_24 : Nat → Int32} {g4n_24 : Nat → Int32} {g5n_24 : Nat → Int32} (thb : thh ≤ 999) (hz : z ≤ 120) (htww : tww ≤ 6) (htkk : tkk ≤ 6) (h_1 : r_1 = (bAt fb z k)) (h_2 : r_2 = (kindX r_1)) (c_3 : ¬ (r_2 = 0)) (c_4 : ¬ (tkk < 6)) (hF_15_0 : (¬ (3 : Int32) = 0 → ¬ fn_15 = 0)) (hF_15_1 : (¬ f = 0 → fn_15 = f)) (hF_15_2 : rF 3 (fp, f, k) = (fpn_15, fn_15, k)) (e_16 : v_16 = (k + 1)) (e_17 : v_17 = (tv0 - 1)) (hF_18_0 : (fn_18 = 0 → fn_15 = 0)) (hF_18_1 : rN fb z 0 v_17 (fpn_15, fn_15, v_16) = (fpn_18, fn_18, kn_18)) (h_18 : r_18 = (rV fb z 0 v_17 v_16)) (hF_19_0 : (fn_19 = 0 → fn_18 = 0 ∧ bAt fb z kn_18 = 44)) (hF_19_1 : rB fb z 44 (fpn_18, fn_18, kn_18) = (fpn_19, fn_19, kn_19)) (hF_20_0 : (fn_20 = 0 → fn_19 = 0)) (hF_20_1 : rN fb z 1 20 (fpn_19, fn_19, kn_19) = (fpn_20, fn_20, kn_20)) (h_20 : r_20 = (rV fb z 1 20 kn_19)) (hF_21_0 : (fn_21 = 0 → fn_20 = 0 ∧ bAt fb z kn_20 = 59)) (hF_21_1 : rB fb z 59 (fpn_20, fn_20, kn_20) = (fpn_21, fn_21, kn_21)) (c_22 : fn_21 = 0) (hw6 : tkk < 6) (hu_23 : g_23 = upd tg2 tkk r_2) (hF_24_0 : g3n_24 = upd tg3 tkk r_18) (hF_24_1 : g4n_24 = upd tg4 tkk r_20) (hF_24_2 : g5n_24 = upd tg5 tkk 0) : (tkk + 1) ≤ 6 := by
  first
  | omega
  | (simp only [xS, xSc, xSb, xSa, xS0]; grind)
theorem lf_X6_readSound_10 {z : Nat} {fp : Int32} {f : Int32} {k : Int32} {fb : Nat → Int32} {tv0 : Int32} {thh : Nat} {tww : Nat} {tkk : Nat} {tg2 : Nat → Int32} {tg3 : Nat → Int32} {tg4 : Nat → Int32} {tg5 : Nat → Int32} {r_1 : Int32} {r_2 : Int32} {fpn_15 : Int32} {fn_15 : Int32} {v_16 : Int32} {v_17 : Int32} {fpn_18 : Int32} {fn_18 : Int32} {kn_18 : Int32} {r_18 : Int32} {fpn_19 : Int32} {fn_19 : Int32} {kn_19 : Int32} {fpn_20 : Int32} {fn_20 : Int32} {kn_20 : Int32} {r_20 : Int32} {fpn_21 : Int32} {fn_21 : Int32} {kn_21 : Int32} {g_23 : Nat → Int32} {g3n_24 : Nat → Int32} {g4n_24 : Nat → Int32} {g5n_24 : Nat → Int32} (thb : thh ≤ 999) (hz : z ≤ 120) (htww : tww ≤ 6) (htkk : tkk ≤ 6) (h_1 : r_1 = (bAt fb z k)) (h_2 : r_2 = (kindX r_1)) (c_3 : ¬ (r_2 = 0)) (c_4 : ¬ (tkk < 6)) (hF_15_0 : (¬ (3 : Int32) = 0 → ¬ fn_15 = 0)) (hF_15_1 : (¬ f = 0 → fn_15 = f)) (hF_15_2 : rF 3 (fp, f, k) = (fpn_15, fn_15, k)) (e_16 : v_16 = (k + 1)) (e_17 : v_17 = (tv0 - 1)) (hF_18_0 : (fn_18 = 0 → fn_15 = 0)) (hF_18_1 : rN fb z 0 v_17 (fpn_15, fn_15, v_16) = (fpn_18, fn_18, kn_18)) (h_18 : r_18 = (rV fb z 0 v_17 v_16)) (hF_19_0 : (fn_19 = 0 → fn_18 = 0 ∧ bAt fb z kn_18 = 44)) (hF_19_1 : rB fb z 44 (fpn_18, fn_18, kn_18) = (fpn_19, fn_19, kn_19)) (hF_20_0 : (fn_20 = 0 → fn_19 = 0)) (hF_20_1 : rN fb z 1 20 (fpn_19, fn_19, kn_19) = (fpn_20, fn_20, kn_20)) (h_20 : r_20 = (rV fb z 1 20 kn_19)) (hF_21_0 : (fn_21 = 0 → fn_20 = 0 ∧ bAt fb z kn_20 = 59)) (hF_21_1 : rB fb z 59 (fpn_20, fn_20, kn_20) = (fpn_21, fn_21, kn_21)) (c_22 : fn_21 = 0) (hw6 : tkk < 6) (hu_23 : g_23 = upd tg2 tkk r_2) (hF_24_0 : g3n_24 = upd tg3 tkk r_18) (hF_24_1 : g4n_24 = upd tg4 tkk r_20) (hF_24_2 : g5n_24 = upd tg5 tkk 0) : xS fb z tv0 ((fp, f, k), tkk, tg2, tg3, tg4, tg5) = ((fpn_21, fn_21, kn_21), (tkk + 1), g_23, g3n_24, g4n_24, g5n_24) := by
  first
  | omega
  | (simp only [xS, xSc, xSb, xSa, xS0]; grind)
theorem lf_X6_readSound_11 {z : Nat} {fp : Int32} {f : Int32} {k : Int32} {fb : Nat → Int32} {tv0 : Int32} {thh : Nat} {tww : Nat} {tkk : Nat} {r_1 : Int32} {r_2 : Int32} {fpn_26 : Int32} {fn_26 : Int32} {v_27 : Int32} {v_28 : Int32} {fpn_29 : Int32} {fn_29 : Int32} {kn_29 : Int32} {r_29 : Int32} {fpn_30 : Int32} {fn_30 : Int32} {kn_30 : Int32} {fpn_31 : Int32} {fn_31 : Int32} {kn_31 : Int32} {r_31 : Int32} {fpn_32 : Int32} {fn_32 : Int32} {kn_32 : Int32} (thb : thh ≤ 999) (hz : z ≤ 120) (htww : tww ≤ 6) (htkk : tkk ≤ 6) (h_1 : r_1 = (bAt fb z k)) (h_2 : r_2 = (kindX r_1)) (c_3 : r_2 = 0) (hF_26_0 : (¬ (1 : Int32) = 0 → ¬ fn_26 = 0)) (hF_26_1 : (¬ f = 0 → fn_26 = f)) (hF_26_2 : rF 1 (fp, f, k) = (fpn_26, fn_26, k)) (e_27 : v_27 = (k + 1)) (e_28 : v_28 = (tv0 - 1)) (hF_29_0 : (fn_29 = 0 → fn_26 = 0)) (hF_29_1 : rN fb z 0 v_28 (fpn_26, fn_26, v_27) = (fpn_29, fn_29, kn_29)) (h_29 : r_29 = (rV fb z 0 v_28 v_27)) (hF_30_0 : (fn_30 = 0 → fn_29 = 0 ∧ bAt fb z kn_29 = 44)) (hF_30_1 : rB fb z 44 (fpn_29, fn_29, kn_29) = (fpn_30, fn_30, kn_30)) (hF_31_0 : (fn_31 = 0 → fn_30 = 0)) (hF_31_1 : rN fb z 1 20 (fpn_30, fn_30, kn_30) = (fpn_31, fn_31, kn_31)) (h_31 : r_31 = (rV fb z 1 20 kn_30)) (hF_32_0 : (fn_32 = 0 → fn_31 = 0 ∧ bAt fb z kn_31 = 59)) (hF_32_1 : rB fb z 59 (fpn_31, fn_31, kn_31) = (fpn_32, fn_32, kn_32)) (c_33 : ¬ (fn_32 = 0)) : tkk ≤ 6 := by
  first
  | omega
  | (simp only [xS, xSc, xSb, xSa, xS0]; grind)
theorem lf_X6_readSound_12 {z : Nat} {fp : Int32} {f : Int32} {k : Int32} {fb : Nat → Int32} {tv0 : Int32} {thh : Nat} {tww : Nat} {tkk : Nat} {tg2 : Nat → Int32} {tg3 : Nat → Int32} {tg4 : Nat → Int32} {tg5 : Nat → Int32} {r_1 : Int32} {r_2 : Int32} {fpn_26 : Int32} {fn_26 : Int32} {v_27 : Int32} {v_28 : Int32} {fpn_29 : Int32} {fn_29 : Int32} {kn_29 : Int32} {r_29 : Int32} {fpn_30 : Int32} {fn_30 : Int32} {kn_30 : Int32} {fpn_31 : Int32} {fn_31 : Int32} {kn_31 : Int32} {r_31 : Int32} {fpn_32 : Int32} {fn_32 : Int32} {kn_32 : Int32} (thb : thh ≤ 999) (hz : z ≤ 120) (htww : tww ≤ 6) (htkk : tkk ≤ 6) (h_1 : r_1 = (bAt fb z k)) (h_2 : r_2 = (kindX r_1)) (c_3 : r_2 = 0) (hF_26_0 : (¬ (1 : Int32) = 0 → ¬ fn_26 = 0)) (hF_26_1 : (¬ f = 0 → fn_26 = f)) (hF_26_2 : rF 1 (fp, f, k) = (fpn_26, fn_26, k)) (e_27 : v_27 = (k + 1)) (e_28 : v_28 = (tv0 - 1)) (hF_29_0 : (fn_29 = 0 → fn_26 = 0)) (hF_29_1 : rN fb z 0 v_28 (fpn_26, fn_26, v_27) = (fpn_29, fn_29, kn_29)) (h_29 : r_29 = (rV fb z 0 v_28 v_27)) (hF_30_0 : (fn_30 = 0 → fn_29 = 0 ∧ bAt fb z kn_29 = 44)) (hF_30_1 : rB fb z 44 (fpn_29, fn_29, kn_29) = (fpn_30, fn_30, kn_30)) (hF_31_0 : (fn_31 = 0 → fn_30 = 0)) (hF_31_1 : rN fb z 1 20 (fpn_30, fn_30, kn_30) = (fpn_31, fn_31, kn_31)) (h_31 : r_31 = (rV fb z 1 20 kn_30)) (hF_32_0 : (fn_32 = 0 → fn_31 = 0 ∧ bAt fb z kn_31 = 59)) (hF_32_1 : rB fb z 59 (fpn_31, fn_31, kn_31) = (fpn_32, fn_32, kn_32)) (c_33 : ¬ (fn_32 = 0)) : xS fb z tv0 ((fp, f, k), tkk, tg2, tg3, tg4, tg5) = ((fpn_32, fn_32, kn_32), tkk, tg2, tg3, tg4, tg5) := by
  first
  | omega
  | (simp only [xS, xSc, xSb, xSa, xS0]; grind)
theorem lf_X6_readSound_13 {z : Nat} {fp : Int32} {f : Int32} {k : Int32} {fb : Nat → Int32} {tv0 : Int32} {thh : Nat} {tww : Nat} {tkk : Nat} {r_1 : Int32} {r_2 : Int32} {fpn_26 : Int32} {fn_26 : Int32} {v_27 : Int32} {v_28 : Int32} {fpn_29 : Int32} {fn_29 : Int32} {kn_29 : Int32} {r_29 : Int32} {fpn_30 : Int32} {fn_30 : Int32} {kn_30 : Int32} {fpn_31 : Int32} {fn_31 : Int32} {kn_31 : Int32} {r_31 : Int32} {fpn_32 : Int32} {fn_32 : Int32} {kn_32 : Int32} (thb : thh ≤ 999) (hz : z ≤ 120) (htww : tww ≤ 6) (htkk : tkk ≤ 6) (h_1 : r_1 = (bAt fb z k)) (h_2 : r_2 = (kindX r_1)) (c_3 : r_2 = 0) (hF_26_0 : (¬ (1 : Int32) = 0 → ¬ fn_26 = 0)) (hF_26_1 : (¬ f = 0 → fn_26 = f)) (hF_26_2 : rF 1 (fp, f, k) = (fpn_26, fn_26, k)) (e_27 : v_27 = (k + 1)) (e_28 : v_28 = (tv0 - 1)) (hF_29_0 : (fn_29 = 0 → fn_26 = 0)) (hF_29_1 : rN fb z 0 v_28 (fpn_26, fn_26, v_27) = (fpn_29, fn_29, kn_29)) (h_29 : r_29 = (rV fb z 0 v_28 v_27)) (hF_30_0 : (fn_30 = 0 → fn_29 = 0 ∧ bAt fb z kn_29 = 44)) (hF_30_1 : rB fb z 44 (fpn_29, fn_29, kn_29) = (fpn_30, fn_30, kn_30)) (hF_31_0 : (fn_31 = 0 → fn_30 = 0)) (hF_31_1 : rN fb z 1 20 (fpn_30, fn_30, kn_30) = (fpn_31, fn_31, kn_31)) (h_31 : r_31 = (rV fb z 1 20 kn_30)) (hF_32_0 : (fn_32 = 0 → fn_31 = 0 ∧ bAt fb z kn_31 = 59)) (hF_32_1 : rB fb z 59 (fpn_31, fn_31, kn_31) = (fpn_32, fn_32, kn_32)) (c_33 : fn_32 = 0) : tkk < 6 := by
  grind
theorem lf_X6_readSound_14 {z : Nat} {fp : Int32} {f : Int32} {k : Int32} {fb : Nat → Int32} {tv0 : Int32} {thh : Nat} {tww : Nat} {tkk : Nat} {tg2 : Nat → Int32} {tg3 : Nat → Int32} {tg4 : Nat → Int32} {tg5 : Nat → Int32} {r_1 : Int32} {r_2 : Int32} {fpn_26 : Int32} {fn_26 : Int32} {v_27 : Int32} {v_28 : Int32} {fpn_29 : Int32} {fn_29 : Int32} {kn_29 : Int32} {r_29 : Int32} {fpn_30 : Int32} {fn_30 : Int32} {kn_30 : Int32} {fpn_31 : Int32} {fn_31 : Int32} {kn_31 : Int32} {r_31 : Int32} {fpn_32 : Int32} {fn_32 : Int32} {kn_32 : Int32} {g_34 : Nat → Int32} {g3n_35 : Nat → Int32} {g4n_35 : Nat → Int32} {g5n_35 : Nat → Int32} (thb : thh ≤ 999) (hz : z ≤ 120) (htww : tww ≤ 6) (htkk : tkk ≤ 6) (h_1 : r_1 = (bAt fb z k)) (h_2 : r_2 = (kindX r_1)) (c_3 : r_2 = 0) (hF_26_0 : (¬ (1 : Int32) = 0 → ¬ fn_26 = 0)) (hF_26_1 : (¬ f = 0 → fn_26 = f)) (hF_26_2 : rF 1 (fp, f, k) = (fpn_26, fn_26, k)) (e_27 : v_27 = (k + 1)) (e_28 : v_28 = (tv0 - 1)) (hF_29_0 : (fn_29 = 0 → fn_26 = 0)) (hF_29_1 : rN fb z 0 v_28 (fpn_26, fn_26, v_27) = (fpn_29, fn_29, kn_29)) (h_29 : r_29 = (rV fb z 0 v_28 v_27)) (hF_30_0 : (fn_30 = 0 → fn_29 = 0 ∧ bAt fb z kn_29 = 44)) (hF_30_1 : rB fb z 44 (fpn_29, fn_29, kn_29) = (fpn_30, fn_30, kn_30)) (hF_31_0 : (fn_31 = 0 → fn_30 = 0)) (hF_31_1 : rN fb z 1 20 (fpn_30, fn_30, kn_30) = (fpn_31, fn_31, kn_31)) (h_31 : r_31 = (rV fb z 1 20 kn_30)) (hF_32_0 : (fn_32 = 0 → fn_31 = 0 ∧ bAt fb z kn_31 = 59)) (hF_32_1 : rB fb z 59 (fpn_31, fn_31, kn_31) = (fpn_32, fn_32, kn_32)) (c_33 : fn_32 = 0) (hw6 : tkk < 6) (hu_34 : g_34 = upd tg2 tkk r_2) (hF_35_0 : g3n_35 = upd tg3 tkk r_29) (hF_35_1 : g4n_35 = upd tg4 tkk r_31) (hF_35_2 : g5n_35 = upd tg5 tkk 0) : (tkk + 1) ≤ 6 := by
  first
  | omega
  | (simp only [xS, xSc, xSb, xSa, xS0]; grind)
theorem lf_X6_readSound_15 {z : Nat} {fp : Int32} {f : Int32} {k : Int32} {fb : Nat → Int32} {tv0 : Int32} {thh : Nat} {tww : Nat} {tkk : Nat} {tg2 : Nat → Int32} {tg3 : Nat → Int32} {tg4 : Nat → Int32} {tg5 : Nat → Int32} {r_1 : Int32} {r_2 : Int32} {fpn_26 : Int32} {fn_26 : Int32} {v_27 : Int32} {v_28 : Int32} {fpn_29 : Int32} {fn_29 : Int32} {kn_29 : Int32} {r_29 : Int32} {fpn_30 : Int32} {fn_30 : Int32} {kn_30 : Int32} {fpn_31 : Int32} {fn_31 : Int32} {kn_31 : Int32} {r_31 : Int32} {fpn_32 : Int32} {fn_32 : Int32} {kn_32 : Int32} {g_34 : Nat → Int32} {g3n_35 : Nat → Int32} {g4n_35 : Nat → Int32} {g5n_35 : Nat → Int32} (thb : thh ≤ 999) (hz : z ≤ 120) (htww : tww ≤ 6) (htkk : tkk ≤ 6) (h_1 : r_1 = (bAt fb z k)) (h_2 : r_2 = (kindX r_1)) (c_3 : r_2 = 0) (hF_26_0 : (¬ (1 : Int32) = 0 → ¬ fn_26 = 0)) (hF_26_1 : (¬ f = 0 → fn_26 = f)) (hF_26_2 : rF 1 (fp, f, k) = (fpn_26, fn_26, k)) (e_27 : v_27 = (k + 1)) (e_28 : v_28 = (tv0 - 1)) (hF_29_0 : (fn_29 = 0 → fn_26 = 0)) (hF_29_1 : rN fb z 0 v_28 (fpn_26, fn_26, v_27) = (fpn_29, fn_29, kn_29)) (h_29 : r_29 = (rV fb z 0 v_28 v_27)) (hF_30_0 : (fn_30 = 0 → fn_29 = 0 ∧ bAt fb z kn_29 = 44)) (hF_30_1 : rB fb z 44 (fpn_29, fn_29, kn_29) = (fpn_30, fn_30, kn_30)) (hF_31_0 : (fn_31 = 0 → fn_30 = 0)) (hF_31_1 : rN fb z 1 20 (fpn_30, fn_30, kn_30) = (fpn_31, fn_31, kn_31)) (h_31 : r_31 = (rV fb z 1 20 kn_30)) (hF_32_0 : (fn_32 = 0 → fn_31 = 0 ∧ bAt fb z kn_31 = 59)) (hF_32_1 : rB fb z 59 (fpn_31, fn_31, kn_31) = (fpn_32, fn_32, kn_32)) (c_33 : fn_32 = 0) (hw6 : tkk < 6) (hu_34 : g_34 = upd tg2 tkk r_2) (hF_35_0 : g3n_35 = upd tg3 tkk r_29) (hF_35_1 : g4n_35 = upd tg4 tkk r_31) (hF_35_2 : g5n_35 = upd tg5 tkk 0) : xS fb z tv0 ((fp, f, k), tkk, tg2, tg3, tg4, tg5) = ((fpn_32, fn_32, kn_32), (tkk + 1), g_34, g3n_35, g4n_35, g5n_35) := by
  first
  | omega
  | (simp only [xS, xSc, xSb, xSa, xS0]; grind)
set_option maxHeartbeats 4000000 in
set_option maxRecDepth 100000 in
theorem r_X6_readSound (l : Launch) (dC : Nat → ClassId) (dI : Nat → Nat → Nat) (cI cZ cL cJ : ClassId) (sz : Nat) (h : Nat) (bs : Nat) (td : Nat) (z : Nat) (fp : Int32) (f : Int32) (k : Int32) (fb : Nat → Int32) (tv0 : Int32) (tv1 : Int32) (tv2 : Int32) (tv3 : Int32) (tv5 : Int32) (thh : Nat) (tww : Nat) (tkk : Nat) (tb1 : Nat) (tb2 : Nat) (tb3 : Nat) (tb4 : Nat) (tb5 : Nat) (tg1 : Nat → Int32) (tg2 : Nat → Int32) (tg3 : Nat → Int32) (tg4 : Nat → Int32) (tg5 : Nat → Int32) (thb : thh ≤ 999) (hz : z ≤ 120) (htww : tww ≤ 6) (htkk : tkk ≤ 6) : Met l yX6_readSound wsX6_readSound ({ frames := 3, cells := 0, slots := 0, locals := 67 }) (va_Pc [.ref h] (fun U => U.heap.size = sz ∧ va_P (dC, dI) vwCl [(xo_6_ririii h bs (nI z) td fp f k), (xI bs cI 120 fb), (xo_3_iiiiiiiirrrrr td tv0 tv1 tv2 tv3 (nI thh) tv5 (nI tww) (nI tkk) tb1 tb2 tb3 tb4 tb5), (xI tb1 cI 6 tg1), (xI tb2 cI 6 tg2), (xI tb3 cI 6 tg3), (xI tb4 cI 6 tg4), (xI tb5 cI 6 tg5)] U.heap ∧ va_K (dC, dI) vwCl [(cI, .int), (cZ, .boolean), (cL, .object RX3), (cJ, .array .int)] U ∧ va_D (fun _ => True) [(xo_6_ririii h bs (nI z) td fp f k), (xI bs cI 120 fb), (xo_3_iiiiiiiirrrrr td tv0 tv1 tv2 tv3 (nI thh) tv5 (nI tww) (nI tkk) tb1 tb2 tb3 tb4 tb5), (xI tb1 cI 6 tg1), (xI tb2 cI 6 tg2), (xI tb3 cI 6 tg3), (xI tb4 cI 6 tg4), (xI tb5 cI 6 tg5)])) (va_Qv (fun (_ : Unit) => True) (fun (_ : Unit) t => ∃ (fpn : Int32) (fn : Int32) (kn : Int32) (tn : Nat) (tg2n : Nat → Int32) (tg3n : Nat → Int32) (tg4n : Nat → Int32) (tg5n : Nat → Int32), va_P (dC, dI) vwCl [(xo_6_ririii h bs (nI z) td fpn fn kn), (xI bs cI 120 fb), (xo_3_iiiiiiiirrrrr td tv0 tv1 tv2 tv3 (nI thh) tv5 (nI tww) (nI tn) tb1 tb2 tb3 tb4 tb5), (xI tb1 cI 6 tg1), (xI tb2 cI 6 tg2n), (xI tb3 cI 6 tg3n), (xI tb4 cI 6 tg4n), (xI tb5 cI 6 tg5n)] t.heap ∧ va_D (va_A [(xo_6_ririii h bs (nI z) td fp f k), (xI bs cI 120 fb), (xo_3_iiiiiiiirrrrr td tv0 tv1 tv2 tv3 (nI thh) tv5 (nI tww) (nI tkk) tb1 tb2 tb3 tb4 tb5), (xI tb1 cI 6 tg1), (xI tb2 cI 6 tg2), (xI tb3 cI 6 tg3), (xI tb4 cI 6 tg4), (xI tb5 cI 6 tg5)] sz) [(xo_6_ririii h bs (nI z) td fpn fn kn), (xI bs cI 120 fb), (xo_3_iiiiiiiirrrrr td tv0 tv1 tv2 tv3 (nI thh) tv5 (nI tww) (nI tn) tb1 tb2 tb3 tb4 tb5), (xI tb1 cI 6 tg1), (xI tb2 cI 6 tg2n), (xI tb3 cI 6 tg3n), (xI tb4 cI 6 tg4n), (xI tb5 cI 6 tg5n)] ∧ tn ≤ 6 ∧ xS fb z tv0 ((fp, f, k), tkk, tg2, tg3, tg4, tg5) = ((fpn, fn, kn), tn, tg2n, tg3n, tg4n, tg5n)) (va_A [(xo_6_ririii h bs (nI z) td fp f k), (xI bs cI 120 fb), (xo_3_iiiiiiiirrrrr td tv0 tv1 tv2 tv3 (nI thh) tv5 (nI tww) (nI tkk) tb1 tb2 tb3 tb4 tb5), (xI tb1 cI 6 tg1), (xI tb2 cI 6 tg2), (xI tb3 cI 6 tg3), (xI tb4 cI 6 tg4), (xI tb5 cI 6 tg5)] sz)) 0 0 (va_A [(xo_6_ririii h bs (nI z) td fp f k), (xI bs cI 120 fb), (xo_3_iiiiiiiirrrrr td tv0 tv1 tv2 tv3 (nI thh) tv5 (nI tww) (nI tkk) tb1 tb2 tb3 tb4 tb5), (xI tb1 cI 6 tg1), (xI tb2 cI 6 tg2), (xI tb3 cI 6 tg3), (xI tb4 cI 6 tg4), (xI tb5 cI 6 tg5)] sz) := by
  refine Met.ofW (cc := cX6_readSound) (maxL := 4) (ret := none) (by decide) rfl ?_
  intro p e s m args below meth c s₁ B hml hv
  obtain ⟨rfl, hsz, hP, hK, hD0⟩ := hv
  have hx := B.exec
  have hb := B.bytes
  have hr := B.returns
  have hts := atoms_spec (ws := wsX6_readSound) B.pre
  have hown : s.vm.findClass RX6 = some m.cls := findClass_of_methodNamed B.named
  have hlocks := B.notSynchronized
  subst hsz
  have hD := hD0.self (sz := s.heap.size)
  generalize hAe : va_A [(xo_6_ririii h bs (nI z) td fp f k), (xI bs cI 120 fb), (xo_3_iiiiiiiirrrrr td tv0 tv1 tv2 tv3 (nI thh) tv5 (nI tww) (nI tkk) tb1 tb2 tb3 tb4 tb5), (xI tb1 cI 6 tg1), (xI tb2 cI 6 tg2), (xI tb3 cI 6 tg3), (xI tb4 cI 6 tg4), (xI tb5 cI 6 tg5)] s.heap.size = A at hD ⊢
  have hA : ∀ q : Nat, s.heap.size ≤ q → A q := fun q h => by rw [← hAe]; exact Or.inr h
  have hS : va_S A s.heap s.heap [] := va_S.rf
  have hP : va_P (dC, dI) vwCl [(xo_6_ririii h bs (nI z) td fp f k), (xI bs cI 120 fb), (xo_3_iiiiiiiirrrrr td tv0 tv1 tv2 tv3 (nI thh) tv5 (nI tww) (nI tkk) tb1 tb2 tb3 tb4 tb5), (xI tb1 cI 6 tg1), (xI tb2 cI 6 tg2), (xI tb3 cI 6 tg3), (xI tb4 cI 6 tg4), (xI tb5 cI 6 tg5)] s.heap := hP
  have hl := lv_entry ([.ref h]) (n := 4) (Nat.le_of_ble_eq_true rfl)
  rw [lg_entry_eq]
  generalize (lg_sl ([.ref h]) ++ List.replicate (4 - (lg_sl ([.ref h])).length) Slot.unset).toArray = ls at hl ⊢
  have hl : lv_has ls 4 [(0, .ref h)] := hl
  refine lv_aload_n hx hb dX6_readSound_0 rfl (lv_at hl 0 rfl) ?_
  refine lv_aload_n hx hb dX6_readSound_1 rfl (lv_at hl 0 rfl) ?_
  refine va_get (D := (dC, dI)) (ci := 6) (v := .int k) (C := RX6) (T := TX6) (N := 6) hx hb hts i_X6_readSound_X6 hown hK hP 0 rfl rfl 5 (by decide) (hts _ mx_X6_readSound_1) (fun _ h9 => h9) rfl dX6_readSound_2 ?_
  have hPc_1 := hP.sub (ws' := [(xo_6_ririii h bs (nI z) td fp f k), (xI bs cI 120 fb)]) [0, 1] rfl
  refine vp_callSi (W.runV (As := [.int k]) (rest := []) ⟨hx, hb, hml, hown, hts⟩ (r_X6_byteAt l dC dI cI cZ cL cJ h bs td z fp f k fb k (hz)) (cwV 1 hts gX6_readSound_X6_byteAt rfl rfl rfl (by decide +kernel) ⟨Nat.le_of_ble_eq_true rfl, Nat.le_of_ble_eq_true rfl⟩) (pvP 6 0 hK hP rfl rfl hPc_1) rfl rfl hl.1 rfl (lv_room (Nat.le_of_ble_eq_true rfl)) dX6_readSound_5 ⟨Nat.le_of_ble_eq_true rfl, Nat.le_of_ble_eq_true rfl⟩) (fun r_1 h_1 => ?_)
  have hPc_2 := hP.sub (ws' := []) [] rfl
  refine vp_callSi (W.runS (As := [.int r_1]) (rest := []) ⟨hx, hb, hml, hown, hts⟩ (r_X6_kindOf l dC dI cI cZ cL cJ r_1 ) (va_cwS 1 hts gX6_readSound_X6_kindOf rfl rfl rfl (by decide +kernel) ⟨Nat.le_of_ble_eq_true rfl, Nat.le_of_ble_eq_true rfl⟩) (psP hK hPc_2) rfl rfl hl.1 rfl (lv_room (Nat.le_of_ble_eq_true rfl)) dX6_readSound_8 ⟨Nat.le_of_ble_eq_true rfl, Nat.le_of_ble_eq_true rfl⟩) (fun r_2 h_2 => ?_)
  refine lv_istore_n (lv' := [(1, .int r_2), (0, .ref h)]) hx hb dX6_readSound_11 rfl hl (by decide) rfl (fun ls hl => ?_)
  refine lv_iload_n hx hb dX6_readSound_12 rfl (lv_at hl 0 rfl) ?_
  refine lv_if_ne (tgt := 24) hx hb dX6_readSound_13 (by decide) (fun c_3 => ?_) (fun c_3 => ?_)
  · skip
    refine lv_aload_n hx hb dX6_readSound_24 rfl (lv_at hl 1 rfl) ?_
    refine va_get (D := (dC, dI)) (ci := 6) (v := .ref td) (C := RX6) (T := TX6) (N := 6) hx hb hts i_X6_readSound_X6 hown hK hP 0 rfl rfl 2 (by decide) (hts _ mx_X6_readSound_2) (fun _ h9 => h9) rfl dX6_readSound_25 ?_
    refine va_get (D := (dC, dI)) (ci := 3) (v := .int (nI tkk)) (C := RX3) (T := TX3) (N := 13) hx hb hts i_X6_readSound_X3 hown hK hP 2 rfl rfl 7 (by decide) (hts _ mx_X6_readSound_3) (fun _ h9 => h9) rfl dX6_readSound_28 ?_
    refine lv_bipush (v := 6) hx hb dX6_readSound_31 (by decide) ?_
    refine lv_icmp_lt (tgt := 41) hx hb dX6_readSound_33 (by decide) (fun c_4 => ?_) (fun c_4 => ?_)
    · have c_4 : tkk < 6 := (nI_ltI (a := tkk) (b := 6) (by omega) (by omega)).mp c_4
      refine lv_aload_n hx hb dX6_readSound_41 rfl (lv_at hl 1 rfl) ?_
      refine lv_dup hx hb dX6_readSound_42 rfl ?_
      refine va_get (D := (dC, dI)) (ci := 6) (v := .int k) (C := RX6) (T := TX6) (N := 6) hx hb hts i_X6_readSound_X6 hown hK hP 0 rfl rfl 5 (by decide) (hts _ mx_X6_readSound_1) (fun _ h9 => h9) rfl dX6_readSound_43 ?_
      refine lv_iconst (v := 1) hx hb dX6_readSound_46 (by decide) ?_
      refine lv_iadd hx hb dX6_readSound_47 ?_
      refine lv_topi (fun v_5 e_5 => ?_)
      refine va_put (D := (dC, dI)) (ci := 6) (v := .int v_5) (ty := .int) (C := RX6) (T := TX6) (N := 6) hx hb hts i_X6_readSound_X6 tyX6 tyX6_ok nmX6 hown hK hP hD hS 0 rfl rfl 5 (by decide) (hts _ mx_X6_readSound_1) (fun _ h9 => h9) rfl (by decide +kernel) rfl rfl (Nat.le_of_ble_eq_true rfl) dX6_readSound_48 (fun H locs hP hD hS => ?_)
      have hP : va_P (dC, dI) vwCl [(xo_6_ririii h bs (nI z) td fp f v_5), (xI bs cI 120 fb), (xo_3_iiiiiiiirrrrr td tv0 tv1 tv2 tv3 (nI thh) tv5 (nI tww) (nI tkk) tb1 tb2 tb3 tb4 tb5), (xI tb1 cI 6 tg1), (xI tb2 cI 6 tg2), (xI tb3 cI 6 tg3), (xI tb4 cI 6 tg4), (xI tb5 cI 6 tg5)] H := hP
      have hD := dto hP hD
      refine lv_aload_n hx hb dX6_readSound_51 rfl (lv_at hl 1 rfl) ?_
      refine lv_iconst (v := 0) hx hb dX6_readSound_52 (by decide) ?_
      refine lv_aload_n hx hb dX6_readSound_53 rfl (lv_at hl 1 rfl) ?_
      refine va_get (D := (dC, dI)) (ci := 6) (v := .ref td) (C := RX6) (T := TX6) (N := 6) hx hb hts i_X6_readSound_X6 hown hK hP 0 rfl rfl 2 (by decide) (hts _ mx_X6_readSound_2) (fun _ h9 => h9) rfl dX6_readSound_54 ?_
      refine va_get (D := (dC, dI)) (ci := 3) (v := .int tv0) (C := RX3) (T := TX3) (N := 13) hx hb hts i_X6_readSound_X3 hown hK hP 2 rfl rfl 0 (by decide) (hts _ mx_X6_readSound_4) (fun _ h9 => h9) rfl dX6_readSound_57 ?_
      refine lv_iconst (v := 1) hx hb dX6_readSound_60 (by decide) ?_
      refine lv_isub hx hb dX6_readSound_61 ?_
      refine lv_topi (fun v_6 e_6 => ?_)
      have hc_7 := cutW (wc := [(xo_6_ririii h bs (nI z) td fp f v_5), (xI bs cI 120 fb)]) hP hD hS hA [0, 1] (by decide +kernel) rfl
      refine va_calli (va_runV (As := [.int 0, .int v_6]) (rest := []) ⟨hx, hb, hml, hown, hts⟩ (r_X6_readNumber l dC dI cI cZ cL cJ H.size h bs td z fp f v_5 fb 0 v_6 (hz)) (cwV 2 hts gX6_readSound_X6_readNumber rfl rfl rfl (by decide +kernel) ⟨Nat.le_of_ble_eq_true rfl, Nat.le_of_ble_eq_true rfl⟩) (pvW 6 0 hK hP rfl rfl hc_7) rfl rfl hl.1 rfl (lv_room (Nat.le_of_ble_eq_true rfl)) dX6_readSound_62 ⟨Nat.le_of_ble_eq_true rfl, Nat.le_of_ble_eq_true rfl⟩) hS (fun q _ h => hc_7.2.2 q h) hc_7.2.2 (fun r_7 u_7 t_7 H1 locs ht hvm h_7 hB hz1 hk1 hS => ?_)
      refine xl_3_4 hB (fun fpn_7 fn_7 kn_7 hP1 hD1 hF_7_0 hF_7_1 => ?_)
      clear hB
      rw [ht] at hP1
      obtain ⟨hP, hD⟩ := va_join (wr := [(xo_3_iiiiiiiirrrrr td tv0 tv1 tv2 tv3 (nI thh) tv5 (nI tww) (nI tkk) tb1 tb2 tb3 tb4 tb5), (xI tb1 cI 6 tg1), (xI tb2 cI 6 tg2), (xI tb3 cI 6 tg3), (xI tb4 cI 6 tg4), (xI tb5 cI 6 tg5)]) (w1 := [(xo_6_ririii h bs (nI z) td fpn_7 fn_7 kn_7), (xI bs cI 120 fb)]) hP hD [0, 1] [2, 3, 4, 5, 6, 7] rfl rfl (by decide +kernel) (by decide +kernel) hk1 hc_7.2.2 hP1 hD1
      generalize H1 = H at hP hS ⊢
      have hP : va_P (dC, dI) vwCl [(xo_3_iiiiiiiirrrrr td tv0 tv1 tv2 tv3 (nI thh) tv5 (nI tww) (nI tkk) tb1 tb2 tb3 tb4 tb5), (xI tb1 cI 6 tg1), (xI tb2 cI 6 tg2), (xI tb3 cI 6 tg3), (xI tb4 cI 6 tg4), (xI tb5 cI 6 tg5), (xo_6_ririii h bs (nI z) td fpn_7 fn_7 kn_7), (xI bs cI 120 fb)] H := hP
      have hD := dto hP hD
      refine lv_istore_n (lv' := [(2, .int r_7), (1, .int r_2), (0, .ref h)]) hx hb dX6_readSound_65 rfl hl (by decide) rfl (fun ls hl => ?_)
      refine lv_aload_n hx hb dX6_readSound_66 rfl (lv_at hl 2 rfl) ?_
      refine lv_bipush (v := 44) hx hb dX6_readSound_67 (by decide) ?_
      have hc_8 := cutW (wc := [(xo_6_ririii h bs (nI z) td fpn_7 fn_7 kn_7), (xI bs cI 120 fb)]) hP hD hS hA [6, 7] (by decide +kernel) rfl
      refine va_callv (va_runV (As := [.int 44]) (rest := []) ⟨hx, hb, hml, hown, hts⟩ (r_X6_readByte l dC dI cI cZ cL cJ H.size h bs td z fpn_7 fn_7 kn_7 fb 44 (hz)) (cwV 1 hts gX6_readSound_X6_readByte rfl rfl rfl (by decide +kernel) ⟨Nat.le_of_ble_eq_true rfl, Nat.le_of_ble_eq_true rfl⟩) (pvW 6 6 hK hP rfl rfl hc_8) rfl rfl hl.1 rfl (lv_room (Nat.le_of_ble_eq_true rfl)) dX6_readSound_69 ⟨Nat.le_of_ble_eq_true rfl, Nat.le_of_ble_eq_true rfl⟩) hS (fun q _ h => hc_8.2.2 q h) hc_8.2.2 (fun u_8 t_8 H1 locs ht hvm h_8 hB hz1 hk1 hS => ?_)
      refine xl_3_4 hB (fun fpn_8 fn_8 kn_8 hP1 hD1 hF_8_0 hF_8_1 => ?_)
      clear hB
      rw [ht] at hP1
      obtain ⟨hP, hD⟩ := va_join (wr := [(xo_3_iiiiiiiirrrrr td tv0 tv1 tv2 tv3 (nI thh) tv5 (nI tww) (nI tkk) tb1 tb2 tb3 tb4 tb5), (xI tb1 cI 6 tg1), (xI tb2 cI 6 tg2), (xI tb3 cI 6 tg3), (xI tb4 cI 6 tg4), (xI tb5 cI 6 tg5)]) (w1 := [(xo_6_ririii h bs (nI z) td fpn_8 fn_8 kn_8), (xI bs cI 120 fb)]) hP hD [6, 7] [0, 1, 2, 3, 4, 5] rfl rfl (by decide +kernel) (by decide +kernel) hk1 hc_8.2.2 hP1 hD1
      generalize H1 = H at hP hS ⊢
      have hP : va_P (dC, dI) vwCl [(xo_3_iiiiiiiirrrrr td tv0 tv1 tv2 tv3 (nI thh) tv5 (nI tww) (nI tkk) tb1 tb2 tb3 tb4 tb5), (xI tb1 cI 6 tg1), (xI tb2 cI 6 tg2), (xI tb3 cI 6 tg3), (xI tb4 cI 6 tg4), (xI tb5 cI 6 tg5), (xo_6_ririii h bs (nI z) td fpn_8 fn_8 kn_8), (xI bs cI 120 fb)] H := hP
      have hD := dto hP hD
      refine lv_aload_n hx hb dX6_readSound_72 rfl (lv_at hl 2 rfl) ?_
      refine lv_iconst (v := 1) hx hb dX6_readSound_73 (by decide) ?_
      refine lv_bipush (v := 20) hx hb dX6_readSound_74 (by decide) ?_
      have hc_9 := cutW (wc := [(xo_6_ririii h bs (nI z) td fpn_8 fn_8 kn_8), (xI bs cI 120 fb)]) hP hD hS hA [6, 7] (by decide +kernel) rfl
      refine va_calli (va_runV (As := [.int 1, .int 20]) (rest := []) ⟨hx, hb, hml, hown, hts⟩ (r_X6_readNumber l dC dI cI cZ cL cJ H.size h bs td z fpn_8 fn_8 kn_8 fb 1 20 (hz)) (cwV 2 hts gX6_readSound_X6_readNumber rfl rfl rfl (by decide +kernel) ⟨Nat.le_of_ble_eq_true rfl, Nat.le_of_ble_eq_true rfl⟩) (pvW 6 6 hK hP rfl rfl hc_9) rfl rfl hl.1 rfl (lv_room (Nat.le_of_ble_eq_true rfl)) dX6_readSound_76 ⟨Nat.le_of_ble_eq_true rfl, Nat.le_of_ble_eq_true rfl⟩) hS (fun q _ h => hc_9.2.2 q h) hc_9.2.2 (fun r_9 u_9 t_9 H1 locs ht hvm h_9 hB hz1 hk1 hS => ?_)
      refine xl_3_4 hB (fun fpn_9 fn_9 kn_9 hP1 hD1 hF_9_0 hF_9_1 => ?_)
      clear hB
      rw [ht] at hP1
      obtain ⟨hP, hD⟩ := va_join (wr := [(xo_3_iiiiiiiirrrrr td tv0 tv1 tv2 tv3 (nI thh) tv5 (nI tww) (nI tkk) tb1 tb2 tb3 tb4 tb5), (xI tb1 cI 6 tg1), (xI tb2 cI 6 tg2), (xI tb3 cI 6 tg3), (xI tb4 cI 6 tg4), (xI tb5 cI 6 tg5)]) (w1 := [(xo_6_ririii h bs (nI z) td fpn_9 fn_9 kn_9), (xI bs cI 120 fb)]) hP hD [6, 7] [0, 1, 2, 3, 4, 5] rfl rfl (by decide +kernel) (by decide +kernel) hk1 hc_9.2.2 hP1 hD1
      generalize H1 = H at hP hS ⊢
      have hP : va_P (dC, dI) vwCl [(xo_3_iiiiiiiirrrrr td tv0 tv1 tv2 tv3 (nI thh) tv5 (nI tww) (nI tkk) tb1 tb2 tb3 tb4 tb5), (xI tb1 cI 6 tg1), (xI tb2 cI 6 tg2), (xI tb3 cI 6 tg3), (xI tb4 cI 6 tg4), (xI tb5 cI 6 tg5), (xo_6_ririii h bs (nI z) td fpn_9 fn_9 kn_9), (xI bs cI 120 fb)] H := hP
      have hD := dto hP hD
      refine lv_istore_n (lv' := [(3, .int r_9), (2, .int r_7), (1, .int r_2), (0, .ref h)]) hx hb dX6_readSound_79 rfl hl (by decide) rfl (fun ls hl => ?_)
      refine lv_aload_n hx hb dX6_readSound_80 rfl (lv_at hl 3 rfl) ?_
      refine lv_bipush (v := 59) hx hb dX6_readSound_81 (by decide) ?_
      have hc_10 := cutW (wc := [(xo_6_ririii h bs (nI z) td fpn_9 fn_9 kn_9), (xI bs cI 120 fb)]) hP hD hS hA [6, 7] (by decide +kernel) rfl
      refine va_callv (va_runV (As := [.int 59]) (rest := []) ⟨hx, hb, hml, hown, hts⟩ (r_X6_readByte l dC dI cI cZ cL cJ H.size h bs td z fpn_9 fn_9 kn_9 fb 59 (hz)) (cwV 1 hts gX6_readSound_X6_readByte rfl rfl rfl (by decide +kernel) ⟨Nat.le_of_ble_eq_true rfl, Nat.le_of_ble_eq_true rfl⟩) (pvW 6 6 hK hP rfl rfl hc_10) rfl rfl hl.1 rfl (lv_room (Nat.le_of_ble_eq_true rfl)) dX6_readSound_83 ⟨Nat.le_of_ble_eq_true rfl, Nat.le_of_ble_eq_true rfl⟩) hS (fun q _ h => hc_10.2.2 q h) hc_10.2.2 (fun u_10 t_10 H1 locs ht hvm h_10 hB hz1 hk1 hS => ?_)
      refine xl_3_4 hB (fun fpn_10 fn_10 kn_10 hP1 hD1 hF_10_0 hF_10_1 => ?_)
      clear hB
      rw [ht] at hP1
      obtain ⟨hP, hD⟩ := va_join (wr := [(xo_3_iiiiiiiirrrrr td tv0 tv1 tv2 tv3 (nI thh) tv5 (nI tww) (nI tkk) tb1 tb2 tb3 tb4 tb5), (xI tb1 cI 6 tg1), (xI tb2 cI 6 tg2), (xI tb3 cI 6 tg3), (xI tb4 cI 6 tg4), (xI tb5 cI 6 tg5)]) (w1 := [(xo_6_ririii h bs (nI z) td fpn_10 fn_10 kn_10), (xI bs cI 120 fb)]) hP hD [6, 7] [0, 1, 2, 3, 4, 5] rfl rfl (by decide +kernel) (by decide +kernel) hk1 hc_10.2.2 hP1 hD1
      generalize H1 = H at hP hS ⊢
      have hP : va_P (dC, dI) vwCl [(xo_3_iiiiiiiirrrrr td tv0 tv1 tv2 tv3 (nI thh) tv5 (nI tww) (nI tkk) tb1 tb2 tb3 tb4 tb5), (xI tb1 cI 6 tg1), (xI tb2 cI 6 tg2), (xI tb3 cI 6 tg3), (xI tb4 cI 6 tg4), (xI tb5 cI 6 tg5), (xo_6_ririii h bs (nI z) td fpn_10 fn_10 kn_10), (xI bs cI 120 fb)] H := hP
      have hD := dto hP hD
      refine lv_aload_n hx hb dX6_readSound_86 rfl (lv_at hl 3 rfl) ?_
      refine va_get (D := (dC, dI)) (ci := 6) (v := .int fn_10) (C := RX6) (T := TX6) (N := 6) hx hb hts i_X6_readSound_X6 hown hK hP 6 rfl rfl 4 (by decide) (hts _ mx_X6_readSound_5) (fun _ h9 => h9) rfl dX6_readSound_87 ?_
      refine lv_if_ne (tgt := 138) hx hb dX6_readSound_90 (by decide) (fun c_11 => ?_) (fun c_11 => ?_)
      · skip
        have hX9 := cut2 (wc := [(xo_6_ririii h bs (nI z) td fpn_10 fn_10 kn_10), (xI bs cI 120 fb), (xo_3_iiiiiiiirrrrr td tv0 tv1 tv2 tv3 (nI thh) tv5 (nI tww) (nI tkk) tb1 tb2 tb3 tb4 tb5), (xI tb1 cI 6 tg1), (xI tb2 cI 6 tg2), (xI tb3 cI 6 tg3), (xI tb4 cI 6 tg4), (xI tb5 cI 6 tg5)]) hP hD [6, 7, 0, 1, 2, 3, 4, 5] (by decide +kernel) rfl
        exact W.vret hx hb hr (fun t ht hW => ⟨⟨(), rfl, trivial, ⟨fpn_10, fn_10, kn_10, tkk, tg2, tg3, tg4, tg5, va_Ht ht hX9.1, hX9.2, (lf_X6_readSound_1 thb hz htww htkk h_1 h_2 c_3 c_4 e_5 e_6 hF_7_0 hF_7_1 h_7 hF_8_0 hF_8_1 hF_9_0 hF_9_1 h_9 hF_10_0 hF_10_1 c_11), (lf_X6_readSound_2 thb hz htww htkk h_1 h_2 c_3 c_4 e_5 e_6 hF_7_0 hF_7_1 h_7 hF_8_0 hF_8_1 hF_9_0 hF_9_1 h_9 hF_10_0 hF_10_1 c_11)⟩⟩, hS.F ht⟩) hS.2.2 dX6_readSound_138
      · skip
        have hw6 : tkk < 6 := (lf_X6_readSound_3 thb hz htww htkk h_1 h_2 c_3 c_4 e_5 e_6 hF_7_0 hF_7_1 h_7 hF_8_0 hF_8_1 hF_9_0 hF_9_1 h_9 hF_10_0 hF_10_1 c_11)
        refine lv_aload_n hx hb dX6_readSound_93 rfl (lv_at hl 3 rfl) ?_
        refine va_get (D := (dC, dI)) (ci := 6) (v := .ref td) (C := RX6) (T := TX6) (N := 6) hx hb hts i_X6_readSound_X6 hown hK hP 6 rfl rfl 2 (by decide) (hts _ mx_X6_readSound_2) (fun _ h9 => h9) rfl dX6_readSound_94 ?_
        refine va_get (D := (dC, dI)) (ci := 3) (v := .ref tb2) (C := RX3) (T := TX3) (N := 13) hx hb hts i_X6_readSound_X3 hown hK hP 0 rfl rfl 9 (by decide) (hts _ mx_X6_readSound_6) (fun _ h9 => h9) rfl dX6_readSound_97 ?_
        refine lv_aload_n hx hb dX6_readSound_100 rfl (lv_at hl 3 rfl) ?_
        refine va_get (D := (dC, dI)) (ci := 6) (v := .ref td) (C := RX6) (T := TX6) (N := 6) hx hb hts i_X6_readSound_X6 hown hK hP 6 rfl rfl 2 (by decide) (hts _ mx_X6_readSound_2) (fun _ h9 => h9) rfl dX6_readSound_101 ?_
        refine va_get (D := (dC, dI)) (ci := 3) (v := .int (nI tkk)) (C := RX3) (T := TX3) (N := 13) hx hb hts i_X6_readSound_X3 hown hK hP 0 rfl rfl 7 (by decide) (hts _ mx_X6_readSound_3) (fun _ h9 => h9) rfl dX6_readSound_104 ?_
        refine lv_iload_n hx hb dX6_readSound_107 rfl (lv_at hl 2 rfl) ?_
        refine va_iast hx hb hK hP hD hS 2 0 rfl rfl (vp_in_nI (by omega) (by omega)) dX6_readSound_108 (fun H locs hP hD hS => ?_)
        generalize hg_12 : upd tg2 ((nI tkk) : Int32).toNatClampNeg r_2 = g_12 at hP hD
        have hu_12 : g_12 = upd tg2 tkk r_2 := (by rw [← hg_12, nI_clamp (by omega)])
        have hP : va_P (dC, dI) vwCl [(xo_3_iiiiiiiirrrrr td tv0 tv1 tv2 tv3 (nI thh) tv5 (nI tww) (nI tkk) tb1 tb2 tb3 tb4 tb5), (xI tb1 cI 6 tg1), (xI tb2 cI 6 g_12), (xI tb3 cI 6 tg3), (xI tb4 cI 6 tg4), (xI tb5 cI 6 tg5), (xo_6_ririii h bs (nI z) td fpn_10 fn_10 kn_10), (xI bs cI 120 fb)] H := hP
        have hD := dto hP hD
        refine lv_aload_n hx hb dX6_readSound_109 rfl (lv_at hl 3 rfl) ?_
        refine va_get (D := (dC, dI)) (ci := 6) (v := .ref td) (C := RX6) (T := TX6) (N := 6) hx hb hts i_X6_readSound_X6 hown hK hP 6 rfl rfl 2 (by decide) (hts _ mx_X6_readSound_2) (fun _ h9 => h9) rfl dX6_readSound_110 ?_
        refine lv_aload_n hx hb dX6_readSound_113 rfl (lv_at hl 3 rfl) ?_
        refine va_get (D := (dC, dI)) (ci := 6) (v := .ref td) (C := RX6) (T := TX6) (N := 6) hx hb hts i_X6_readSound_X6 hown hK hP 6 rfl rfl 2 (by decide) (hts _ mx_X6_readSound_2) (fun _ h9 => h9) rfl dX6_readSound_114 ?_
        refine va_get (D := (dC, dI)) (ci := 3) (v := .int (nI tkk)) (C := RX3) (T := TX3) (N := 13) hx hb hts i_X6_readSound_X3 hown hK hP 0 rfl rfl 7 (by decide) (hts _ mx_X6_readSound_3) (fun _ h9 => h9) rfl dX6_readSound_117 ?_
        refine lv_iload_n hx hb dX6_readSound_120 rfl (lv_at hl 1 rfl) ?_
        refine lv_iload_n hx hb dX6_readSound_121 rfl (lv_at hl 0 rfl) ?_
        have hc_13 := cutW (wc := [(xo_3_iiiiiiiirrrrr td tv0 tv1 tv2 tv3 (nI thh) tv5 (nI tww) (nI tkk) tb1 tb2 tb3 tb4 tb5), (xI tb1 cI 6 tg1), (xI tb2 cI 6 g_12), (xI tb3 cI 6 tg3), (xI tb4 cI 6 tg4), (xI tb5 cI 6 tg5)]) hP hD hS hA [0, 1, 2, 3, 4, 5] (by decide +kernel) rfl
        refine va_callv (va_runV (As := [.int (nI tkk), .int r_7, .int r_9]) (rest := []) ⟨hx, hb, hml, hown, hts⟩ (r_X3_letLoose l dC dI cI cZ cL cJ H.size td tv0 tv1 tv2 tv3 tv5 thh tww tkk tb1 tb2 tb3 tb4 tb5 tg1 g_12 tg3 tg4 tg5 tkk r_7 r_9 (by omega) (htww) (by omega) (by omega)) (cwV 3 hts gX6_readSound_X3_letLoose rfl rfl rfl (by decide +kernel) ⟨Nat.le_of_ble_eq_true rfl, Nat.le_of_ble_eq_true rfl⟩) (pvW 3 0 hK hP rfl rfl hc_13) rfl rfl hl.1 rfl (lv_room (Nat.le_of_ble_eq_true rfl)) dX6_readSound_122 ⟨Nat.le_of_ble_eq_true rfl, Nat.le_of_ble_eq_true rfl⟩) hS (fun q _ h => hc_13.2.2 q h) hc_13.2.2 (fun u_13 t_13 H1 locs ht hvm h_13 hB hz1 hk1 hS => ?_)
        refine xl_3_5 hB (fun g3n_13 g4n_13 g5n_13 hP1 hD1 hF_13_0 hF_13_1 hF_13_2 => ?_)
        clear hB
        rw [ht] at hP1
        obtain ⟨hP, hD⟩ := va_join (wr := [(xo_6_ririii h bs (nI z) td fpn_10 fn_10 kn_10), (xI bs cI 120 fb)]) (w1 := [(xo_3_iiiiiiiirrrrr td tv0 tv1 tv2 tv3 (nI thh) tv5 (nI tww) (nI tkk) tb1 tb2 tb3 tb4 tb5), (xI tb1 cI 6 tg1), (xI tb2 cI 6 g_12), (xI tb3 cI 6 g3n_13), (xI tb4 cI 6 g4n_13), (xI tb5 cI 6 g5n_13)]) hP hD [0, 1, 2, 3, 4, 5] [6, 7] rfl rfl (by decide +kernel) (by decide +kernel) hk1 hc_13.2.2 hP1 hD1
        generalize H1 = H at hP hS ⊢
        have hP : va_P (dC, dI) vwCl [(xo_6_ririii h bs (nI z) td fpn_10 fn_10 kn_10), (xI bs cI 120 fb), (xo_3_iiiiiiiirrrrr td tv0 tv1 tv2 tv3 (nI thh) tv5 (nI tww) (nI tkk) tb1 tb2 tb3 tb4 tb5), (xI tb1 cI 6 tg1), (xI tb2 cI 6 g_12), (xI tb3 cI 6 g3n_13), (xI tb4 cI 6 g4n_13), (xI tb5 cI 6 g5n_13)] H := hP
        have hD := dto hP hD
        refine lv_aload_n hx hb dX6_readSound_125 rfl (lv_at hl 3 rfl) ?_
        refine va_get (D := (dC, dI)) (ci := 6) (v := .ref td) (C := RX6) (T := TX6) (N := 6) hx hb hts i_X6_readSound_X6 hown hK hP 0 rfl rfl 2 (by decide) (hts _ mx_X6_readSound_2) (fun _ h9 => h9) rfl dX6_readSound_126 ?_
        refine lv_dup hx hb dX6_readSound_129 rfl ?_
        refine va_get (D := (dC, dI)) (ci := 3) (v := .int (nI tkk)) (C := RX3) (T := TX3) (N := 13) hx hb hts i_X6_readSound_X3 hown hK hP 2 rfl rfl 7 (by decide) (hts _ mx_X6_readSound_3) (fun _ h9 => h9) rfl dX6_readSound_130 ?_
        refine lv_iconst (v := 1) hx hb dX6_readSound_133 (by decide) ?_
        refine lv_iadd hx hb dX6_readSound_134 ?_
        refine lv_topi (fun v_14 e_14 => ?_)
        obtain rfl : v_14 = (nI (tkk + 1)) := (e_14).trans (nI_add tkk 1)
        refine va_put (D := (dC, dI)) (ci := 3) (v := .int (nI (tkk + 1))) (ty := .int) (C := RX3) (T := TX3) (N := 13) hx hb hts i_X6_readSound_X3 tyX3 tyX3_ok nmX3 hown hK hP hD hS 2 rfl rfl 7 (by decide) (hts _ mx_X6_readSound_3) (fun _ h9 => h9) rfl (by decide +kernel) rfl rfl (Nat.le_of_ble_eq_true rfl) dX6_readSound_135 (fun H locs hP hD hS => ?_)
        have hP : va_P (dC, dI) vwCl [(xo_6_ririii h bs (nI z) td fpn_10 fn_10 kn_10), (xI bs cI 120 fb), (xo_3_iiiiiiiirrrrr td tv0 tv1 tv2 tv3 (nI thh) tv5 (nI tww) (nI (tkk + 1)) tb1 tb2 tb3 tb4 tb5), (xI tb1 cI 6 tg1), (xI tb2 cI 6 g_12), (xI tb3 cI 6 g3n_13), (xI tb4 cI 6 g4n_13), (xI tb5 cI 6 g5n_13)] H := hP
        have hD := dto hP hD
        have hX9 := cut2 (wc := [(xo_6_ririii h bs (nI z) td fpn_10 fn_10 kn_10), (xI bs cI 120 fb), (xo_3_iiiiiiiirrrrr td tv0 tv1 tv2 tv3 (nI thh) tv5 (nI tww) (nI (tkk + 1)) tb1 tb2 tb3 tb4 tb5), (xI tb1 cI 6 tg1), (xI tb2 cI 6 g_12), (xI tb3 cI 6 g3n_13), (xI tb4 cI 6 g4n_13), (xI tb5 cI 6 g5n_13)]) hP hD [0, 1, 2, 3, 4, 5, 6, 7] (by decide +kernel) rfl
        exact W.vret hx hb hr (fun t ht hW => ⟨⟨(), rfl, trivial, ⟨fpn_10, fn_10, kn_10, (tkk + 1), g_12, g3n_13, g4n_13, g5n_13, va_Ht ht hX9.1, hX9.2, (lf_X6_readSound_4 thb hz htww htkk h_1 h_2 c_3 c_4 e_5 e_6 hF_7_0 hF_7_1 h_7 hF_8_0 hF_8_1 hF_9_0 hF_9_1 h_9 hF_10_0 hF_10_1 c_11 hw6 hu_12 hF_13_0 hF_13_1 hF_13_2), (lf_X6_readSound_5 thb hz htww htkk h_1 h_2 c_3 c_4 e_5 e_6 hF_7_0 hF_7_1 h_7 hF_8_0 hF_8_1 hF_9_0 hF_9_1 h_9 hF_10_0 hF_10_1 c_11 hw6 hu_12 hF_13_0 hF_13_1 hF_13_2)⟩⟩, hS.F ht⟩) hS.2.2 dX6_readSound_138
    · have c_4 : ¬ (tkk < 6) := fun q_ => c_4 ((nI_ltI (a := tkk) (b := 6) (by omega) (by omega)).mpr q_)
      refine lv_aload_n hx hb dX6_readSound_36 rfl (lv_at hl 1 rfl) ?_
      refine lv_iconst (v := 3) hx hb dX6_readSound_37 (by decide) ?_
      have hc_15 := cutW (wc := [(xo_6_ririii h bs (nI z) td fp f k)]) hP hD hS hA [0] (by decide +kernel) rfl
      refine va_callv (va_runV (As := [.int 3]) (rest := []) ⟨hx, hb, hml, hown, hts⟩ (r_X6_fail l dC dI cI cZ cL cJ s.heap.size h bs td z fp f k 3 ) (cwV 1 hts gX6_readSound_X6_fail rfl rfl rfl (by decide +kernel) ⟨Nat.le_of_ble_eq_true rfl, Nat.le_of_ble_eq_true rfl⟩) (pvW 6 0 hK hP rfl rfl hc_15) rfl rfl hl.1 rfl (lv_room (Nat.le_of_ble_eq_true rfl)) dX6_readSound_38 ⟨Nat.le_of_ble_eq_true rfl, Nat.le_of_ble_eq_true rfl⟩) hS (fun q _ h => hc_15.2.2 q h) hc_15.2.2 (fun u_15 t_15 H1 locs ht hvm h_15 hB hz1 hk1 hS => ?_)
      refine xl_2_5 hB (fun fpn_15 fn_15 hP1 hD1 hF_15_0 hF_15_1 hF_15_2 => ?_)
      clear hB
      rw [ht] at hP1
      obtain ⟨hP, hD⟩ := va_join (wr := [(xI bs cI 120 fb), (xo_3_iiiiiiiirrrrr td tv0 tv1 tv2 tv3 (nI thh) tv5 (nI tww) (nI tkk) tb1 tb2 tb3 tb4 tb5), (xI tb1 cI 6 tg1), (xI tb2 cI 6 tg2), (xI tb3 cI 6 tg3), (xI tb4 cI 6 tg4), (xI tb5 cI 6 tg5)]) (w1 := [(xo_6_ririii h bs (nI z) td fpn_15 fn_15 k)]) hP hD [0] [1, 2, 3, 4, 5, 6, 7] rfl rfl (by decide +kernel) (by decide +kernel) hk1 hc_15.2.2 hP1 hD1
      generalize H1 = H at hP hS ⊢
      have hP : va_P (dC, dI) vwCl [(xI bs cI 120 fb), (xo_3_iiiiiiiirrrrr td tv0 tv1 tv2 tv3 (nI thh) tv5 (nI tww) (nI tkk) tb1 tb2 tb3 tb4 tb5), (xI tb1 cI 6 tg1), (xI tb2 cI 6 tg2), (xI tb3 cI 6 tg3), (xI tb4 cI 6 tg4), (xI tb5 cI 6 tg5), (xo_6_ririii h bs (nI z) td fpn_15 fn_15 k)] H := hP
      have hD := dto hP hD
      refine lv_aload_n hx hb dX6_readSound_41 rfl (lv_at hl 1 rfl) ?_
      refine lv_dup hx hb dX6_readSound_42 rfl ?_
      refine va_get (D := (dC, dI)) (ci := 6) (v := .int k) (C := RX6) (T := TX6) (N := 6) hx hb hts i_X6_readSound_X6 hown hK hP 7 rfl rfl 5 (by decide) (hts _ mx_X6_readSound_1) (fun _ h9 => h9) rfl dX6_readSound_43 ?_
      refine lv_iconst (v := 1) hx hb dX6_readSound_46 (by decide) ?_
      refine lv_iadd hx hb dX6_readSound_47 ?_
      refine lv_topi (fun v_16 e_16 => ?_)
      refine va_put (D := (dC, dI)) (ci := 6) (v := .int v_16) (ty := .int) (C := RX6) (T := TX6) (N := 6) hx hb hts i_X6_readSound_X6 tyX6 tyX6_ok nmX6 hown hK hP hD hS 7 rfl rfl 5 (by decide) (hts _ mx_X6_readSound_1) (fun _ h9 => h9) rfl (by decide +kernel) rfl rfl (Nat.le_of_ble_eq_true rfl) dX6_readSound_48 (fun H locs hP hD hS => ?_)
      have hP : va_P (dC, dI) vwCl [(xI bs cI 120 fb), (xo_3_iiiiiiiirrrrr td tv0 tv1 tv2 tv3 (nI thh) tv5 (nI tww) (nI tkk) tb1 tb2 tb3 tb4 tb5), (xI tb1 cI 6 tg1), (xI tb2 cI 6 tg2), (xI tb3 cI 6 tg3), (xI tb4 cI 6 tg4), (xI tb5 cI 6 tg5), (xo_6_ririii h bs (nI z) td fpn_15 fn_15 v_16)] H := hP
      have hD := dto hP hD
      refine lv_aload_n hx hb dX6_readSound_51 rfl (lv_at hl 1 rfl) ?_
      refine lv_iconst (v := 0) hx hb dX6_readSound_52 (by decide) ?_
      refine lv_aload_n hx hb dX6_readSound_53 rfl (lv_at hl 1 rfl) ?_
      refine va_get (D := (dC, dI)) (ci := 6) (v := .ref td) (C := RX6) (T := TX6) (N := 6) hx hb hts i_X6_readSound_X6 hown hK hP 7 rfl rfl 2 (by decide) (hts _ mx_X6_readSound_2) (fun _ h9 => h9) rfl dX6_readSound_54 ?_
      refine va_get (D := (dC, dI)) (ci := 3) (v := .int tv0) (C := RX3) (T := TX3) (N := 13) hx hb hts i_X6_readSound_X3 hown hK hP 1 rfl rfl 0 (by decide) (hts _ mx_X6_readSound_4) (fun _ h9 => h9) rfl dX6_readSound_57 ?_
      refine lv_iconst (v := 1) hx hb dX6_readSound_60 (by decide) ?_
      refine lv_isub hx hb dX6_readSound_61 ?_
      refine lv_topi (fun v_17 e_17 => ?_)
      have hc_18 := cutW (wc := [(xo_6_ririii h bs (nI z) td fpn_15 fn_15 v_16), (xI bs cI 120 fb)]) hP hD hS hA [7, 0] (by decide +kernel) rfl
      refine va_calli (va_runV (As := [.int 0, .int v_17]) (rest := []) ⟨hx, hb, hml, hown, hts⟩ (r_X6_readNumber l dC dI cI cZ cL cJ H.size h bs td z fpn_15 fn_15 v_16 fb 0 v_17 (hz)) (cwV 2 hts gX6_readSound_X6_readNumber rfl rfl rfl (by decide +kernel) ⟨Nat.le_of_ble_eq_true rfl, Nat.le_of_ble_eq_true rfl⟩) (pvW 6 7 hK hP rfl rfl hc_18) rfl rfl hl.1 rfl (lv_room (Nat.le_of_ble_eq_true rfl)) dX6_readSound_62 ⟨Nat.le_of_ble_eq_true rfl, Nat.le_of_ble_eq_true rfl⟩) hS (fun q _ h => hc_18.2.2 q h) hc_18.2.2 (fun r_18 u_18 t_18 H1 locs ht hvm h_18 hB hz1 hk1 hS => ?_)
      refine xl_3_4 hB (fun fpn_18 fn_18 kn_18 hP1 hD1 hF_18_0 hF_18_1 => ?_)
      clear hB
      rw [ht] at hP1
      obtain ⟨hP, hD⟩ := va_join (wr := [(xo_3_iiiiiiiirrrrr td tv0 tv1 tv2 tv3 (nI thh) tv5 (nI tww) (nI tkk) tb1 tb2 tb3 tb4 tb5), (xI tb1 cI 6 tg1), (xI tb2 cI 6 tg2), (xI tb3 cI 6 tg3), (xI tb4 cI 6 tg4), (xI tb5 cI 6 tg5)]) (w1 := [(xo_6_ririii h bs (nI z) td fpn_18 fn_18 kn_18), (xI bs cI 120 fb)]) hP hD [7, 0] [1, 2, 3, 4, 5, 6] rfl rfl (by decide +kernel) (by decide +kernel) hk1 hc_18.2.2 hP1 hD1
      generalize H1 = H at hP hS ⊢
      have hP : va_P (dC, dI) vwCl [(xo_3_iiiiiiiirrrrr td tv0 tv1 tv2 tv3 (nI thh) tv5 (nI tww) (nI tkk) tb1 tb2 tb3 tb4 tb5), (xI tb1 cI 6 tg1), (xI tb2 cI 6 tg2), (xI tb3 cI 6 tg3), (xI tb4 cI 6 tg4), (xI tb5 cI 6 tg5), (xo_6_ririii h bs (nI z) td fpn_18 fn_18 kn_18), (xI bs cI 120 fb)] H := hP
      have hD := dto hP hD
      refine lv_istore_n (lv' := [(2, .int r_18), (1, .int r_2), (0, .ref h)]) hx hb dX6_readSound_65 rfl hl (by decide) rfl (fun ls hl => ?_)
      refine lv_aload_n hx hb dX6_readSound_66 rfl (lv_at hl 2 rfl) ?_
      refine lv_bipush (v := 44) hx hb dX6_readSound_67 (by decide) ?_
      have hc_19 := cutW (wc := [(xo_6_ririii h bs (nI z) td fpn_18 fn_18 kn_18), (xI bs cI 120 fb)]) hP hD hS hA [6, 7] (by decide +kernel) rfl
      refine va_callv (va_runV (As := [.int 44]) (rest := []) ⟨hx, hb, hml, hown, hts⟩ (r_X6_readByte l dC dI cI cZ cL cJ H.size h bs td z fpn_18 fn_18 kn_18 fb 44 (hz)) (cwV 1 hts gX6_readSound_X6_readByte rfl rfl rfl (by decide +kernel) ⟨Nat.le_of_ble_eq_true rfl, Nat.le_of_ble_eq_true rfl⟩) (pvW 6 6 hK hP rfl rfl hc_19) rfl rfl hl.1 rfl (lv_room (Nat.le_of_ble_eq_true rfl)) dX6_readSound_69 ⟨Nat.le_of_ble_eq_true rfl, Nat.le_of_ble_eq_true rfl⟩) hS (fun q _ h => hc_19.2.2 q h) hc_19.2.2 (fun u_19 t_19 H1 locs ht hvm h_19 hB hz1 hk1 hS => ?_)
      refine xl_3_4 hB (fun fpn_19 fn_19 kn_19 hP1 hD1 hF_19_0 hF_19_1 => ?_)
      clear hB
      rw [ht] at hP1
      obtain ⟨hP, hD⟩ := va_join (wr := [(xo_3_iiiiiiiirrrrr td tv0 tv1 tv2 tv3 (nI thh) tv5 (nI tww) (nI tkk) tb1 tb2 tb3 tb4 tb5), (xI tb1 cI 6 tg1), (xI tb2 cI 6 tg2), (xI tb3 cI 6 tg3), (xI tb4 cI 6 tg4), (xI tb5 cI 6 tg5)]) (w1 := [(xo_6_ririii h bs (nI z) td fpn_19 fn_19 kn_19), (xI bs cI 120 fb)]) hP hD [6, 7] [0, 1, 2, 3, 4, 5] rfl rfl (by decide +kernel) (by decide +kernel) hk1 hc_19.2.2 hP1 hD1
      generalize H1 = H at hP hS ⊢
      have hP : va_P (dC, dI) vwCl [(xo_3_iiiiiiiirrrrr td tv0 tv1 tv2 tv3 (nI thh) tv5 (nI tww) (nI tkk) tb1 tb2 tb3 tb4 tb5), (xI tb1 cI 6 tg1), (xI tb2 cI 6 tg2), (xI tb3 cI 6 tg3), (xI tb4 cI 6 tg4), (xI tb5 cI 6 tg5), (xo_6_ririii h bs (nI z) td fpn_19 fn_19 kn_19), (xI bs cI 120 fb)] H := hP
      have hD := dto hP hD
      refine lv_aload_n hx hb dX6_readSound_72 rfl (lv_at hl 2 rfl) ?_
      refine lv_iconst (v := 1) hx hb dX6_readSound_73 (by decide) ?_
      refine lv_bipush (v := 20) hx hb dX6_readSound_74 (by decide) ?_
      have hc_20 := cutW (wc := [(xo_6_ririii h bs (nI z) td fpn_19 fn_19 kn_19), (xI bs cI 120 fb)]) hP hD hS hA [6, 7] (by decide +kernel) rfl
      refine va_calli (va_runV (As := [.int 1, .int 20]) (rest := []) ⟨hx, hb, hml, hown, hts⟩ (r_X6_readNumber l dC dI cI cZ cL cJ H.size h bs td z fpn_19 fn_19 kn_19 fb 1 20 (hz)) (cwV 2 hts gX6_readSound_X6_readNumber rfl rfl rfl (by decide +kernel) ⟨Nat.le_of_ble_eq_true rfl, Nat.le_of_ble_eq_true rfl⟩) (pvW 6 6 hK hP rfl rfl hc_20) rfl rfl hl.1 rfl (lv_room (Nat.le_of_ble_eq_true rfl)) dX6_readSound_76 ⟨Nat.le_of_ble_eq_true rfl, Nat.le_of_ble_eq_true rfl⟩) hS (fun q _ h => hc_20.2.2 q h) hc_20.2.2 (fun r_20 u_20 t_20 H1 locs ht hvm h_20 hB hz1 hk1 hS => ?_)
      refine xl_3_4 hB (fun fpn_20 fn_20 kn_20 hP1 hD1 hF_20_0 hF_20_1 => ?_)
      clear hB
      rw [ht] at hP1
      obtain ⟨hP, hD⟩ := va_join (wr := [(xo_3_iiiiiiiirrrrr td tv0 tv1 tv2 tv3 (nI thh) tv5 (nI tww) (nI tkk) tb1 tb2 tb3 tb4 tb5), (xI tb1 cI 6 tg1), (xI tb2 cI 6 tg2), (xI tb3 cI 6 tg3), (xI tb4 cI 6 tg4), (xI tb5 cI 6 tg5)]) (w1 := [(xo_6_ririii h bs (nI z) td fpn_20 fn_20 kn_20), (xI bs cI 120 fb)]) hP hD [6, 7] [0, 1, 2, 3, 4, 5] rfl rfl (by decide +kernel) (by decide +kernel) hk1 hc_20.2.2 hP1 hD1
      generalize H1 = H at hP hS ⊢
      have hP : va_P (dC, dI) vwCl [(xo_3_iiiiiiiirrrrr td tv0 tv1 tv2 tv3 (nI thh) tv5 (nI tww) (nI tkk) tb1 tb2 tb3 tb4 tb5), (xI tb1 cI 6 tg1), (xI tb2 cI 6 tg2), (xI tb3 cI 6 tg3), (xI tb4 cI 6 tg4), (xI tb5 cI 6 tg5), (xo_6_ririii h bs (nI z) td fpn_20 fn_20 kn_20), (xI bs cI 120 fb)] H := hP
      have hD := dto hP hD
      refine lv_istore_n (lv' := [(3, .int r_20), (2, .int r_18), (1, .int r_2), (0, .ref h)]) hx hb dX6_readSound_79 rfl hl (by decide) rfl (fun ls hl => ?_)
      refine lv_aload_n hx hb dX6_readSound_80 rfl (lv_at hl 3 rfl) ?_
      refine lv_bipush (v := 59) hx hb dX6_readSound_81 (by decide) ?_
      have hc_21 := cutW (wc := [(xo_6_ririii h bs (nI z) td fpn_20 fn_20 kn_20), (xI bs cI 120 fb)]) hP hD hS hA [6, 7] (by decide +kernel) rfl
      refine va_callv (va_runV (As := [.int 59]) (rest := []) ⟨hx, hb, hml, hown, hts⟩ (r_X6_readByte l dC dI cI cZ cL cJ H.size h bs td z fpn_20 fn_20 kn_20 fb 59 (hz)) (cwV 1 hts gX6_readSound_X6_readByte rfl rfl rfl (by decide +kernel) ⟨Nat.le_of_ble_eq_true rfl, Nat.le_of_ble_eq_true rfl⟩) (pvW 6 6 hK hP rfl rfl hc_21) rfl rfl hl.1 rfl (lv_room (Nat.le_of_ble_eq_true rfl)) dX6_readSound_83 ⟨Nat.le_of_ble_eq_true rfl, Nat.le_of_ble_eq_true rfl⟩) hS (fun q _ h => hc_21.2.2 q h) hc_21.2.2 (fun u_21 t_21 H1 locs ht hvm h_21 hB hz1 hk1 hS => ?_)
      refine xl_3_4 hB (fun fpn_21 fn_21 kn_21 hP1 hD1 hF_21_0 hF_21_1 => ?_)
      clear hB
      rw [ht] at hP1
      obtain ⟨hP, hD⟩ := va_join (wr := [(xo_3_iiiiiiiirrrrr td tv0 tv1 tv2 tv3 (nI thh) tv5 (nI tww) (nI tkk) tb1 tb2 tb3 tb4 tb5), (xI tb1 cI 6 tg1), (xI tb2 cI 6 tg2), (xI tb3 cI 6 tg3), (xI tb4 cI 6 tg4), (xI tb5 cI 6 tg5)]) (w1 := [(xo_6_ririii h bs (nI z) td fpn_21 fn_21 kn_21), (xI bs cI 120 fb)]) hP hD [6, 7] [0, 1, 2, 3, 4, 5] rfl rfl (by decide +kernel) (by decide +kernel) hk1 hc_21.2.2 hP1 hD1
      generalize H1 = H at hP hS ⊢
      have hP : va_P (dC, dI) vwCl [(xo_3_iiiiiiiirrrrr td tv0 tv1 tv2 tv3 (nI thh) tv5 (nI tww) (nI tkk) tb1 tb2 tb3 tb4 tb5), (xI tb1 cI 6 tg1), (xI tb2 cI 6 tg2), (xI tb3 cI 6 tg3), (xI tb4 cI 6 tg4), (xI tb5 cI 6 tg5), (xo_6_ririii h bs (nI z) td fpn_21 fn_21 kn_21), (xI bs cI 120 fb)] H := hP
      have hD := dto hP hD
      refine lv_aload_n hx hb dX6_readSound_86 rfl (lv_at hl 3 rfl) ?_
      refine va_get (D := (dC, dI)) (ci := 6) (v := .int fn_21) (C := RX6) (T := TX6) (N := 6) hx hb hts i_X6_readSound_X6 hown hK hP 6 rfl rfl 4 (by decide) (hts _ mx_X6_readSound_5) (fun _ h9 => h9) rfl dX6_readSound_87 ?_
      refine lv_if_ne (tgt := 138) hx hb dX6_readSound_90 (by decide) (fun c_22 => ?_) (fun c_22 => ?_)
      · skip
        have hX9 := cut2 (wc := [(xo_6_ririii h bs (nI z) td fpn_21 fn_21 kn_21), (xI bs cI 120 fb), (xo_3_iiiiiiiirrrrr td tv0 tv1 tv2 tv3 (nI thh) tv5 (nI tww) (nI tkk) tb1 tb2 tb3 tb4 tb5), (xI tb1 cI 6 tg1), (xI tb2 cI 6 tg2), (xI tb3 cI 6 tg3), (xI tb4 cI 6 tg4), (xI tb5 cI 6 tg5)]) hP hD [6, 7, 0, 1, 2, 3, 4, 5] (by decide +kernel) rfl
        exact W.vret hx hb hr (fun t ht hW => ⟨⟨(), rfl, trivial, ⟨fpn_21, fn_21, kn_21, tkk, tg2, tg3, tg4, tg5, va_Ht ht hX9.1, hX9.2, (lf_X6_readSound_6 thb hz htww htkk h_1 h_2 c_3 c_4 hF_15_0 hF_15_1 hF_15_2 e_16 e_17 hF_18_0 hF_18_1 h_18 hF_19_0 hF_19_1 hF_20_0 hF_20_1 h_20 hF_21_0 hF_21_1 c_22), (lf_X6_readSound_7 thb hz htww htkk h_1 h_2 c_3 c_4 hF_15_0 hF_15_1 hF_15_2 e_16 e_17 hF_18_0 hF_18_1 h_18 hF_19_0 hF_19_1 hF_20_0 hF_20_1 h_20 hF_21_0 hF_21_1 c_22)⟩⟩, hS.F ht⟩) hS.2.2 dX6_readSound_138
      · skip
        have hw6 : tkk < 6 := (lf_X6_readSound_8 thb hz htww htkk h_1 h_2 c_3 c_4 hF_15_0 hF_15_1 hF_15_2 e_16 e_17 hF_18_0 hF_18_1 h_18 hF_19_0 hF_19_1 hF_20_0 hF_20_1 h_20 hF_21_0 hF_21_1 c_22)
        refine lv_aload_n hx hb dX6_readSound_93 rfl (lv_at hl 3 rfl) ?_
        refine va_get (D := (dC, dI)) (ci := 6) (v := .ref td) (C := RX6) (T := TX6) (N := 6) hx hb hts i_X6_readSound_X6 hown hK hP 6 rfl rfl 2 (by decide) (hts _ mx_X6_readSound_2) (fun _ h9 => h9) rfl dX6_readSound_94 ?_
        refine va_get (D := (dC, dI)) (ci := 3) (v := .ref tb2) (C := RX3) (T := TX3) (N := 13) hx hb hts i_X6_readSound_X3 hown hK hP 0 rfl rfl 9 (by decide) (hts _ mx_X6_readSound_6) (fun _ h9 => h9) rfl dX6_readSound_97 ?_
        refine lv_aload_n hx hb dX6_readSound_100 rfl (lv_at hl 3 rfl) ?_
        refine va_get (D := (dC, dI)) (ci := 6) (v := .ref td) (C := RX6) (T := TX6) (N := 6) hx hb hts i_X6_readSound_X6 hown hK hP 6 rfl rfl 2 (by decide) (hts _ mx_X6_readSound_2) (fun _ h9 => h9) rfl dX6_readSound_101 ?_
        refine va_get (D := (dC, dI)) (ci := 3) (v := .int (nI tkk)) (C := RX3) (T := TX3) (N := 13) hx hb hts i_X6_readSound_X3 hown hK hP 0 rfl rfl 7 (by decide) (hts _ mx_X6_readSound_3) (fun _ h9 => h9) rfl dX6_readSound_104 ?_
        refine lv_iload_n hx hb dX6_readSound_107 rfl (lv_at hl 2 rfl) ?_
        refine va_iast hx hb hK hP hD hS 2 0 rfl rfl (vp_in_nI (by omega) (by omega)) dX6_readSound_108 (fun H locs hP hD hS => ?_)
        generalize hg_23 : upd tg2 ((nI tkk) : Int32).toNatClampNeg r_2 = g_23 at hP hD
        have hu_23 : g_23 = upd tg2 tkk r_2 := (by rw [← hg_23, nI_clamp (by omega)])
        have hP : va_P (dC, dI) vwCl [(xo_3_iiiiiiiirrrrr td tv0 tv1 tv2 tv3 (nI thh) tv5 (nI tww) (nI tkk) tb1 tb2 tb3 tb4 tb5), (xI tb1 cI 6 tg1), (xI tb2 cI 6 g_23), (xI tb3 cI 6 tg3), (xI tb4 cI 6 tg4), (xI tb5 cI 6 tg5), (xo_6_ririii h bs (nI z) td fpn_21 fn_21 kn_21), (xI bs cI 120 fb)] H := hP
        have hD := dto hP hD
        refine lv_aload_n hx hb dX6_readSound_109 rfl (lv_at hl 3 rfl) ?_
        refine va_get (D := (dC, dI)) (ci := 6) (v := .ref td) (C := RX6) (T := TX6) (N := 6) hx hb hts i_X6_readSound_X6 hown hK hP 6 rfl rfl 2 (by decide) (hts _ mx_X6_readSound_2) (fun _ h9 => h9) rfl dX6_readSound_110 ?_
        refine lv_aload_n hx hb dX6_readSound_113 rfl (lv_at hl 3 rfl) ?_
        refine va_get (D := (dC, dI)) (ci := 6) (v := .ref td) (C := RX6) (T := TX6) (N := 6) hx hb hts i_X6_readSound_X6 hown hK hP 6 rfl rfl 2 (by decide) (hts _ mx_X6_readSound_2) (fun _ h9 => h9) rfl dX6_readSound_114 ?_
        refine va_get (D := (dC, dI)) (ci := 3) (v := .int (nI tkk)) (C := RX3) (T := TX3) (N := 13) hx hb hts i_X6_readSound_X3 hown hK hP 0 rfl rfl 7 (by decide) (hts _ mx_X6_readSound_3) (fun _ h9 => h9) rfl dX6_readSound_117 ?_
        refine lv_iload_n hx hb dX6_readSound_120 rfl (lv_at hl 1 rfl) ?_
        refine lv_iload_n hx hb dX6_readSound_121 rfl (lv_at hl 0 rfl) ?_
        have hc_24 := cutW (wc := [(xo_3_iiiiiiiirrrrr td tv0 tv1 tv2 tv3 (nI thh) tv5 (nI tww) (nI tkk) tb1 tb2 tb3 tb4 tb5), (xI tb1 cI 6 tg1), (xI tb2 cI 6 g_23), (xI tb3 cI 6 tg3), (xI tb4 cI 6 tg4), (xI tb5 cI 6 tg5)]) hP hD hS hA [0, 1, 2, 3, 4, 5] (by decide +kernel) rfl
        refine va_callv (va_runV (As := [.int (nI tkk), .int r_18, .int r_20]) (rest := []) ⟨hx, hb, hml, hown, hts⟩ (r_X3_letLoose l dC dI cI cZ cL cJ H.size td tv0 tv1 tv2 tv3 tv5 thh tww tkk tb1 tb2 tb3 tb4 tb5 tg1 g_23 tg3 tg4 tg5 tkk r_18 r_20 (by omega) (htww) (by omega) (by omega)) (cwV 3 hts gX6_readSound_X3_letLoose rfl rfl rfl (by decide +kernel) ⟨Nat.le_of_ble_eq_true rfl, Nat.le_of_ble_eq_true rfl⟩) (pvW 3 0 hK hP rfl rfl hc_24) rfl rfl hl.1 rfl (lv_room (Nat.le_of_ble_eq_true rfl)) dX6_readSound_122 ⟨Nat.le_of_ble_eq_true rfl, Nat.le_of_ble_eq_true rfl⟩) hS (fun q _ h => hc_24.2.2 q h) hc_24.2.2 (fun u_24 t_24 H1 locs ht hvm h_24 hB hz1 hk1 hS => ?_)
        refine xl_3_5 hB (fun g3n_24 g4n_24 g5n_24 hP1 hD1 hF_24_0 hF_24_1 hF_24_2 => ?_)
        clear hB
        rw [ht] at hP1
        obtain ⟨hP, hD⟩ := va_join (wr := [(xo_6_ririii h bs (nI z) td fpn_21 fn_21 kn_21), (xI bs cI 120 fb)]) (w1 := [(xo_3_iiiiiiiirrrrr td tv0 tv1 tv2 tv3 (nI thh) tv5 (nI tww) (nI tkk) tb1 tb2 tb3 tb4 tb5), (xI tb1 cI 6 tg1), (xI tb2 cI 6 g_23), (xI tb3 cI 6 g3n_24), (xI tb4 cI 6 g4n_24), (xI tb5 cI 6 g5n_24)]) hP hD [0, 1, 2, 3, 4, 5] [6, 7] rfl rfl (by decide +kernel) (by decide +kernel) hk1 hc_24.2.2 hP1 hD1
        generalize H1 = H at hP hS ⊢
        have hP : va_P (dC, dI) vwCl [(xo_6_ririii h bs (nI z) td fpn_21 fn_21 kn_21), (xI bs cI 120 fb), (xo_3_iiiiiiiirrrrr td tv0 tv1 tv2 tv3 (nI thh) tv5 (nI tww) (nI tkk) tb1 tb2 tb3 tb4 tb5), (xI tb1 cI 6 tg1), (xI tb2 cI 6 g_23), (xI tb3 cI 6 g3n_24), (xI tb4 cI 6 g4n_24), (xI tb5 cI 6 g5n_24)] H := hP
        have hD := dto hP hD
        refine lv_aload_n hx hb dX6_readSound_125 rfl (lv_at hl 3 rfl) ?_
        refine va_get (D := (dC, dI)) (ci := 6) (v := .ref td) (C := RX6) (T := TX6) (N := 6) hx hb hts i_X6_readSound_X6 hown hK hP 0 rfl rfl 2 (by decide) (hts _ mx_X6_readSound_2) (fun _ h9 => h9) rfl dX6_readSound_126 ?_
        refine lv_dup hx hb dX6_readSound_129 rfl ?_
        refine va_get (D := (dC, dI)) (ci := 3) (v := .int (nI tkk)) (C := RX3) (T := TX3) (N := 13) hx hb hts i_X6_readSound_X3 hown hK hP 2 rfl rfl 7 (by decide) (hts _ mx_X6_readSound_3) (fun _ h9 => h9) rfl dX6_readSound_130 ?_
        refine lv_iconst (v := 1) hx hb dX6_readSound_133 (by decide) ?_
        refine lv_iadd hx hb dX6_readSound_134 ?_
        refine lv_topi (fun v_25 e_25 => ?_)
        obtain rfl : v_25 = (nI (tkk + 1)) := (e_25).trans (nI_add tkk 1)
        refine va_put (D := (dC, dI)) (ci := 3) (v := .int (nI (tkk + 1))) (ty := .int) (C := RX3) (T := TX3) (N := 13) hx hb hts i_X6_readSound_X3 tyX3 tyX3_ok nmX3 hown hK hP hD hS 2 rfl rfl 7 (by decide) (hts _ mx_X6_readSound_3) (fun _ h9 => h9) rfl (by decide +kernel) rfl rfl (Nat.le_of_ble_eq_true rfl) dX6_readSound_135 (fun H locs hP hD hS => ?_)
        have hP : va_P (dC, dI) vwCl [(xo_6_ririii h bs (nI z) td fpn_21 fn_21 kn_21), (xI bs cI 120 fb), (xo_3_iiiiiiiirrrrr td tv0 tv1 tv2 tv3 (nI thh) tv5 (nI tww) (nI (tkk + 1)) tb1 tb2 tb3 tb4 tb5), (xI tb1 cI 6 tg1), (xI tb2 cI 6 g_23), (xI tb3 cI 6 g3n_24), (xI tb4 cI 6 g4n_24), (xI tb5 cI 6 g5n_24)] H := hP
        have hD := dto hP hD
        have hX9 := cut2 (wc := [(xo_6_ririii h bs (nI z) td fpn_21 fn_21 kn_21), (xI bs cI 120 fb), (xo_3_iiiiiiiirrrrr td tv0 tv1 tv2 tv3 (nI thh) tv5 (nI tww) (nI (tkk + 1)) tb1 tb2 tb3 tb4 tb5), (xI tb1 cI 6 tg1), (xI tb2 cI 6 g_23), (xI tb3 cI 6 g3n_24), (xI tb4 cI 6 g4n_24), (xI tb5 cI 6 g5n_24)]) hP hD [0, 1, 2, 3, 4, 5, 6, 7] (by decide +kernel) rfl
        exact W.vret hx hb hr (fun t ht hW => ⟨⟨(), rfl, trivial, ⟨fpn_21, fn_21, kn_21, (tkk + 1), g_23, g3n_24, g4n_24, g5n_24, va_Ht ht hX9.1, hX9.2, (lf_X6_readSound_9 thb hz htww htkk h_1 h_2 c_3 c_4 hF_15_0 hF_15_1 hF_15_2 e_16 e_17 hF_18_0 hF_18_1 h_18 hF_19_0 hF_19_1 hF_20_0 hF_20_1 h_20 hF_21_0 hF_21_1 c_22 hw6 hu_23 hF_24_0 hF_24_1 hF_24_2), (lf_X6_readSound_10 thb hz htww htkk h_1 h_2 c_3 c_4 hF_15_0 hF_15_1 hF_15_2 e_16 e_17 hF_18_0 hF_18_1 h_18 hF_19_0 hF_19_1 hF_20_0 hF_20_1 h_20 hF_21_0 hF_21_1 c_22 hw6 hu_23 hF_24_0 hF_24_1 hF_24_2)⟩⟩, hS.F ht⟩) hS.2.2 dX6_readSound_138
  · skip
    refine lv_aload_n hx hb dX6_readSound_16 rfl (lv_at hl 1 rfl) ?_
    refine lv_iconst (v := 1) hx hb dX6_readSound_17 (by decide) ?_
    have hc_26 := cutW (wc := [(xo_6_ririii h bs (nI z) td fp f k)]) hP hD hS hA [0] (by decide +kernel) rfl
    refine va_callv (va_runV (As := [.int 1]) (rest := []) ⟨hx, hb, hml, hown, hts⟩ (r_X6_fail l dC dI cI cZ cL cJ s.heap.size h bs td z fp f k 1 ) (cwV 1 hts gX6_readSound_X6_fail rfl rfl rfl (by decide +kernel) ⟨Nat.le_of_ble_eq_true rfl, Nat.le_of_ble_eq_true rfl⟩) (pvW 6 0 hK hP rfl rfl hc_26) rfl rfl hl.1 rfl (lv_room (Nat.le_of_ble_eq_true rfl)) dX6_readSound_18 ⟨Nat.le_of_ble_eq_true rfl, Nat.le_of_ble_eq_true rfl⟩) hS (fun q _ h => hc_26.2.2 q h) hc_26.2.2 (fun u_26 t_26 H1 locs ht hvm h_26 hB hz1 hk1 hS => ?_)
    refine xl_2_5 hB (fun fpn_26 fn_26 hP1 hD1 hF_26_0 hF_26_1 hF_26_2 => ?_)
    clear hB
    rw [ht] at hP1
    obtain ⟨hP, hD⟩ := va_join (wr := [(xI bs cI 120 fb), (xo_3_iiiiiiiirrrrr td tv0 tv1 tv2 tv3 (nI thh) tv5 (nI tww) (nI tkk) tb1 tb2 tb3 tb4 tb5), (xI tb1 cI 6 tg1), (xI tb2 cI 6 tg2), (xI tb3 cI 6 tg3), (xI tb4 cI 6 tg4), (xI tb5 cI 6 tg5)]) (w1 := [(xo_6_ririii h bs (nI z) td fpn_26 fn_26 k)]) hP hD [0] [1, 2, 3, 4, 5, 6, 7] rfl rfl (by decide +kernel) (by decide +kernel) hk1 hc_26.2.2 hP1 hD1
    generalize H1 = H at hP hS ⊢
    have hP : va_P (dC, dI) vwCl [(xI bs cI 120 fb), (xo_3_iiiiiiiirrrrr td tv0 tv1 tv2 tv3 (nI thh) tv5 (nI tww) (nI tkk) tb1 tb2 tb3 tb4 tb5), (xI tb1 cI 6 tg1), (xI tb2 cI 6 tg2), (xI tb3 cI 6 tg3), (xI tb4 cI 6 tg4), (xI tb5 cI 6 tg5), (xo_6_ririii h bs (nI z) td fpn_26 fn_26 k)] H := hP
    have hD := dto hP hD
    refine lv_goto (tgt := 41) hx hb dX6_readSound_21 (by decide) ?_
    refine lv_aload_n hx hb dX6_readSound_41 rfl (lv_at hl 1 rfl) ?_
    refine lv_dup hx hb dX6_readSound_42 rfl ?_
    refine va_get (D := (dC, dI)) (ci := 6) (v := .int k) (C := RX6) (T := TX6) (N := 6) hx hb hts i_X6_readSound_X6 hown hK hP 7 rfl rfl 5 (by decide) (hts _ mx_X6_readSound_1) (fun _ h9 => h9) rfl dX6_readSound_43 ?_
    refine lv_iconst (v := 1) hx hb dX6_readSound_46 (by decide) ?_
    refine lv_iadd hx hb dX6_readSound_47 ?_
    refine lv_topi (fun v_27 e_27 => ?_)
    refine va_put (D := (dC, dI)) (ci := 6) (v := .int v_27) (ty := .int) (C := RX6) (T := TX6) (N := 6) hx hb hts i_X6_readSound_X6 tyX6 tyX6_ok nmX6 hown hK hP hD hS 7 rfl rfl 5 (by decide) (hts _ mx_X6_readSound_1) (fun _ h9 => h9) rfl (by decide +kernel) rfl rfl (Nat.le_of_ble_eq_true rfl) dX6_readSound_48 (fun H locs hP hD hS => ?_)
    have hP : va_P (dC, dI) vwCl [(xI bs cI 120 fb), (xo_3_iiiiiiiirrrrr td tv0 tv1 tv2 tv3 (nI thh) tv5 (nI tww) (nI tkk) tb1 tb2 tb3 tb4 tb5), (xI tb1 cI 6 tg1), (xI tb2 cI 6 tg2), (xI tb3 cI 6 tg3), (xI tb4 cI 6 tg4), (xI tb5 cI 6 tg5), (xo_6_ririii h bs (nI z) td fpn_26 fn_26 v_27)] H := hP
    have hD := dto hP hD
    refine lv_aload_n hx hb dX6_readSound_51 rfl (lv_at hl 1 rfl) ?_
    refine lv_iconst (v := 0) hx hb dX6_readSound_52 (by decide) ?_
    refine lv_aload_n hx hb dX6_readSound_53 rfl (lv_at hl 1 rfl) ?_
    refine va_get (D := (dC, dI)) (ci := 6) (v := .ref td) (C := RX6) (T := TX6) (N := 6) hx hb hts i_X6_readSound_X6 hown hK hP 7 rfl rfl 2 (by decide) (hts _ mx_X6_readSound_2) (fun _ h9 => h9) rfl dX6_readSound_54 ?_
    refine va_get (D := (dC, dI)) (ci := 3) (v := .int tv0) (C := RX3) (T := TX3) (N := 13) hx hb hts i_X6_readSound_X3 hown hK hP 1 rfl rfl 0 (by decide) (hts _ mx_X6_readSound_4) (fun _ h9 => h9) rfl dX6_readSound_57 ?_
    refine lv_iconst (v := 1) hx hb dX6_readSound_60 (by decide) ?_
    refine lv_isub hx hb dX6_readSound_61 ?_
    refine lv_topi (fun v_28 e_28 => ?_)
    have hc_29 := cutW (wc := [(xo_6_ririii h bs (nI z) td fpn_26 fn_26 v_27), (xI bs cI 120 fb)]) hP hD hS hA [7, 0] (by decide +kernel) rfl
    refine va_calli (va_runV (As := [.int 0, .int v_28]) (rest := []) ⟨hx, hb, hml, hown, hts⟩ (r_X6_readNumber l dC dI cI cZ cL cJ H.size h bs td z fpn_26 fn_26 v_27 fb 0 v_28 (hz)) (cwV 2 hts gX6_readSound_X6_readNumber rfl rfl rfl (by decide +kernel) ⟨Nat.le_of_ble_eq_true rfl, Nat.le_of_ble_eq_true rfl⟩) (pvW 6 7 hK hP rfl rfl hc_29) rfl rfl hl.1 rfl (lv_room (Nat.le_of_ble_eq_true rfl)) dX6_readSound_62 ⟨Nat.le_of_ble_eq_true rfl, Nat.le_of_ble_eq_true rfl⟩) hS (fun q _ h => hc_29.2.2 q h) hc_29.2.2 (fun r_29 u_29 t_29 H1 locs ht hvm h_29 hB hz1 hk1 hS => ?_)
    refine xl_3_4 hB (fun fpn_29 fn_29 kn_29 hP1 hD1 hF_29_0 hF_29_1 => ?_)
    clear hB
    rw [ht] at hP1
    obtain ⟨hP, hD⟩ := va_join (wr := [(xo_3_iiiiiiiirrrrr td tv0 tv1 tv2 tv3 (nI thh) tv5 (nI tww) (nI tkk) tb1 tb2 tb3 tb4 tb5), (xI tb1 cI 6 tg1), (xI tb2 cI 6 tg2), (xI tb3 cI 6 tg3), (xI tb4 cI 6 tg4), (xI tb5 cI 6 tg5)]) (w1 := [(xo_6_ririii h bs (nI z) td fpn_29 fn_29 kn_29), (xI bs cI 120 fb)]) hP hD [7, 0] [1, 2, 3, 4, 5, 6] rfl rfl (by decide +kernel) (by decide +kernel) hk1 hc_29.2.2 hP1 hD1
    generalize H1 = H at hP hS ⊢
    have hP : va_P (dC, dI) vwCl [(xo_3_iiiiiiiirrrrr td tv0 tv1 tv2 tv3 (nI thh) tv5 (nI tww) (nI tkk) tb1 tb2 tb3 tb4 tb5), (xI tb1 cI 6 tg1), (xI tb2 cI 6 tg2), (xI tb3 cI 6 tg3), (xI tb4 cI 6 tg4), (xI tb5 cI 6 tg5), (xo_6_ririii h bs (nI z) td fpn_29 fn_29 kn_29), (xI bs cI 120 fb)] H := hP
    have hD := dto hP hD
    refine lv_istore_n (lv' := [(2, .int r_29), (1, .int r_2), (0, .ref h)]) hx hb dX6_readSound_65 rfl hl (by decide) rfl (fun ls hl => ?_)
    refine lv_aload_n hx hb dX6_readSound_66 rfl (lv_at hl 2 rfl) ?_
    refine lv_bipush (v := 44) hx hb dX6_readSound_67 (by decide) ?_
    have hc_30 := cutW (wc := [(xo_6_ririii h bs (nI z) td fpn_29 fn_29 kn_29), (xI bs cI 120 fb)]) hP hD hS hA [6, 7] (by decide +kernel) rfl
    refine va_callv (va_runV (As := [.int 44]) (rest := []) ⟨hx, hb, hml, hown, hts⟩ (r_X6_readByte l dC dI cI cZ cL cJ H.size h bs td z fpn_29 fn_29 kn_29 fb 44 (hz)) (cwV 1 hts gX6_readSound_X6_readByte rfl rfl rfl (by decide +kernel) ⟨Nat.le_of_ble_eq_true rfl, Nat.le_of_ble_eq_true rfl⟩) (pvW 6 6 hK hP rfl rfl hc_30) rfl rfl hl.1 rfl (lv_room (Nat.le_of_ble_eq_true rfl)) dX6_readSound_69 ⟨Nat.le_of_ble_eq_true rfl, Nat.le_of_ble_eq_true rfl⟩) hS (fun q _ h => hc_30.2.2 q h) hc_30.2.2 (fun u_30 t_30 H1 locs ht hvm h_30 hB hz1 hk1 hS => ?_)
    refine xl_3_4 hB (fun fpn_30 fn_30 kn_30 hP1 hD1 hF_30_0 hF_30_1 => ?_)
    clear hB
    rw [ht] at hP1
    obtain ⟨hP, hD⟩ := va_join (wr := [(xo_3_iiiiiiiirrrrr td tv0 tv1 tv2 tv3 (nI thh) tv5 (nI tww) (nI tkk) tb1 tb2 tb3 tb4 tb5), (xI tb1 cI 6 tg1), (xI tb2 cI 6 tg2), (xI tb3 cI 6 tg3), (xI tb4 cI 6 tg4), (xI tb5 cI 6 tg5)]) (w1 := [(xo_6_ririii h bs (nI z) td fpn_30 fn_30 kn_30), (xI bs cI 120 fb)]) hP hD [6, 7] [0, 1, 2, 3, 4, 5] rfl rfl (by decide +kernel) (by decide +kernel) hk1 hc_30.2.2 hP1 hD1
    generalize H1 = H at hP hS ⊢
    have hP : va_P (dC, dI) vwCl [(xo_3_iiiiiiiirrrrr td tv0 tv1 tv2 tv3 (nI thh) tv5 (nI tww) (nI tkk) tb1 tb2 tb3 tb4 tb5), (xI tb1 cI 6 tg1), (xI tb2 cI 6 tg2), (xI tb3 cI 6 tg3), (xI tb4 cI 6 tg4), (xI tb5 cI 6 tg5), (xo_6_ririii h bs (nI z) td fpn_30 fn_30 kn_30), (xI bs cI 120 fb)] H := hP
    have hD := dto hP hD
    refine lv_aload_n hx hb dX6_readSound_72 rfl (lv_at hl 2 rfl) ?_
    refine lv_iconst (v := 1) hx hb dX6_readSound_73 (by decide) ?_
    refine lv_bipush (v := 20) hx hb dX6_readSound_74 (by decide) ?_
    have hc_31 := cutW (wc := [(xo_6_ririii h bs (nI z) td fpn_30 fn_30 kn_30), (xI bs cI 120 fb)]) hP hD hS hA [6, 7] (by decide +kernel) rfl
    refine va_calli (va_runV (As := [.int 1, .int 20]) (rest := []) ⟨hx, hb, hml, hown, hts⟩ (r_X6_readNumber l dC dI cI cZ cL cJ H.size h bs td z fpn_30 fn_30 kn_30 fb 1 20 (hz)) (cwV 2 hts gX6_readSound_X6_readNumber rfl rfl rfl (by decide +kernel) ⟨Nat.le_of_ble_eq_true rfl, Nat.le_of_ble_eq_true rfl⟩) (pvW 6 6 hK hP rfl rfl hc_31) rfl rfl hl.1 rfl (lv_room (Nat.le_of_ble_eq_true rfl)) dX6_readSound_76 ⟨Nat.le_of_ble_eq_true rfl, Nat.le_of_ble_eq_true rfl⟩) hS (fun q _ h => hc_31.2.2 q h) hc_31.2.2 (fun r_31 u_31 t_31 H1 locs ht hvm h_31 hB hz1 hk1 hS => ?_)
    refine xl_3_4 hB (fun fpn_31 fn_31 kn_31 hP1 hD1 hF_31_0 hF_31_1 => ?_)
    clear hB
    rw [ht] at hP1
    obtain ⟨hP, hD⟩ := va_join (wr := [(xo_3_iiiiiiiirrrrr td tv0 tv1 tv2 tv3 (nI thh) tv5 (nI tww) (nI tkk) tb1 tb2 tb3 tb4 tb5), (xI tb1 cI 6 tg1), (xI tb2 cI 6 tg2), (xI tb3 cI 6 tg3), (xI tb4 cI 6 tg4), (xI tb5 cI 6 tg5)]) (w1 := [(xo_6_ririii h bs (nI z) td fpn_31 fn_31 kn_31), (xI bs cI 120 fb)]) hP hD [6, 7] [0, 1, 2, 3, 4, 5] rfl rfl (by decide +kernel) (by decide +kernel) hk1 hc_31.2.2 hP1 hD1
    generalize H1 = H at hP hS ⊢
    have hP : va_P (dC, dI) vwCl [(xo_3_iiiiiiiirrrrr td tv0 tv1 tv2 tv3 (nI thh) tv5 (nI tww) (nI tkk) tb1 tb2 tb3 tb4 tb5), (xI tb1 cI 6 tg1), (xI tb2 cI 6 tg2), (xI tb3 cI 6 tg3), (xI tb4 cI 6 tg4), (xI tb5 cI 6 tg5), (xo_6_ririii h bs (nI z) td fpn_31 fn_31 kn_31), (xI bs cI 120 fb)] H := hP
    have hD := dto hP hD
    refine lv_istore_n (lv' := [(3, .int r_31), (2, .int r_29), (1, .int r_2), (0, .ref h)]) hx hb dX6_readSound_79 rfl hl (by decide) rfl (fun ls hl => ?_)
    refine lv_aload_n hx hb dX6_readSound_80 rfl (lv_at hl 3 rfl) ?_
    refine lv_bipush (v := 59) hx hb dX6_readSound_81 (by decide) ?_
    have hc_32 := cutW (wc := [(xo_6_ririii h bs (nI z) td fpn_31 fn_31 kn_31), (xI bs cI 120 fb)]) hP hD hS hA [6, 7] (by decide +kernel) rfl
    refine va_callv (va_runV (As := [.int 59]) (rest := []) ⟨hx, hb, hml, hown, hts⟩ (r_X6_readByte l dC dI cI cZ cL cJ H.size h bs td z fpn_31 fn_31 kn_31 fb 59 (hz)) (cwV 1 hts gX6_readSound_X6_readByte rfl rfl rfl (by decide +kernel) ⟨Nat.le_of_ble_eq_true rfl, Nat.le_of_ble_eq_true rfl⟩) (pvW 6 6 hK hP rfl rfl hc_32) rfl rfl hl.1 rfl (lv_room (Nat.le_of_ble_eq_true rfl)) dX6_readSound_83 ⟨Nat.le_of_ble_eq_true rfl, Nat.le_of_ble_eq_true rfl⟩) hS (fun q _ h => hc_32.2.2 q h) hc_32.2.2 (fun u_32 t_32 H1 locs ht hvm h_32 hB hz1 hk1 hS => ?_)
    refine xl_3_4 hB (fun fpn_32 fn_32 kn_32 hP1 hD1 hF_32_0 hF_32_1 => ?_)
    clear hB
    rw [ht] at hP1
    obtain ⟨hP, hD⟩ := va_join (wr := [(xo_3_iiiiiiiirrrrr td tv0 tv1 tv2 tv3 (nI thh) tv5 (nI tww) (nI tkk) tb1 tb2 tb3 tb4 tb5), (xI tb1 cI 6 tg1), (xI tb2 cI 6 tg2), (xI tb3 cI 6 tg3), (xI tb4 cI 6 tg4), (xI tb5 cI 6 tg5)]) (w1 := [(xo_6_ririii h bs (nI z) td fpn_32 fn_32 kn_32), (xI bs cI 120 fb)]) hP hD [6, 7] [0, 1, 2, 3, 4, 5] rfl rfl (by decide +kernel) (by decide +kernel) hk1 hc_32.2.2 hP1 hD1
    generalize H1 = H at hP hS ⊢
    have hP : va_P (dC, dI) vwCl [(xo_3_iiiiiiiirrrrr td tv0 tv1 tv2 tv3 (nI thh) tv5 (nI tww) (nI tkk) tb1 tb2 tb3 tb4 tb5), (xI tb1 cI 6 tg1), (xI tb2 cI 6 tg2), (xI tb3 cI 6 tg3), (xI tb4 cI 6 tg4), (xI tb5 cI 6 tg5), (xo_6_ririii h bs (nI z) td fpn_32 fn_32 kn_32), (xI bs cI 120 fb)] H := hP
    have hD := dto hP hD
    refine lv_aload_n hx hb dX6_readSound_86 rfl (lv_at hl 3 rfl) ?_
    refine va_get (D := (dC, dI)) (ci := 6) (v := .int fn_32) (C := RX6) (T := TX6) (N := 6) hx hb hts i_X6_readSound_X6 hown hK hP 6 rfl rfl 4 (by decide) (hts _ mx_X6_readSound_5) (fun _ h9 => h9) rfl dX6_readSound_87 ?_
    refine lv_if_ne (tgt := 138) hx hb dX6_readSound_90 (by decide) (fun c_33 => ?_) (fun c_33 => ?_)
    · skip
      have hX9 := cut2 (wc := [(xo_6_ririii h bs (nI z) td fpn_32 fn_32 kn_32), (xI bs cI 120 fb), (xo_3_iiiiiiiirrrrr td tv0 tv1 tv2 tv3 (nI thh) tv5 (nI tww) (nI tkk) tb1 tb2 tb3 tb4 tb5), (xI tb1 cI 6 tg1), (xI tb2 cI 6 tg2), (xI tb3 cI 6 tg3), (xI tb4 cI 6 tg4), (xI tb5 cI 6 tg5)]) hP hD [6, 7, 0, 1, 2, 3, 4, 5] (by decide +kernel) rfl
      exact W.vret hx hb hr (fun t ht hW => ⟨⟨(), rfl, trivial, ⟨fpn_32, fn_32, kn_32, tkk, tg2, tg3, tg4, tg5, va_Ht ht hX9.1, hX9.2, (lf_X6_readSound_11 thb hz htww htkk h_1 h_2 c_3 hF_26_0 hF_26_1 hF_26_2 e_27 e_28 hF_29_0 hF_29_1 h_29 hF_30_0 hF_30_1 hF_31_0 hF_31_1 h_31 hF_32_0 hF_32_1 c_33), (lf_X6_readSound_12 thb hz htww htkk h_1 h_2 c_3 hF_26_0 hF_26_1 hF_26_2 e_27 e_28 hF_29_0 hF_29_1 h_29 hF_30_0 hF_30_1 hF_31_0 hF_31_1 h_31 hF_32_0 hF_32_1 c_33)⟩⟩, hS.F ht⟩) hS.2.2 dX6_readSound_138
    · skip
      have hw6 : tkk < 6 := (lf_X6_readSound_13 thb hz htww htkk h_1 h_2 c_3 hF_26_0 hF_26_1 hF_26_2 e_27 e_28 hF_29_0 hF_29_1 h_29 hF_30_0 hF_30_1 hF_31_0 hF_31_1 h_31 hF_32_0 hF_32_1 c_33)
      refine lv_aload_n hx hb dX6_readSound_93 rfl (lv_at hl 3 rfl) ?_
      refine va_get (D := (dC, dI)) (ci := 6) (v := .ref td) (C := RX6) (T := TX6) (N := 6) hx hb hts i_X6_readSound_X6 hown hK hP 6 rfl rfl 2 (by decide) (hts _ mx_X6_readSound_2) (fun _ h9 => h9) rfl dX6_readSound_94 ?_
      refine va_get (D := (dC, dI)) (ci := 3) (v := .ref tb2) (C := RX3) (T := TX3) (N := 13) hx hb hts i_X6_readSound_X3 hown hK hP 0 rfl rfl 9 (by decide) (hts _ mx_X6_readSound_6) (fun _ h9 => h9) rfl dX6_readSound_97 ?_
      refine lv_aload_n hx hb dX6_readSound_100 rfl (lv_at hl 3 rfl) ?_
      refine va_get (D := (dC, dI)) (ci := 6) (v := .ref td) (C := RX6) (T := TX6) (N := 6) hx hb hts i_X6_readSound_X6 hown hK hP 6 rfl rfl 2 (by decide) (hts _ mx_X6_readSound_2) (fun _ h9 => h9) rfl dX6_readSound_101 ?_
      refine va_get (D := (dC, dI)) (ci := 3) (v := .int (nI tkk)) (C := RX3) (T := TX3) (N := 13) hx hb hts i_X6_readSound_X3 hown hK hP 0 rfl rfl 7 (by decide) (hts _ mx_X6_readSound_3) (fun _ h9 => h9) rfl dX6_readSound_104 ?_
      refine lv_iload_n hx hb dX6_readSound_107 rfl (lv_at hl 2 rfl) ?_
      refine va_iast hx hb hK hP hD hS 2 0 rfl rfl (vp_in_nI (by omega) (by omega)) dX6_readSound_108 (fun H locs hP hD hS => ?_)
      generalize hg_34 : upd tg2 ((nI tkk) : Int32).toNatClampNeg r_2 = g_34 at hP hD
      have hu_34 : g_34 = upd tg2 tkk r_2 := (by rw [← hg_34, nI_clamp (by omega)])
      have hP : va_P (dC, dI) vwCl [(xo_3_iiiiiiiirrrrr td tv0 tv1 tv2 tv3 (nI thh) tv5 (nI tww) (nI tkk) tb1 tb2 tb3 tb4 tb5), (xI tb1 cI 6 tg1), (xI tb2 cI 6 g_34), (xI tb3 cI 6 tg3), (xI tb4 cI 6 tg4), (xI tb5 cI 6 tg5), (xo_6_ririii h bs (nI z) td fpn_32 fn_32 kn_32), (xI bs cI 120 fb)] H := hP
      have hD := dto hP hD
      refine lv_aload_n hx hb dX6_readSound_109 rfl (lv_at hl 3 rfl) ?_
      refine va_get (D := (dC, dI)) (ci := 6) (v := .ref td) (C := RX6) (T := TX6) (N := 6) hx hb hts i_X6_readSound_X6 hown hK hP 6 rfl rfl 2 (by decide) (hts _ mx_X6_readSound_2) (fun _ h9 => h9) rfl dX6_readSound_110 ?_
      refine lv_aload_n hx hb dX6_readSound_113 rfl (lv_at hl 3 rfl) ?_
      refine va_get (D := (dC, dI)) (ci := 6) (v := .ref td) (C := RX6) (T := TX6) (N := 6) hx hb hts i_X6_readSound_X6 hown hK hP 6 rfl rfl 2 (by decide) (hts _ mx_X6_readSound_2) (fun _ h9 => h9) rfl dX6_readSound_114 ?_
      refine va_get (D := (dC, dI)) (ci := 3) (v := .int (nI tkk)) (C := RX3) (T := TX3) (N := 13) hx hb hts i_X6_readSound_X3 hown hK hP 0 rfl rfl 7 (by decide) (hts _ mx_X6_readSound_3) (fun _ h9 => h9) rfl dX6_readSound_117 ?_
      refine lv_iload_n hx hb dX6_readSound_120 rfl (lv_at hl 1 rfl) ?_
      refine lv_iload_n hx hb dX6_readSound_121 rfl (lv_at hl 0 rfl) ?_
      have hc_35 := cutW (wc := [(xo_3_iiiiiiiirrrrr td tv0 tv1 tv2 tv3 (nI thh) tv5 (nI tww) (nI tkk) tb1 tb2 tb3 tb4 tb5), (xI tb1 cI 6 tg1), (xI tb2 cI 6 g_34), (xI tb3 cI 6 tg3), (xI tb4 cI 6 tg4), (xI tb5 cI 6 tg5)]) hP hD hS hA [0, 1, 2, 3, 4, 5] (by decide +kernel) rfl
      refine va_callv (va_runV (As := [.int (nI tkk), .int r_29, .int r_31]) (rest := []) ⟨hx, hb, hml, hown, hts⟩ (r_X3_letLoose l dC dI cI cZ cL cJ H.size td tv0 tv1 tv2 tv3 tv5 thh tww tkk tb1 tb2 tb3 tb4 tb5 tg1 g_34 tg3 tg4 tg5 tkk r_29 r_31 (by omega) (htww) (by omega) (by omega)) (cwV 3 hts gX6_readSound_X3_letLoose rfl rfl rfl (by decide +kernel) ⟨Nat.le_of_ble_eq_true rfl, Nat.le_of_ble_eq_true rfl⟩) (pvW 3 0 hK hP rfl rfl hc_35) rfl rfl hl.1 rfl (lv_room (Nat.le_of_ble_eq_true rfl)) dX6_readSound_122 ⟨Nat.le_of_ble_eq_true rfl, Nat.le_of_ble_eq_true rfl⟩) hS (fun q _ h => hc_35.2.2 q h) hc_35.2.2 (fun u_35 t_35 H1 locs ht hvm h_35 hB hz1 hk1 hS => ?_)
      refine xl_3_5 hB (fun g3n_35 g4n_35 g5n_35 hP1 hD1 hF_35_0 hF_35_1 hF_35_2 => ?_)
      clear hB
      rw [ht] at hP1
      obtain ⟨hP, hD⟩ := va_join (wr := [(xo_6_ririii h bs (nI z) td fpn_32 fn_32 kn_32), (xI bs cI 120 fb)]) (w1 := [(xo_3_iiiiiiiirrrrr td tv0 tv1 tv2 tv3 (nI thh) tv5 (nI tww) (nI tkk) tb1 tb2 tb3 tb4 tb5), (xI tb1 cI 6 tg1), (xI tb2 cI 6 g_34), (xI tb3 cI 6 g3n_35), (xI tb4 cI 6 g4n_35), (xI tb5 cI 6 g5n_35)]) hP hD [0, 1, 2, 3, 4, 5] [6, 7] rfl rfl (by decide +kernel) (by decide +kernel) hk1 hc_35.2.2 hP1 hD1
      generalize H1 = H at hP hS ⊢
      have hP : va_P (dC, dI) vwCl [(xo_6_ririii h bs (nI z) td fpn_32 fn_32 kn_32), (xI bs cI 120 fb), (xo_3_iiiiiiiirrrrr td tv0 tv1 tv2 tv3 (nI thh) tv5 (nI tww) (nI tkk) tb1 tb2 tb3 tb4 tb5), (xI tb1 cI 6 tg1), (xI tb2 cI 6 g_34), (xI tb3 cI 6 g3n_35), (xI tb4 cI 6 g4n_35), (xI tb5 cI 6 g5n_35)] H := hP
      have hD := dto hP hD
      refine lv_aload_n hx hb dX6_readSound_125 rfl (lv_at hl 3 rfl) ?_
      refine va_get (D := (dC, dI)) (ci := 6) (v := .ref td) (C := RX6) (T := TX6) (N := 6) hx hb hts i_X6_readSound_X6 hown hK hP 0 rfl rfl 2 (by decide) (hts _ mx_X6_readSound_2) (fun _ h9 => h9) rfl dX6_readSound_126 ?_
      refine lv_dup hx hb dX6_readSound_129 rfl ?_
      refine va_get (D := (dC, dI)) (ci := 3) (v := .int (nI tkk)) (C := RX3) (T := TX3) (N := 13) hx hb hts i_X6_readSound_X3 hown hK hP 2 rfl rfl 7 (by decide) (hts _ mx_X6_readSound_3) (fun _ h9 => h9) rfl dX6_readSound_130 ?_
      refine lv_iconst (v := 1) hx hb dX6_readSound_133 (by decide) ?_
      refine lv_iadd hx hb dX6_readSound_134 ?_
      refine lv_topi (fun v_36 e_36 => ?_)
      obtain rfl : v_36 = (nI (tkk + 1)) := (e_36).trans (nI_add tkk 1)
      refine va_put (D := (dC, dI)) (ci := 3) (v := .int (nI (tkk + 1))) (ty := .int) (C := RX3) (T := TX3) (N := 13) hx hb hts i_X6_readSound_X3 tyX3 tyX3_ok nmX3 hown hK hP hD hS 2 rfl rfl 7 (by decide) (hts _ mx_X6_readSound_3) (fun _ h9 => h9) rfl (by decide +kernel) rfl rfl (Nat.le_of_ble_eq_true rfl) dX6_readSound_135 (fun H locs hP hD hS => ?_)
      have hP : va_P (dC, dI) vwCl [(xo_6_ririii h bs (nI z) td fpn_32 fn_32 kn_32), (xI bs cI 120 fb), (xo_3_iiiiiiiirrrrr td tv0 tv1 tv2 tv3 (nI thh) tv5 (nI tww) (nI (tkk + 1)) tb1 tb2 tb3 tb4 tb5), (xI tb1 cI 6 tg1), (xI tb2 cI 6 g_34), (xI tb3 cI 6 g3n_35), (xI tb4 cI 6 g4n_35), (xI tb5 cI 6 g5n_35)] H := hP
      have hD := dto hP hD
      have hX9 := cut2 (wc := [(xo_6_ririii h bs (nI z) td fpn_32 fn_32 kn_32), (xI bs cI 120 fb), (xo_3_iiiiiiiirrrrr td tv0 tv1 tv2 tv3 (nI thh) tv5 (nI tww) (nI (tkk + 1)) tb1 tb2 tb3 tb4 tb5), (xI tb1 cI 6 tg1), (xI tb2 cI 6 g_34), (xI tb3 cI 6 g3n_35), (xI tb4 cI 6 g4n_35), (xI tb5 cI 6 g5n_35)]) hP hD [0, 1, 2, 3, 4, 5, 6, 7] (by decide +kernel) rfl
      exact W.vret hx hb hr (fun t ht hW => ⟨⟨(), rfl, trivial, ⟨fpn_32, fn_32, kn_32, (tkk + 1), g_34, g3n_35, g4n_35, g5n_35, va_Ht ht hX9.1, hX9.2, (lf_X6_readSound_14 thb hz htww htkk h_1 h_2 c_3 hF_26_0 hF_26_1 hF_26_2 e_27 e_28 hF_29_0 hF_29_1 h_29 hF_30_0 hF_30_1 hF_31_0 hF_31_1 h_31 hF_32_0 hF_32_1 c_33 hw6 hu_34 hF_35_0 hF_35_1 hF_35_2), (lf_X6_readSound_15 thb hz htww htkk h_1 h_2 c_3 hF_26_0 hF_26_1 hF_26_2 e_27 e_28 hF_29_0 hF_29_1 h_29 hF_30_0 hF_30_1 hF_31_0 hF_31_1 h_31 hF_32_0 hF_32_1 c_33 hw6 hu_34 hF_35_0 hF_35_1 hF_35_2)⟩⟩, hS.F ht⟩) hS.2.2 dX6_readSound_138
theorem lf_X6_readSounds_1 {z : Nat} {fp : Int32} {f : Int32} {k : Int32} {fb : Nat → Int32} {tv0 : Int32} {thh : Nat} {tww : Nat} {tkk : Nat} {tg2 : Nat → Int32} {tg3 : Nat → Int32} {tg4 : Nat → Int32} {tg5 : Nat → Int32} {fpn_1 : Int32} {fn_1 : Int32} {kn_1 : Int32} {tn_1 : Nat} {tg2n_1 : Nat → Int32} {tg3n_1 : Nat → Int32} {tg4n_1 : Nat → Int32} {tg5n_1 : Nat → Int32} {w_7 : Int32} {w_8 : Int32} {w_9 : Int32} {w_10 : Nat} {w_11 : Nat → Int32} {w_12 : Nat → Int32} {w_13 : Nat → Int32} {w_14 : Nat → Int32} {ii : Nat} (thb : thh ≤ 999) (hz : z ≤ 120) (htww : tww ≤ 6) (htkk : tkk ≤ 6) (hF_1_0 : tn_1 ≤ 6) (hF_1_1 : xS fb z tv0 ((fp, f, k), tkk, tg2, tg3, tg4, tg5) = ((fpn_1, fn_1, kn_1), tn_1, tg2n_1, tg3n_1, tg4n_1, tg5n_1)) (hii : ii < 6) (haf_0 : (xSs fb z tv0 (6 - ii) ((w_7, w_8, w_9), w_10, w_11, w_12, w_13, w_14) = xSs fb z tv0 6 ((fpn_1, fn_1, kn_1), tn_1, tg2n_1, tg3n_1, tg4n_1, tg5n_1))) (hnb_w_10 : w_10 ≤ 6) (c_29 : ¬ (w_8 = 0)) : w_10 ≤ 6 := by
  first
  | omega
  | (rw [xSs_stop (s := ((w_7, w_8, w_9), w_10, w_11, w_12, w_13, w_14)) (by grind)] at haf_0; grind)
  | (have h7 : xSs fb z tv0 (6 - 6) ((w_7, w_8, w_9), w_10, w_11, w_12, w_13, w_14) = ((w_7, w_8, w_9), w_10, w_11, w_12, w_13, w_14) := rfl
     rw [h7] at haf_0
     grind)
theorem lf_X6_readSounds_2 {z : Nat} {fp : Int32} {f : Int32} {k : Int32} {fb : Nat → Int32} {tv0 : Int32} {thh : Nat} {tww : Nat} {tkk : Nat} {tg2 : Nat → Int32} {tg3 : Nat → Int32} {tg4 : Nat → Int32} {tg5 : Nat → Int32} {fpn_1 : Int32} {fn_1 : Int32} {kn_1 : Int32} {tn_1 : Nat} {tg2n_1 : Nat → Int32} {tg3n_1 : Nat → Int32} {tg4n_1 : Nat → Int32} {tg5n_1 : Nat → Int32} {w_7 : Int32} {w_8 : Int32} {w_9 : Int32} {w_10 : Nat} {w_11 : Nat → Int32} {w_12 : Nat → Int32} {w_13 : Nat → Int32} {w_14 : Nat → Int32} {ii : Nat} (thb : thh ≤ 999) (hz : z ≤ 120) (htww : tww ≤ 6) (htkk : tkk ≤ 6) (hF_1_0 : tn_1 ≤ 6) (hF_1_1 : xS fb z tv0 ((fp, f, k), tkk, tg2, tg3, tg4, tg5) = ((fpn_1, fn_1, kn_1), tn_1, tg2n_1, tg3n_1, tg4n_1, tg5n_1)) (hii : ii < 6) (haf_0 : (xSs fb z tv0 (6 - ii) ((w_7, w_8, w_9), w_10, w_11, w_12, w_13, w_14) = xSs fb z tv0 6 ((fpn_1, fn_1, kn_1), tn_1, tg2n_1, tg3n_1, tg4n_1, tg5n_1))) (hnb_w_10 : w_10 ≤ 6) (c_29 : ¬ (w_8 = 0)) : xSs fb z tv0 6 (xS fb z tv0 ((fp, f, k), tkk, tg2, tg3, tg4, tg5)) = ((w_7, w_8, w_9), w_10, w_11, w_12, w_13, w_14) := by
  first
  | omega
  | (rw [xSs_stop (s := ((w_7, w_8, w_9), w_10, w_11, w_12, w_13, w_14)) (by grind)] at haf_0; grind)
  | (have h7 : xSs fb z tv0 (6 - 6) ((w_7, w_8, w_9), w_10, w_11, w_12, w_13, w_14) = ((w_7, w_8, w_9), w_10, w_11, w_12, w_13, w_14) := rfl
     rw [h7] at haf_0
     grind)
theorem lf_X6_readSounds_3 {z : Nat} {fp : Int32} {f : Int32} {k : Int32} {fb : Nat → Int32} {tv0 : Int32} {thh : Nat} {tww : Nat} {tkk : Nat} {tg2 : Nat → Int32} {tg3 : Nat → Int32} {tg4 : Nat → Int32} {tg5 : Nat → Int32} {fpn_1 : Int32} {fn_1 : Int32} {kn_1 : Int32} {tn_1 : Nat} {tg2n_1 : Nat → Int32} {tg3n_1 : Nat → Int32} {tg4n_1 : Nat → Int32} {tg5n_1 : Nat → Int32} {w_7 : Int32} {w_8 : Int32} {w_9 : Int32} {w_10 : Nat} {w_11 : Nat → Int32} {w_12 : Nat → Int32} {w_13 : Nat → Int32} {w_14 : Nat → Int32} {ii : Nat} {r_30 : Int32} (thb : thh ≤ 999) (hz : z ≤ 120) (htww : tww ≤ 6) (htkk : tkk ≤ 6) (hF_1_0 : tn_1 ≤ 6) (hF_1_1 : xS fb z tv0 ((fp, f, k), tkk, tg2, tg3, tg4, tg5) = ((fpn_1, fn_1, kn_1), tn_1, tg2n_1, tg3n_1, tg4n_1, tg5n_1)) (hii : ii < 6) (haf_0 : (xSs fb z tv0 (6 - ii) ((w_7, w_8, w_9), w_10, w_11, w_12, w_13, w_14) = xSs fb z tv0 6 ((fpn_1, fn_1, kn_1), tn_1, tg2n_1, tg3n_1, tg4n_1, tg5n_1))) (hnb_w_10 : w_10 ≤ 6) (c_29 : w_8 = 0) (h_30 : r_30 = (bAt fb z w_9)) (c_31 : r_30 = (-1)) : w_10 ≤ 6 := by
  first
  | omega
  | (rw [xSs_stop (s := ((w_7, w_8, w_9), w_10, w_11, w_12, w_13, w_14)) (by grind)] at haf_0; grind)
  | (have h7 : xSs fb z tv0 (6 - 6) ((w_7, w_8, w_9), w_10, w_11, w_12, w_13, w_14) = ((w_7, w_8, w_9), w_10, w_11, w_12, w_13, w_14) := rfl
     rw [h7] at haf_0
     grind)
theorem lf_X6_readSounds_4 {z : Nat} {fp : Int32} {f : Int32} {k : Int32} {fb : Nat → Int32} {tv0 : Int32} {thh : Nat} {tww : Nat} {tkk : Nat} {tg2 : Nat → Int32} {tg3 : Nat → Int32} {tg4 : Nat → Int32} {tg5 : Nat → Int32} {fpn_1 : Int32} {fn_1 : Int32} {kn_1 : Int32} {tn_1 : Nat} {tg2n_1 : Nat → Int32} {tg3n_1 : Nat → Int32} {tg4n_1 : Nat → Int32} {tg5n_1 : Nat → Int32} {w_7 : Int32} {w_8 : Int32} {w_9 : Int32} {w_10 : Nat} {w_11 : Nat → Int32} {w_12 : Nat → Int32} {w_13 : Nat → Int32} {w_14 : Nat → Int32} {ii : Nat} {r_30 : Int32} (thb : thh ≤ 999) (hz : z ≤ 120) (htww : tww ≤ 6) (htkk : tkk ≤ 6) (hF_1_0 : tn_1 ≤ 6) (hF_1_1 : xS fb z tv0 ((fp, f, k), tkk, tg2, tg3, tg4, tg5) = ((fpn_1, fn_1, kn_1), tn_1, tg2n_1, tg3n_1, tg4n_1, tg5n_1)) (hii : ii < 6) (haf_0 : (xSs fb z tv0 (6 - ii) ((w_7, w_8, w_9), w_10, w_11, w_12, w_13, w_14) = xSs fb z tv0 6 ((fpn_1, fn_1, kn_1), tn_1, tg2n_1, tg3n_1, tg4n_1, tg5n_1))) (hnb_w_10 : w_10 ≤ 6) (c_29 : w_8 = 0) (h_30 : r_30 = (bAt fb z w_9)) (c_31 : r_30 = (-1)) : xSs fb z tv0 6 (xS fb z tv0 ((fp, f, k), tkk, tg2, tg3, tg4, tg5)) = ((w_7, w_8, w_9), w_10, w_11, w_12, w_13, w_14) := by
  first
  | omega
  | (rw [xSs_stop (s := ((w_7, w_8, w_9), w_10, w_11, w_12, w_13, w_14)) (by grind)] at haf_0; grind)
  | (have h7 : xSs fb z tv0 (6 - 6) ((w_7, w_8, w_9), w_10, w_11, w_12, w_13, w_14) = ((w_7, w_8, w_9), w_10, w_11, w_12, w_13, w_14) := rfl
     rw [h7] at haf_0
     grind)
theorem lf_X6_readSounds_5 {z : Nat} {fp : Int32} {f : Int32} {k : Int32} {fb : Nat → Int32} {tv0 : Int32} {thh : Nat} {tww : Nat} {tkk : Nat} {tg2 : Nat → Int32} {tg3 : Nat → Int32} {tg4 : Nat → Int32} {tg5 : Nat → Int32} {fpn_1 : Int32} {fn_1 : Int32} {kn_1 : Int32} {tn_1 : Nat} {tg2n_1 : Nat → Int32} {tg3n_1 : Nat → Int32} {tg4n_1 : Nat → Int32} {tg5n_1 : Nat → Int32} {w_7 : Int32} {w_8 : Int32} {w_9 : Int32} {w_10 : Nat} {w_11 : Nat → Int32} {w_12 : Nat → Int32} {w_13 : Nat → Int32} {w_14 : Nat → Int32} {ii : Nat} {r_30 : Int32} {fpn_32 : Int32} {fn_32 : Int32} {kn_32 : Int32} {tn_32 : Nat} {tg2n_32 : Nat → Int32} {tg3n_32 : Nat → Int32} {tg4n_32 : Nat → Int32} {tg5n_32 : Nat → Int32} (thb : thh ≤ 999) (hz : z ≤ 120) (htww : tww ≤ 6) (htkk : tkk ≤ 6) (hF_1_0 : tn_1 ≤ 6) (hF_1_1 : xS fb z tv0 ((fp, f, k), tkk, tg2, tg3, tg4, tg5) = ((fpn_1, fn_1, kn_1), tn_1, tg2n_1, tg3n_1, tg4n_1, tg5n_1)) (hii : ii < 6) (haf_0 : (xSs fb z tv0 (6 - ii) ((w_7, w_8, w_9), w_10, w_11, w_12, w_13, w_14) = xSs fb z tv0 6 ((fpn_1, fn_1, kn_1), tn_1, tg2n_1, tg3n_1, tg4n_1, tg5n_1))) (hnb_w_10 : w_10 ≤ 6) (c_29 : w_8 = 0) (h_30 : r_30 = (bAt fb z w_9)) (c_31 : ¬ (r_30 = (-1))) (hF_32_0 : tn_32 ≤ 6) (hF_32_1 : xS fb z tv0 ((w_7, w_8, w_9), w_10, w_11, w_12, w_13, w_14) = ((fpn_32, fn_32, kn_32), tn_32, tg2n_32, tg3n_32, tg4n_32, tg5n_32)) : xSs fb z tv0 (6 - (ii + 1)) ((fpn_32, fn_32, kn_32), tn_32, tg2n_32, tg3n_32, tg4n_32, tg5n_32) = xSs fb z tv0 6 ((fpn_1, fn_1, kn_1), tn_1, tg2n_1, tg3n_1, tg4n_1, tg5n_1) := by
  rw [xSs_go (s := ((w_7, w_8, w_9), w_10, w_11, w_12, w_13, w_14)) (by omega) (by grind)] at haf_0
  rw [show 6 - (ii + 1) = 6 - ii - 1 by omega, ← haf_0]
  exact congrArg _ (by grind)
theorem lf_X6_readSounds_6 {z : Nat} {fp : Int32} {f : Int32} {k : Int32} {fb : Nat → Int32} {tv0 : Int32} {thh : Nat} {tww : Nat} {tkk : Nat} {tg2 : Nat → Int32} {tg3 : Nat → Int32} {tg4 : Nat → Int32} {tg5 : Nat → Int32} {fpn_1 : Int32} {fn_1 : Int32} {kn_1 : Int32} {tn_1 : Nat} {tg2n_1 : Nat → Int32} {tg3n_1 : Nat → Int32} {tg4n_1 : Nat → Int32} {tg5n_1 : Nat → Int32} {w_7 : Int32} {w_8 : Int32} {w_9 : Int32} {w_10 : Nat} {w_11 : Nat → Int32} {w_12 : Nat → Int32} {w_13 : Nat → Int32} {w_14 : Nat → Int32} (thb : thh ≤ 999) (hz : z ≤ 120) (htww : tww ≤ 6) (htkk : tkk ≤ 6) (hF_1_0 : tn_1 ≤ 6) (hF_1_1 : xS fb z tv0 ((fp, f, k), tkk, tg2, tg3, tg4, tg5) = ((fpn_1, fn_1, kn_1), tn_1, tg2n_1, tg3n_1, tg4n_1, tg5n_1)) (haf_0 : (xSs fb z tv0 (6 - 6) ((w_7, w_8, w_9), w_10, w_11, w_12, w_13, w_14) = xSs fb z tv0 6 ((fpn_1, fn_1, kn_1), tn_1, tg2n_1, tg3n_1, tg4n_1, tg5n_1))) (hnb_w_10 : w_10 ≤ 6) : w_10 ≤ 6 := by
  first
  | omega
  | (rw [xSs_stop (s := ((w_7, w_8, w_9), w_10, w_11, w_12, w_13, w_14)) (by grind)] at haf_0; grind)
  | (have h7 : xSs fb z tv0 (6 - 6) ((w_7, w_8, w_9), w_10, w_11, w_12, w_13, w_14) = ((w_7, w_8, w_9), w_10, w_11, w_12, w_13, w_14) := rfl
     rw [h7] at haf_0
     grind)
theorem lf_X6_readSounds_7 {z : Nat} {fp : Int32} {f : Int32} {k : Int32} {fb : Nat → Int32} {tv0 : Int32} {thh : Nat} {tww : Nat} {tkk : Nat} {tg2 : Nat → Int32} {tg3 : Nat → Int32} {tg4 : Nat → Int32} {tg5 : Nat → Int32} {fpn_1 : Int32} {fn_1 : Int32} {kn_1 : Int32} {tn_1 : Nat} {tg2n_1 : Nat → Int32} {tg3n_1 : Nat → Int32} {tg4n_1 : Nat → Int32} {tg5n_1 : Nat → Int32} {w_7 : Int32} {w_8 : Int32} {w_9 : Int32} {w_10 : Nat} {w_11 : Nat → Int32} {w_12 : Nat → Int32} {w_13 : Nat → Int32} {w_14 : Nat → Int32} (thb : thh ≤ 999) (hz : z ≤ 120) (htww : tww ≤ 6) (htkk : tkk ≤ 6) (hF_1_0 : tn_1 ≤ 6) (hF_1_1 : xS fb z tv0 ((fp, f, k), tkk, tg2, tg3, tg4, tg5) = ((fpn_1, fn_1, kn_1), tn_1, tg2n_1, tg3n_1, tg4n_1, tg5n_1)) (haf_0 : (xSs fb z tv0 (6 - 6) ((w_7, w_8, w_9), w_10, w_11, w_12, w_13, w_14) = xSs fb z tv0 6 ((fpn_1, fn_1, kn_1), tn_1, tg2n_1, tg3n_1, tg4n_1, tg5n_1))) (hnb_w_10 : w_10 ≤ 6) : xSs fb z tv0 6 (xS fb z tv0 ((fp, f, k), tkk, tg2, tg3, tg4, tg5)) = ((w_7, w_8, w_9), w_10, w_11, w_12, w_13, w_14) := by
  first
  | omega
  | (rw [xSs_stop (s := ((w_7, w_8, w_9), w_10, w_11, w_12, w_13, w_14)) (by grind)] at haf_0; grind)
  | (have h7 : xSs fb z tv0 (6 - 6) ((w_7, w_8, w_9), w_10, w_11, w_12, w_13, w_14) = ((w_7, w_8, w_9), w_10, w_11, w_12, w_13, w_14) := rfl
     rw [h7] at haf_0
     grind)
set_option maxHeartbeats 4000000 in
set_option maxRecDepth 100000 in
theorem r_X6_readSounds (l : Launch) (dC : Nat → ClassId) (dI : Nat → Nat → Nat) (cI cZ cL cJ : ClassId) (sz : Nat) (h : Nat) (bs : Nat) (td : Nat) (z : Nat) (fp : Int32) (f : Int32) (k : Int32) (fb : Nat → Int32) (tv0 : Int32) (tv1 : Int32) (tv2 : Int32) (tv3 : Int32) (tv5 : Int32) (thh : Nat) (tww : Nat) (tkk : Nat) (tb1 : Nat) (tb2 : Nat) (tb3 : Nat) (tb4 : Nat) (tb5 : Nat) (tg1 : Nat → Int32) (tg2 : Nat → Int32) (tg3 : Nat → Int32) (tg4 : Nat → Int32) (tg5 : Nat → Int32) (thb : thh ≤ 999) (hz : z ≤ 120) (htww : tww ≤ 6) (htkk : tkk ≤ 6) : Met l yX6_readSounds wsX6_readSounds ({ frames := 4, cells := 0, slots := 0, locals := 90 }) (va_Pc [.ref h] (fun U => U.heap.size = sz ∧ va_P (dC, dI) vwCl [(xo_6_ririii h bs (nI z) td fp f k), (xI bs cI 120 fb), (xo_3_iiiiiiiirrrrr td tv0 tv1 tv2 tv3 (nI thh) tv5 (nI tww) (nI tkk) tb1 tb2 tb3 tb4 tb5), (xI tb1 cI 6 tg1), (xI tb2 cI 6 tg2), (xI tb3 cI 6 tg3), (xI tb4 cI 6 tg4), (xI tb5 cI 6 tg5)] U.heap ∧ va_K (dC, dI) vwCl [(cI, .int), (cZ, .boolean), (cL, .object RX3), (cJ, .array .int)] U ∧ va_D (fun _ => True) [(xo_6_ririii h bs (nI z) td fp f k), (xI bs cI 120 fb), (xo_3_iiiiiiiirrrrr td tv0 tv1 tv2 tv3 (nI thh) tv5 (nI tww) (nI tkk) tb1 tb2 tb3 tb4 tb5), (xI tb1 cI 6 tg1), (xI tb2 cI 6 tg2), (xI tb3 cI 6 tg3), (xI tb4 cI 6 tg4), (xI tb5 cI 6 tg5)])) (va_Qv (fun (_ : Unit) => True) (fun (_ : Unit) t => ∃ (fpn : Int32) (fn : Int32) (kn : Int32) (tn : Nat) (tg2n : Nat → Int32) (tg3n : Nat → Int32) (tg4n : Nat → Int32) (tg5n : Nat → Int32), va_P (dC, dI) vwCl [(xo_6_ririii h bs (nI z) td fpn fn kn), (xI bs cI 120 fb), (xo_3_iiiiiiiirrrrr td tv0 tv1 tv2 tv3 (nI thh) tv5 (nI tww) (nI tn) tb1 tb2 tb3 tb4 tb5), (xI tb1 cI 6 tg1), (xI tb2 cI 6 tg2n), (xI tb3 cI 6 tg3n), (xI tb4 cI 6 tg4n), (xI tb5 cI 6 tg5n)] t.heap ∧ va_D (va_A [(xo_6_ririii h bs (nI z) td fp f k), (xI bs cI 120 fb), (xo_3_iiiiiiiirrrrr td tv0 tv1 tv2 tv3 (nI thh) tv5 (nI tww) (nI tkk) tb1 tb2 tb3 tb4 tb5), (xI tb1 cI 6 tg1), (xI tb2 cI 6 tg2), (xI tb3 cI 6 tg3), (xI tb4 cI 6 tg4), (xI tb5 cI 6 tg5)] sz) [(xo_6_ririii h bs (nI z) td fpn fn kn), (xI bs cI 120 fb), (xo_3_iiiiiiiirrrrr td tv0 tv1 tv2 tv3 (nI thh) tv5 (nI tww) (nI tn) tb1 tb2 tb3 tb4 tb5), (xI tb1 cI 6 tg1), (xI tb2 cI 6 tg2n), (xI tb3 cI 6 tg3n), (xI tb4 cI 6 tg4n), (xI tb5 cI 6 tg5n)] ∧ tn ≤ 6 ∧ xSs fb z tv0 6 (xS fb z tv0 ((fp, f, k), tkk, tg2, tg3, tg4, tg5)) = ((fpn, fn, kn), tn, tg2n, tg3n, tg4n, tg5n)) (va_A [(xo_6_ririii h bs (nI z) td fp f k), (xI bs cI 120 fb), (xo_3_iiiiiiiirrrrr td tv0 tv1 tv2 tv3 (nI thh) tv5 (nI tww) (nI tkk) tb1 tb2 tb3 tb4 tb5), (xI tb1 cI 6 tg1), (xI tb2 cI 6 tg2), (xI tb3 cI 6 tg3), (xI tb4 cI 6 tg4), (xI tb5 cI 6 tg5)] sz)) 0 0 (va_A [(xo_6_ririii h bs (nI z) td fp f k), (xI bs cI 120 fb), (xo_3_iiiiiiiirrrrr td tv0 tv1 tv2 tv3 (nI thh) tv5 (nI tww) (nI tkk) tb1 tb2 tb3 tb4 tb5), (xI tb1 cI 6 tg1), (xI tb2 cI 6 tg2), (xI tb3 cI 6 tg3), (xI tb4 cI 6 tg4), (xI tb5 cI 6 tg5)] sz) := by
  refine Met.ofW (cc := cX6_readSounds) (maxL := 2) (ret := none) (by decide) rfl ?_
  intro p e s m args below meth c s₁ B hml hv
  obtain ⟨rfl, hsz, hP, hK, hD0⟩ := hv
  have hx := B.exec
  have hb := B.bytes
  have hr := B.returns
  have hts := atoms_spec (ws := wsX6_readSounds) B.pre
  have hown : s.vm.findClass RX6 = some m.cls := findClass_of_methodNamed B.named
  have hlocks := B.notSynchronized
  subst hsz
  have hD := hD0.self (sz := s.heap.size)
  generalize hAe : va_A [(xo_6_ririii h bs (nI z) td fp f k), (xI bs cI 120 fb), (xo_3_iiiiiiiirrrrr td tv0 tv1 tv2 tv3 (nI thh) tv5 (nI tww) (nI tkk) tb1 tb2 tb3 tb4 tb5), (xI tb1 cI 6 tg1), (xI tb2 cI 6 tg2), (xI tb3 cI 6 tg3), (xI tb4 cI 6 tg4), (xI tb5 cI 6 tg5)] s.heap.size = A at hD ⊢
  have hA : ∀ q : Nat, s.heap.size ≤ q → A q := fun q h => by rw [← hAe]; exact Or.inr h
  have hS : va_S A s.heap s.heap [] := va_S.rf
  have hP : va_P (dC, dI) vwCl [(xo_6_ririii h bs (nI z) td fp f k), (xI bs cI 120 fb), (xo_3_iiiiiiiirrrrr td tv0 tv1 tv2 tv3 (nI thh) tv5 (nI tww) (nI tkk) tb1 tb2 tb3 tb4 tb5), (xI tb1 cI 6 tg1), (xI tb2 cI 6 tg2), (xI tb3 cI 6 tg3), (xI tb4 cI 6 tg4), (xI tb5 cI 6 tg5)] s.heap := hP
  have hl := lv_entry ([.ref h]) (n := 2) (Nat.le_of_ble_eq_true rfl)
  rw [lg_entry_eq]
  generalize (lg_sl ([.ref h]) ++ List.replicate (2 - (lg_sl ([.ref h])).length) Slot.unset).toArray = ls at hl ⊢
  have hl : lv_has ls 2 [(0, .ref h)] := hl
  refine lv_aload_n hx hb dX6_readSounds_0 rfl (lv_at hl 0 rfl) ?_
  have hc_1 := cutW (wc := [(xo_6_ririii h bs (nI z) td fp f k), (xI bs cI 120 fb), (xo_3_iiiiiiiirrrrr td tv0 tv1 tv2 tv3 (nI thh) tv5 (nI tww) (nI tkk) tb1 tb2 tb3 tb4 tb5), (xI tb1 cI 6 tg1), (xI tb2 cI 6 tg2), (xI tb3 cI 6 tg3), (xI tb4 cI 6 tg4), (xI tb5 cI 6 tg5)]) hP hD hS hA [0, 1, 2, 3, 4, 5, 6, 7] (by decide +kernel) rfl
  refine va_callv (va_runV (As := []) (rest := []) ⟨hx, hb, hml, hown, hts⟩ (r_X6_readSound l dC dI cI cZ cL cJ s.heap.size h bs td z fp f k fb tv0 tv1 tv2 tv3 tv5 thh tww tkk tb1 tb2 tb3 tb4 tb5 tg1 tg2 tg3 tg4 tg5 (thb) (hz) (htww) (by omega)) (cwV 0 hts gX6_readSounds_X6_readSound rfl rfl rfl (by decide +kernel) ⟨Nat.le_of_ble_eq_true rfl, Nat.le_of_ble_eq_true rfl⟩) (pvW 6 0 hK hP rfl rfl hc_1) rfl rfl hl.1 rfl (lv_room (Nat.le_of_ble_eq_true rfl)) dX6_readSounds_1 ⟨Nat.le_of_ble_eq_true rfl, Nat.le_of_ble_eq_true rfl⟩) hS (fun q _ h => hc_1.2.2 q h) hc_1.2.2 (fun u_1 t_1 H1 locs ht hvm h_1 hB hz1 hk1 hS => ?_)
  refine xl_8_4 hB (fun fpn_1 fn_1 kn_1 tn_1 tg2n_1 tg3n_1 tg4n_1 tg5n_1 hP1 hD1 hF_1_0 hF_1_1 => ?_)
  clear hB
  rw [ht] at hP1
  obtain ⟨hP, hD⟩ := va_join (wr := []) (w1 := [(xo_6_ririii h bs (nI z) td fpn_1 fn_1 kn_1), (xI bs cI 120 fb), (xo_3_iiiiiiiirrrrr td tv0 tv1 tv2 tv3 (nI thh) tv5 (nI tww) (nI tn_1) tb1 tb2 tb3 tb4 tb5), (xI tb1 cI 6 tg1), (xI tb2 cI 6 tg2n_1), (xI tb3 cI 6 tg3n_1), (xI tb4 cI 6 tg4n_1), (xI tb5 cI 6 tg5n_1)]) hP hD [0, 1, 2, 3, 4, 5, 6, 7] [] rfl rfl (by decide +kernel) (by decide +kernel) hk1 hc_1.2.2 hP1 hD1
  generalize H1 = H at hP hS ⊢
  have hP : va_P (dC, dI) vwCl [(xo_6_ririii h bs (nI z) td fpn_1 fn_1 kn_1), (xI bs cI 120 fb), (xo_3_iiiiiiiirrrrr td tv0 tv1 tv2 tv3 (nI thh) tv5 (nI tww) (nI tn_1) tb1 tb2 tb3 tb4 tb5), (xI tb1 cI 6 tg1), (xI tb2 cI 6 tg2n_1), (xI tb3 cI 6 tg3n_1), (xI tb4 cI 6 tg4n_1), (xI tb5 cI 6 tg5n_1)] H := hP
  have hD := dto hP hD
  refine lv_iconst (v := 0) hx hb dX6_readSounds_4 (by decide) ?_
  refine lv_istore_n (lv' := [(1, .int 0), (0, .ref h)]) hx hb dX6_readSounds_5 rfl hl (by decide) rfl (fun ls hl => ?_)
  refine lp_go (σ := (Int32) × (Int32) × (Int32) × (Nat) × (Nat → Int32) × (Nat → Int32) × (Nat → Int32) × (Nat → Int32)) (fun ii (st : (Int32) × (Int32) × (Int32) × (Nat) × (Nat → Int32) × (Nat → Int32) × (Nat → Int32) × (Nat → Int32)) H locs ls => match st with | (w_7, w_8, w_9, w_10, w_11, w_12, w_13, w_14) => lv_has ls 2 [(1, .int (nI ii)), (0, .ref h)] ∧ va_P (dC, dI) vwCl [(xo_6_ririii h bs (nI z) td w_7 w_8 w_9), (xI bs cI 120 fb), (xo_3_iiiiiiiirrrrr td tv0 tv1 tv2 tv3 (nI thh) tv5 (nI tww) (nI w_10) tb1 tb2 tb3 tb4 tb5), (xI tb1 cI 6 tg1), (xI tb2 cI 6 w_11), (xI tb3 cI 6 w_12), (xI tb4 cI 6 w_13), (xI tb5 cI 6 w_14)] H ∧ va_D A [(xo_6_ririii h bs (nI z) td w_7 w_8 w_9), (xI bs cI 120 fb), (xo_3_iiiiiiiirrrrr td tv0 tv1 tv2 tv3 (nI thh) tv5 (nI tww) (nI w_10) tb1 tb2 tb3 tb4 tb5), (xI tb1 cI 6 tg1), (xI tb2 cI 6 w_11), (xI tb3 cI 6 w_12), (xI tb4 cI 6 w_13), (xI tb5 cI 6 w_14)] ∧ va_S A s.heap H locs ∧ (xSs fb z tv0 (6 - ii) ((w_7, w_8, w_9), w_10, w_11, w_12, w_13, w_14) = xSs fb z tv0 6 ((fpn_1, fn_1, kn_1), tn_1, tg2n_1, tg3n_1, tg4n_1, tg5n_1)) ∧ w_10 ≤ 6) 6 ?_ ?_ 0 (by omega) (fpn_1, fn_1, kn_1, tn_1, tg2n_1, tg3n_1, tg4n_1, tg5n_1) ⟨lv_sub hl [0, 1] rfl, hP.sub (ws' := [(xo_6_ririii h bs (nI z) td fpn_1 fn_1 kn_1), (xI bs cI 120 fb), (xo_3_iiiiiiiirrrrr td tv0 tv1 tv2 tv3 (nI thh) tv5 (nI tww) (nI tn_1) tb1 tb2 tb3 tb4 tb5), (xI tb1 cI 6 tg1), (xI tb2 cI 6 tg2n_1), (xI tb3 cI 6 tg3n_1), (xI tb4 cI 6 tg4n_1), (xI tb5 cI 6 tg5n_1)]) [0, 1, 2, 3, 4, 5, 6, 7] rfl, hD.sub (ws' := [(xo_6_ririii h bs (nI z) td fpn_1 fn_1 kn_1), (xI bs cI 120 fb), (xo_3_iiiiiiiirrrrr td tv0 tv1 tv2 tv3 (nI thh) tv5 (nI tww) (nI tn_1) tb1 tb2 tb3 tb4 tb5), (xI tb1 cI 6 tg1), (xI tb2 cI 6 tg2n_1), (xI tb3 cI 6 tg3n_1), (xI tb4 cI 6 tg4n_1), (xI tb5 cI 6 tg5n_1)]) [0, 1, 2, 3, 4, 5, 6, 7] (by decide +kernel) rfl, hS, rfl, (by omega)⟩
  · rintro ii ⟨w_7, w_8, w_9, w_10, w_11, w_12, w_13, w_14⟩ H locs ls hii ⟨hl, hP, hD, hS, haf_0, hnb_w_10⟩ ih
    refine lv_iload_n hx hb dX6_readSounds_6 rfl (lv_at hl 0 rfl) ?_
    refine lv_bipush (v := 6) hx hb dX6_readSounds_7 (by decide) ?_
    refine lv_icmp_ge (tgt := 41) hx hb dX6_readSounds_9 (by decide) (fun c_ => absurd c_ (fun q_ => absurd ((nI_leI (a := 6) (b := ii) (by omega) (by omega)).mp q_) (by omega))) (fun _ => ?_)
    refine lv_aload_n hx hb dX6_readSounds_12 rfl (lv_at hl 1 rfl) ?_
    refine va_get (D := (dC, dI)) (ci := 6) (v := .int w_8) (C := RX6) (T := TX6) (N := 6) hx hb hts i_X6_readSounds_X6 hown hK hP 0 rfl rfl 4 (by decide) (hts _ mx_X6_readSounds_1) (fun _ h9 => h9) rfl dX6_readSounds_13 ?_
    refine lv_if_ne (tgt := 41) hx hb dX6_readSounds_16 (by decide) (fun c_29 => ?_) (fun c_29 => ?_)
    · skip
      have hX9 := cut2 (wc := [(xo_6_ririii h bs (nI z) td w_7 w_8 w_9), (xI bs cI 120 fb), (xo_3_iiiiiiiirrrrr td tv0 tv1 tv2 tv3 (nI thh) tv5 (nI tww) (nI w_10) tb1 tb2 tb3 tb4 tb5), (xI tb1 cI 6 tg1), (xI tb2 cI 6 w_11), (xI tb3 cI 6 w_12), (xI tb4 cI 6 w_13), (xI tb5 cI 6 w_14)]) hP hD [0, 1, 2, 3, 4, 5, 6, 7] (by decide +kernel) rfl
      exact W.vret hx hb hr (fun t ht hW => ⟨⟨(), rfl, trivial, ⟨w_7, w_8, w_9, w_10, w_11, w_12, w_13, w_14, va_Ht ht hX9.1, hX9.2, (lf_X6_readSounds_1 thb hz htww htkk hF_1_0 hF_1_1 hii haf_0 hnb_w_10 c_29), (lf_X6_readSounds_2 thb hz htww htkk hF_1_0 hF_1_1 hii haf_0 hnb_w_10 c_29)⟩⟩, hS.F ht⟩) hS.2.2 dX6_readSounds_41
    · skip
      refine lv_aload_n hx hb dX6_readSounds_19 rfl (lv_at hl 1 rfl) ?_
      refine lv_aload_n hx hb dX6_readSounds_20 rfl (lv_at hl 1 rfl) ?_
      refine va_get (D := (dC, dI)) (ci := 6) (v := .int w_9) (C := RX6) (T := TX6) (N := 6) hx hb hts i_X6_readSounds_X6 hown hK hP 0 rfl rfl 5 (by decide) (hts _ mx_X6_readSounds_2) (fun _ h9 => h9) rfl dX6_readSounds_21 ?_
      have hPc_30 := hP.sub (ws' := [(xo_6_ririii h bs (nI z) td w_7 w_8 w_9), (xI bs cI 120 fb)]) [0, 1] rfl
      refine vp_callSi (W.runV (As := [.int w_9]) (rest := []) ⟨hx, hb, hml, hown, hts⟩ (r_X6_byteAt l dC dI cI cZ cL cJ h bs td z w_7 w_8 w_9 fb w_9 (hz)) (cwV 1 hts gX6_readSounds_X6_byteAt rfl rfl rfl (by decide +kernel) ⟨Nat.le_of_ble_eq_true rfl, Nat.le_of_ble_eq_true rfl⟩) (pvP 6 0 hK hP rfl rfl hPc_30) rfl rfl hl.1 rfl (lv_room (Nat.le_of_ble_eq_true rfl)) dX6_readSounds_24 ⟨Nat.le_of_ble_eq_true rfl, Nat.le_of_ble_eq_true rfl⟩) (fun r_30 h_30 => ?_)
      refine lv_iconst (v := (-1)) hx hb dX6_readSounds_27 (by decide) ?_
      refine lv_icmp_eq (tgt := 41) hx hb dX6_readSounds_28 (by decide) (fun c_31 => ?_) (fun c_31 => ?_)
      · skip
        have hX9 := cut2 (wc := [(xo_6_ririii h bs (nI z) td w_7 w_8 w_9), (xI bs cI 120 fb), (xo_3_iiiiiiiirrrrr td tv0 tv1 tv2 tv3 (nI thh) tv5 (nI tww) (nI w_10) tb1 tb2 tb3 tb4 tb5), (xI tb1 cI 6 tg1), (xI tb2 cI 6 w_11), (xI tb3 cI 6 w_12), (xI tb4 cI 6 w_13), (xI tb5 cI 6 w_14)]) hP hD [0, 1, 2, 3, 4, 5, 6, 7] (by decide +kernel) rfl
        exact W.vret hx hb hr (fun t ht hW => ⟨⟨(), rfl, trivial, ⟨w_7, w_8, w_9, w_10, w_11, w_12, w_13, w_14, va_Ht ht hX9.1, hX9.2, (lf_X6_readSounds_3 thb hz htww htkk hF_1_0 hF_1_1 hii haf_0 hnb_w_10 c_29 h_30 c_31), (lf_X6_readSounds_4 thb hz htww htkk hF_1_0 hF_1_1 hii haf_0 hnb_w_10 c_29 h_30 c_31)⟩⟩, hS.F ht⟩) hS.2.2 dX6_readSounds_41
      · skip
        refine lv_aload_n hx hb dX6_readSounds_31 rfl (lv_at hl 1 rfl) ?_
        have hc_32 := cutW (wc := [(xo_6_ririii h bs (nI z) td w_7 w_8 w_9), (xI bs cI 120 fb), (xo_3_iiiiiiiirrrrr td tv0 tv1 tv2 tv3 (nI thh) tv5 (nI tww) (nI w_10) tb1 tb2 tb3 tb4 tb5), (xI tb1 cI 6 tg1), (xI tb2 cI 6 w_11), (xI tb3 cI 6 w_12), (xI tb4 cI 6 w_13), (xI tb5 cI 6 w_14)]) hP hD hS hA [0, 1, 2, 3, 4, 5, 6, 7] (by decide +kernel) rfl
        refine va_callv (va_runV (As := []) (rest := []) ⟨hx, hb, hml, hown, hts⟩ (r_X6_readSound l dC dI cI cZ cL cJ H.size h bs td z w_7 w_8 w_9 fb tv0 tv1 tv2 tv3 tv5 thh tww w_10 tb1 tb2 tb3 tb4 tb5 tg1 w_11 w_12 w_13 w_14 (thb) (hz) (htww) (by omega)) (cwV 0 hts gX6_readSounds_X6_readSound rfl rfl rfl (by decide +kernel) ⟨Nat.le_of_ble_eq_true rfl, Nat.le_of_ble_eq_true rfl⟩) (pvW 6 0 hK hP rfl rfl hc_32) rfl rfl hl.1 rfl (lv_room (Nat.le_of_ble_eq_true rfl)) dX6_readSounds_32 ⟨Nat.le_of_ble_eq_true rfl, Nat.le_of_ble_eq_true rfl⟩) hS (fun q _ h => hc_32.2.2 q h) hc_32.2.2 (fun u_32 t_32 H1 locs ht hvm h_32 hB hz1 hk1 hS => ?_)
        refine xl_8_4 hB (fun fpn_32 fn_32 kn_32 tn_32 tg2n_32 tg3n_32 tg4n_32 tg5n_32 hP1 hD1 hF_32_0 hF_32_1 => ?_)
        clear hB
        rw [ht] at hP1
        obtain ⟨hP, hD⟩ := va_join (wr := []) (w1 := [(xo_6_ririii h bs (nI z) td fpn_32 fn_32 kn_32), (xI bs cI 120 fb), (xo_3_iiiiiiiirrrrr td tv0 tv1 tv2 tv3 (nI thh) tv5 (nI tww) (nI tn_32) tb1 tb2 tb3 tb4 tb5), (xI tb1 cI 6 tg1), (xI tb2 cI 6 tg2n_32), (xI tb3 cI 6 tg3n_32), (xI tb4 cI 6 tg4n_32), (xI tb5 cI 6 tg5n_32)]) hP hD [0, 1, 2, 3, 4, 5, 6, 7] [] rfl rfl (by decide +kernel) (by decide +kernel) hk1 hc_32.2.2 hP1 hD1
        generalize H1 = H at hP hS ⊢
        have hP : va_P (dC, dI) vwCl [(xo_6_ririii h bs (nI z) td fpn_32 fn_32 kn_32), (xI bs cI 120 fb), (xo_3_iiiiiiiirrrrr td tv0 tv1 tv2 tv3 (nI thh) tv5 (nI tww) (nI tn_32) tb1 tb2 tb3 tb4 tb5), (xI tb1 cI 6 tg1), (xI tb2 cI 6 tg2n_32), (xI tb3 cI 6 tg3n_32), (xI tb4 cI 6 tg4n_32), (xI tb5 cI 6 tg5n_32)] H := hP
        have hD := dto hP hD
        refine lv_iinc (v := (nI (ii + 1))) (lv' := [(1, .int (nI (ii + 1))), (0, .ref h)]) hx hb dX6_readSounds_35 hl (k := 0) rfl (nI_add ii 1) (by decide) rfl (fun ls hl => ?_)
        refine lv_goto (tgt := 6) hx hb dX6_readSounds_38 (by decide) ?_
        exact ih (fpn_32, fn_32, kn_32, tn_32, tg2n_32, tg3n_32, tg4n_32, tg5n_32) _ _ _ ⟨lv_sub hl [0, 1] rfl, hP.sub (ws' := [(xo_6_ririii h bs (nI z) td fpn_32 fn_32 kn_32), (xI bs cI 120 fb), (xo_3_iiiiiiiirrrrr td tv0 tv1 tv2 tv3 (nI thh) tv5 (nI tww) (nI tn_32) tb1 tb2 tb3 tb4 tb5), (xI tb1 cI 6 tg1), (xI tb2 cI 6 tg2n_32), (xI tb3 cI 6 tg3n_32), (xI tb4 cI 6 tg4n_32), (xI tb5 cI 6 tg5n_32)]) [0, 1, 2, 3, 4, 5, 6, 7] rfl, hD.sub (ws' := [(xo_6_ririii h bs (nI z) td fpn_32 fn_32 kn_32), (xI bs cI 120 fb), (xo_3_iiiiiiiirrrrr td tv0 tv1 tv2 tv3 (nI thh) tv5 (nI tww) (nI tn_32) tb1 tb2 tb3 tb4 tb5), (xI tb1 cI 6 tg1), (xI tb2 cI 6 tg2n_32), (xI tb3 cI 6 tg3n_32), (xI tb4 cI 6 tg4n_32), (xI tb5 cI 6 tg5n_32)]) [0, 1, 2, 3, 4, 5, 6, 7] (by decide +kernel) rfl, hS, (lf_X6_readSounds_5 thb hz htww htkk hF_1_0 hF_1_1 hii haf_0 hnb_w_10 c_29 h_30 c_31 hF_32_0 hF_32_1), (by omega)⟩
  · rintro ⟨w_7, w_8, w_9, w_10, w_11, w_12, w_13, w_14⟩ H locs ls ⟨hl, hP, hD, hS, haf_0, hnb_w_10⟩
    refine lv_iload_n hx hb dX6_readSounds_6 rfl (lv_at hl 0 rfl) ?_
    refine lv_bipush (v := 6) hx hb dX6_readSounds_7 (by decide) ?_
    refine lv_icmp_ge (tgt := 41) hx hb dX6_readSounds_9 (by decide) (fun _ => ?_) (fun c_ => absurd ((nI_leI (a := 6) (b := 6) (by omega) (by omega)).mpr (by omega)) c_)
    have hX9 := cut2 (wc := [(xo_6_ririii h bs (nI z) td w_7 w_8 w_9), (xI bs cI 120 fb), (xo_3_iiiiiiiirrrrr td tv0 tv1 tv2 tv3 (nI thh) tv5 (nI tww) (nI w_10) tb1 tb2 tb3 tb4 tb5), (xI tb1 cI 6 tg1), (xI tb2 cI 6 w_11), (xI tb3 cI 6 w_12), (xI tb4 cI 6 w_13), (xI tb5 cI 6 w_14)]) hP hD [0, 1, 2, 3, 4, 5, 6, 7] (by decide +kernel) rfl
    exact W.vret hx hb hr (fun t ht hW => ⟨⟨(), rfl, trivial, ⟨w_7, w_8, w_9, w_10, w_11, w_12, w_13, w_14, va_Ht ht hX9.1, hX9.2, (lf_X6_readSounds_6 thb hz htww htkk hF_1_0 hF_1_1 haf_0 hnb_w_10), (lf_X6_readSounds_7 thb hz htww htkk hF_1_0 hF_1_1 haf_0 hnb_w_10)⟩⟩, hS.F ht⟩) hS.2.2 dX6_readSounds_41
theorem lf_X6_read_1 {z : Nat} {fb : Nat → Int32} {thh : Nat} {tww : Nat} {tkk : Nat} {tg1 : Nat → Int32} {tg2 : Nat → Int32} {tg3 : Nat → Int32} {tg4 : Nat → Int32} {tg5 : Nat → Int32} {fpn_2 : Int32} {fn_2 : Int32} {kn_2 : Int32} {tv0n_2 : Int32} {tv1n_2 : Int32} {tv2n_2 : Int32} {fpn_3 : Int32} {fn_3 : Int32} {kn_3 : Int32} {tn_3 : Nat} {tg1n_3 : Nat → Int32} {fpn_4 : Int32} {fn_4 : Int32} {kn_4 : Int32} {tn_4 : Nat} {tg2n_4 : Nat → Int32} {tg3n_4 : Nat → Int32} {tg4n_4 : Nat → Int32} {tg5n_4 : Nat → Int32} (thb : thh ≤ 999) (hz : z ≤ 120) (htww : tww ≤ 6) (htkk : tkk ≤ 6) (hF_2_0 : xLc fb z (0, 0, 0) = (fpn_2, fn_2, kn_2)) (hF_2_1 : tv0n_2 = xL0 fb z (0, 0, 0)) (hF_2_2 : tv1n_2 = xL1 fb z (0, 0, 0)) (hF_2_3 : tv2n_2 = xL2 fb z (0, 0, 0)) (hF_3_0 : tn_3 ≤ 6) (hF_3_1 : xWs fb z 6 (xW fb z ((fpn_2, fn_2, kn_2), 0, tg1)) = ((fpn_3, fn_3, kn_3), tn_3, tg1n_3)) (hF_4_0 : tn_4 ≤ 6) (hF_4_1 : xSs fb z tv0n_2 6 (xS fb z tv0n_2 ((fpn_3, fn_3, kn_3), 0, tg2, tg3, tg4, tg5)) = ((fpn_4, fn_4, kn_4), tn_4, tg2n_4, tg3n_4, tg4n_4, tg5n_4)) : tn_3 ≤ 6 := by
  first
  | omega
  | (simp only [xRs, xRw]; grind)
  | grind
theorem lf_X6_read_2 {z : Nat} {fb : Nat → Int32} {thh : Nat} {tww : Nat} {tkk : Nat} {tg1 : Nat → Int32} {tg2 : Nat → Int32} {tg3 : Nat → Int32} {tg4 : Nat → Int32} {tg5 : Nat → Int32} {fpn_2 : Int32} {fn_2 : Int32} {kn_2 : Int32} {tv0n_2 : Int32} {tv1n_2 : Int32} {tv2n_2 : Int32} {fpn_3 : Int32} {fn_3 : Int32} {kn_3 : Int32} {tn_3 : Nat} {tg1n_3 : Nat → Int32} {fpn_4 : Int32} {fn_4 : Int32} {kn_4 : Int32} {tn_4 : Nat} {tg2n_4 : Nat → Int32} {tg3n_4 : Nat → Int32} {tg4n_4 : Nat → Int32} {tg5n_4 : Nat → Int32} (thb : thh ≤ 999) (hz : z ≤ 120) (htww : tww ≤ 6) (htkk : tkk ≤ 6) (hF_2_0 : xLc fb z (0, 0, 0) = (fpn_2, fn_2, kn_2)) (hF_2_1 : tv0n_2 = xL0 fb z (0, 0, 0)) (hF_2_2 : tv1n_2 = xL1 fb z (0, 0, 0)) (hF_2_3 : tv2n_2 = xL2 fb z (0, 0, 0)) (hF_3_0 : tn_3 ≤ 6) (hF_3_1 : xWs fb z 6 (xW fb z ((fpn_2, fn_2, kn_2), 0, tg1)) = ((fpn_3, fn_3, kn_3), tn_3, tg1n_3)) (hF_4_0 : tn_4 ≤ 6) (hF_4_1 : xSs fb z tv0n_2 6 (xS fb z tv0n_2 ((fpn_3, fn_3, kn_3), 0, tg2, tg3, tg4, tg5)) = ((fpn_4, fn_4, kn_4), tn_4, tg2n_4, tg3n_4, tg4n_4, tg5n_4)) : tn_4 ≤ 6 := by
  first
  | omega
  | (simp only [xRs, xRw]; grind)
  | grind
theorem lf_X6_read_3 {z : Nat} {fb : Nat → Int32} {thh : Nat} {tww : Nat} {tkk : Nat} {tg1 : Nat → Int32} {tg2 : Nat → Int32} {tg3 : Nat → Int32} {tg4 : Nat → Int32} {tg5 : Nat → Int32} {fpn_2 : Int32} {fn_2 : Int32} {kn_2 : Int32} {tv0n_2 : Int32} {tv1n_2 : Int32} {tv2n_2 : Int32} {fpn_3 : Int32} {fn_3 : Int32} {kn_3 : Int32} {tn_3 : Nat} {tg1n_3 : Nat → Int32} {fpn_4 : Int32} {fn_4 : Int32} {kn_4 : Int32} {tn_4 : Nat} {tg2n_4 : Nat → Int32} {tg3n_4 : Nat → Int32} {tg4n_4 : Nat → Int32} {tg5n_4 : Nat → Int32} (thb : thh ≤ 999) (hz : z ≤ 120) (htww : tww ≤ 6) (htkk : tkk ≤ 6) (hF_2_0 : xLc fb z (0, 0, 0) = (fpn_2, fn_2, kn_2)) (hF_2_1 : tv0n_2 = xL0 fb z (0, 0, 0)) (hF_2_2 : tv1n_2 = xL1 fb z (0, 0, 0)) (hF_2_3 : tv2n_2 = xL2 fb z (0, 0, 0)) (hF_3_0 : tn_3 ≤ 6) (hF_3_1 : xWs fb z 6 (xW fb z ((fpn_2, fn_2, kn_2), 0, tg1)) = ((fpn_3, fn_3, kn_3), tn_3, tg1n_3)) (hF_4_0 : tn_4 ≤ 6) (hF_4_1 : xSs fb z tv0n_2 6 (xS fb z tv0n_2 ((fpn_3, fn_3, kn_3), 0, tg2, tg3, tg4, tg5)) = ((fpn_4, fn_4, kn_4), tn_4, tg2n_4, tg3n_4, tg4n_4, tg5n_4)) : xRs fb z tg1 tg2 tg3 tg4 tg5 = ((fpn_4, fn_4, kn_4), tn_4, tg2n_4, tg3n_4, tg4n_4, tg5n_4) := by
  first
  | omega
  | (simp only [xRs, xRw]; grind)
  | grind
theorem lf_X6_read_4 {z : Nat} {fb : Nat → Int32} {thh : Nat} {tww : Nat} {tkk : Nat} {tg1 : Nat → Int32} {tg2 : Nat → Int32} {tg3 : Nat → Int32} {tg4 : Nat → Int32} {tg5 : Nat → Int32} {fpn_2 : Int32} {fn_2 : Int32} {kn_2 : Int32} {tv0n_2 : Int32} {tv1n_2 : Int32} {tv2n_2 : Int32} {fpn_3 : Int32} {fn_3 : Int32} {kn_3 : Int32} {tn_3 : Nat} {tg1n_3 : Nat → Int32} {fpn_4 : Int32} {fn_4 : Int32} {kn_4 : Int32} {tn_4 : Nat} {tg2n_4 : Nat → Int32} {tg3n_4 : Nat → Int32} {tg4n_4 : Nat → Int32} {tg5n_4 : Nat → Int32} (thb : thh ≤ 999) (hz : z ≤ 120) (htww : tww ≤ 6) (htkk : tkk ≤ 6) (hF_2_0 : xLc fb z (0, 0, 0) = (fpn_2, fn_2, kn_2)) (hF_2_1 : tv0n_2 = xL0 fb z (0, 0, 0)) (hF_2_2 : tv1n_2 = xL1 fb z (0, 0, 0)) (hF_2_3 : tv2n_2 = xL2 fb z (0, 0, 0)) (hF_3_0 : tn_3 ≤ 6) (hF_3_1 : xWs fb z 6 (xW fb z ((fpn_2, fn_2, kn_2), 0, tg1)) = ((fpn_3, fn_3, kn_3), tn_3, tg1n_3)) (hF_4_0 : tn_4 ≤ 6) (hF_4_1 : xSs fb z tv0n_2 6 (xS fb z tv0n_2 ((fpn_3, fn_3, kn_3), 0, tg2, tg3, tg4, tg5)) = ((fpn_4, fn_4, kn_4), tn_4, tg2n_4, tg3n_4, tg4n_4, tg5n_4)) : (xRw fb z tg1).2 = (tn_3, tg1n_3) := by
  first
  | omega
  | (simp only [xRs, xRw]; grind)
  | grind
theorem lf_X6_read_5 {z : Nat} {fb : Nat → Int32} {thh : Nat} {tww : Nat} {tkk : Nat} {tg1 : Nat → Int32} {tg2 : Nat → Int32} {tg3 : Nat → Int32} {tg4 : Nat → Int32} {tg5 : Nat → Int32} {fpn_2 : Int32} {fn_2 : Int32} {kn_2 : Int32} {tv0n_2 : Int32} {tv1n_2 : Int32} {tv2n_2 : Int32} {fpn_3 : Int32} {fn_3 : Int32} {kn_3 : Int32} {tn_3 : Nat} {tg1n_3 : Nat → Int32} {fpn_4 : Int32} {fn_4 : Int32} {kn_4 : Int32} {tn_4 : Nat} {tg2n_4 : Nat → Int32} {tg3n_4 : Nat → Int32} {tg4n_4 : Nat → Int32} {tg5n_4 : Nat → Int32} (thb : thh ≤ 999) (hz : z ≤ 120) (htww : tww ≤ 6) (htkk : tkk ≤ 6) (hF_2_0 : xLc fb z (0, 0, 0) = (fpn_2, fn_2, kn_2)) (hF_2_1 : tv0n_2 = xL0 fb z (0, 0, 0)) (hF_2_2 : tv1n_2 = xL1 fb z (0, 0, 0)) (hF_2_3 : tv2n_2 = xL2 fb z (0, 0, 0)) (hF_3_0 : tn_3 ≤ 6) (hF_3_1 : xWs fb z 6 (xW fb z ((fpn_2, fn_2, kn_2), 0, tg1)) = ((fpn_3, fn_3, kn_3), tn_3, tg1n_3)) (hF_4_0 : tn_4 ≤ 6) (hF_4_1 : xSs fb z tv0n_2 6 (xS fb z tv0n_2 ((fpn_3, fn_3, kn_3), 0, tg2, tg3, tg4, tg5)) = ((fpn_4, fn_4, kn_4), tn_4, tg2n_4, tg3n_4, tg4n_4, tg5n_4)) : tv0n_2 = xL0 fb z (0, 0, 0) := by
  first
  | omega
  | (simp only [xRs, xRw]; grind)
  | grind
theorem lf_X6_read_6 {z : Nat} {fb : Nat → Int32} {thh : Nat} {tww : Nat} {tkk : Nat} {tg1 : Nat → Int32} {tg2 : Nat → Int32} {tg3 : Nat → Int32} {tg4 : Nat → Int32} {tg5 : Nat → Int32} {fpn_2 : Int32} {fn_2 : Int32} {kn_2 : Int32} {tv0n_2 : Int32} {tv1n_2 : Int32} {tv2n_2 : Int32} {fpn_3 : Int32} {fn_3 : Int32} {kn_3 : Int32} {tn_3 : Nat} {tg1n_3 : Nat → Int32} {fpn_4 : Int32} {fn_4 : Int32} {kn_4 : Int32} {tn_4 : Nat} {tg2n_4 : Nat → Int32} {tg3n_4 : Nat → Int32} {tg4n_4 : Nat → Int32} {tg5n_4 : Nat → Int32} (thb : thh ≤ 999) (hz : z ≤ 120) (htww : tww ≤ 6) (htkk : tkk ≤ 6) (hF_2_0 : xLc fb z (0, 0, 0) = (fpn_2, fn_2, kn_2)) (hF_2_1 : tv0n_2 = xL0 fb z (0, 0, 0)) (hF_2_2 : tv1n_2 = xL1 fb z (0, 0, 0)) (hF_2_3 : tv2n_2 = xL2 fb z (0, 0, 0)) (hF_3_0 : tn_3 ≤ 6) (hF_3_1 : xWs fb z 6 (xW fb z ((fpn_2, fn_2, kn_2), 0, tg1)) = ((fpn_3, fn_3, kn_3), tn_3, tg1n_3)) (hF_4_0 : tn_4 ≤ 6) (hF_4_1 : xSs fb z tv0n_2 6 (xS fb z tv0n_2 ((fpn_3, fn_3, kn_3), 0, tg2, tg3, tg4, tg5)) = ((fpn_4, fn_4, kn_4), tn_4, tg2n_4, tg3n_4, tg4n_4, tg5n_4)) : tv1n_2 = xL1 fb z (0, 0, 0) := by
  first
  | omega
  | (simp only [xRs, xRw]; grind)
  | grind
theorem lf_X6_read_7 {z : Nat} {fb : Nat → Int32} {thh : Nat} {tww : Nat} {tkk : Nat} {tg1 : Nat → Int32} {tg2 : Nat → Int32} {tg3 : Nat → Int32} {tg4 : Nat → Int32} {tg5 : Nat → Int32} {fpn_2 : Int32} {fn_2 : Int32} {kn_2 : Int32} {tv0n_2 : Int32} {tv1n_2 : Int32} {tv2n_2 : Int32} {fpn_3 : Int32} {fn_3 : Int32} {kn_3 : Int32} {tn_3 : Nat} {tg1n_3 : Nat → Int32} {fpn_4 : Int32} {fn_4 : Int32} {kn_4 : Int32} {tn_4 : Nat} {tg2n_4 : Nat → Int32} {tg3n_4 : Nat → Int32} {tg4n_4 : Nat → Int32} {tg5n_4 : Nat → Int32} (thb : thh ≤ 999) (hz : z ≤ 120) (htww : tww ≤ 6) (htkk : tkk ≤ 6) (hF_2_0 : xLc fb z (0, 0, 0) = (fpn_2, fn_2, kn_2)) (hF_2_1 : tv0n_2 = xL0 fb z (0, 0, 0)) (hF_2_2 : tv1n_2 = xL1 fb z (0, 0, 0)) (hF_2_3 : tv2n_2 = xL2 fb z (0, 0, 0)) (hF_3_0 : tn_3 ≤ 6) (hF_3_1 : xWs fb z 6 (xW fb z ((fpn_2, fn_2, kn_2), 0, tg1)) = ((fpn_3, fn_3, kn_3), tn_3, tg1n_3)) (hF_4_0 : tn_4 ≤ 6) (hF_4_1 : xSs fb z tv0n_2 6 (xS fb z tv0n_2 ((fpn_3, fn_3, kn_3), 0, tg2, tg3, tg4, tg5)) = ((fpn_4, fn_4, kn_4), tn_4, tg2n_4, tg3n_4, tg4n_4, tg5n_4)) : tv2n_2 = xL2 fb z (0, 0, 0) := by
  first
  | omega
  | (simp only [xRs, xRw]; grind)
  | grind
theorem lf_X6_read_8 {z : Nat} {fb : Nat → Int32} {thh : Nat} {tww : Nat} {tkk : Nat} {tg1 : Nat → Int32} {tg2 : Nat → Int32} {tg3 : Nat → Int32} {tg4 : Nat → Int32} {tg5 : Nat → Int32} {fpn_2 : Int32} {fn_2 : Int32} {kn_2 : Int32} {tv0n_2 : Int32} {tv1n_2 : Int32} {tv2n_2 : Int32} {fpn_3 : Int32} {fn_3 : Int32} {kn_3 : Int32} {tn_3 : Nat} {tg1n_3 : Nat → Int32} {fpn_4 : Int32} {fn_4 : Int32} {kn_4 : Int32} {tn_4 : Nat} {tg2n_4 : Nat → Int32} {tg3n_4 : Nat → Int32} {tg4n_4 : Nat → Int32} {tg5n_4 : Nat → Int32} (thb : thh ≤ 999) (hz : z ≤ 120) (htww : tww ≤ 6) (htkk : tkk ≤ 6) (hF_2_0 : xLc fb z (0, 0, 0) = (fpn_2, fn_2, kn_2)) (hF_2_1 : tv0n_2 = xL0 fb z (0, 0, 0)) (hF_2_2 : tv1n_2 = xL1 fb z (0, 0, 0)) (hF_2_3 : tv2n_2 = xL2 fb z (0, 0, 0)) (hF_3_0 : tn_3 ≤ 6) (hF_3_1 : xWs fb z 6 (xW fb z ((fpn_2, fn_2, kn_2), 0, tg1)) = ((fpn_3, fn_3, kn_3), tn_3, tg1n_3)) (hF_4_0 : tn_4 ≤ 6) (hF_4_1 : xSs fb z tv0n_2 6 (xS fb z tv0n_2 ((fpn_3, fn_3, kn_3), 0, tg2, tg3, tg4, tg5)) = ((fpn_4, fn_4, kn_4), tn_4, tg2n_4, tg3n_4, tg4n_4, tg5n_4)) : fn_4 = ((xRs fb z tg1 tg2 tg3 tg4 tg5).1.2.1) := by
  first
  | omega
  | (simp only [xRs, xRw]; grind)
  | grind
set_option maxHeartbeats 4000000 in
set_option maxRecDepth 100000 in
theorem r_X6_read (l : Launch) (dC : Nat → ClassId) (dI : Nat → Nat → Nat) (cI cZ cL cJ : ClassId) (sz : Nat) (h : Nat) (bs : Nat) (td : Nat) (z : Nat) (fp : Int32) (f : Int32) (k : Int32) (fb : Nat → Int32) (tv0 : Int32) (tv1 : Int32) (tv2 : Int32) (tv3 : Int32) (tv5 : Int32) (thh : Nat) (tww : Nat) (tkk : Nat) (tb1 : Nat) (tb2 : Nat) (tb3 : Nat) (tb4 : Nat) (tb5 : Nat) (tg1 : Nat → Int32) (tg2 : Nat → Int32) (tg3 : Nat → Int32) (tg4 : Nat → Int32) (tg5 : Nat → Int32) (thb : thh ≤ 999) (hz : z ≤ 120) (htww : tww ≤ 6) (htkk : tkk ≤ 6) : Met l yX6_read wsX6_read ({ frames := 5, cells := 0, slots := 0, locals := 111 }) (va_Pc [.ref h] (fun U => U.heap.size = sz ∧ va_P (dC, dI) vwCl [(xo_6_ririii h bs (nI z) td fp f k), (xI bs cI 120 fb), (xo_3_iiiiiiiirrrrr td tv0 tv1 tv2 tv3 (nI thh) tv5 (nI tww) (nI tkk) tb1 tb2 tb3 tb4 tb5), (xI tb1 cI 6 tg1), (xI tb2 cI 6 tg2), (xI tb3 cI 6 tg3), (xI tb4 cI 6 tg4), (xI tb5 cI 6 tg5)] U.heap ∧ va_K (dC, dI) vwCl [(cI, .int), (cZ, .boolean), (cL, .object RX3), (cJ, .array .int)] U ∧ va_D (fun _ => True) [(xo_6_ririii h bs (nI z) td fp f k), (xI bs cI 120 fb), (xo_3_iiiiiiiirrrrr td tv0 tv1 tv2 tv3 (nI thh) tv5 (nI tww) (nI tkk) tb1 tb2 tb3 tb4 tb5), (xI tb1 cI 6 tg1), (xI tb2 cI 6 tg2), (xI tb3 cI 6 tg3), (xI tb4 cI 6 tg4), (xI tb5 cI 6 tg5)])) (va_Qi (fun r (_ : Unit) => r = ((xRs fb z tg1 tg2 tg3 tg4 tg5).1.2.1)) (fun (_ : Unit) t => ∃ (fpn : Int32) (fn : Int32) (kn : Int32) (tv0n : Int32) (tv1n : Int32) (tv2n : Int32) (twn : Nat) (tkn : Nat) (tg1n : Nat → Int32) (tg2n : Nat → Int32) (tg3n : Nat → Int32) (tg4n : Nat → Int32) (tg5n : Nat → Int32), va_P (dC, dI) vwCl [(xo_6_ririii h bs (nI 0) td fpn fn kn), (xI bs cI 120 fb), (xo_3_iiiiiiiirrrrr td tv0n tv1n tv2n 1 (nI 0) 0 (nI twn) (nI tkn) tb1 tb2 tb3 tb4 tb5), (xI tb1 cI 6 tg1n), (xI tb2 cI 6 tg2n), (xI tb3 cI 6 tg3n), (xI tb4 cI 6 tg4n), (xI tb5 cI 6 tg5n)] t.heap ∧ va_D (va_A [(xo_6_ririii h bs (nI z) td fp f k), (xI bs cI 120 fb), (xo_3_iiiiiiiirrrrr td tv0 tv1 tv2 tv3 (nI thh) tv5 (nI tww) (nI tkk) tb1 tb2 tb3 tb4 tb5), (xI tb1 cI 6 tg1), (xI tb2 cI 6 tg2), (xI tb3 cI 6 tg3), (xI tb4 cI 6 tg4), (xI tb5 cI 6 tg5)] sz) [(xo_6_ririii h bs (nI 0) td fpn fn kn), (xI bs cI 120 fb), (xo_3_iiiiiiiirrrrr td tv0n tv1n tv2n 1 (nI 0) 0 (nI twn) (nI tkn) tb1 tb2 tb3 tb4 tb5), (xI tb1 cI 6 tg1n), (xI tb2 cI 6 tg2n), (xI tb3 cI 6 tg3n), (xI tb4 cI 6 tg4n), (xI tb5 cI 6 tg5n)] ∧ twn ≤ 6 ∧ tkn ≤ 6 ∧ xRs fb z tg1 tg2 tg3 tg4 tg5 = ((fpn, fn, kn), tkn, tg2n, tg3n, tg4n, tg5n) ∧ (xRw fb z tg1).2 = (twn, tg1n) ∧ tv0n = xL0 fb z (0, 0, 0) ∧ tv1n = xL1 fb z (0, 0, 0) ∧ tv2n = xL2 fb z (0, 0, 0)) (va_A [(xo_6_ririii h bs (nI z) td fp f k), (xI bs cI 120 fb), (xo_3_iiiiiiiirrrrr td tv0 tv1 tv2 tv3 (nI thh) tv5 (nI tww) (nI tkk) tb1 tb2 tb3 tb4 tb5), (xI tb1 cI 6 tg1), (xI tb2 cI 6 tg2), (xI tb3 cI 6 tg3), (xI tb4 cI 6 tg4), (xI tb5 cI 6 tg5)] sz)) 0 0 (va_A [(xo_6_ririii h bs (nI z) td fp f k), (xI bs cI 120 fb), (xo_3_iiiiiiiirrrrr td tv0 tv1 tv2 tv3 (nI thh) tv5 (nI tww) (nI tkk) tb1 tb2 tb3 tb4 tb5), (xI tb1 cI 6 tg1), (xI tb2 cI 6 tg2), (xI tb3 cI 6 tg3), (xI tb4 cI 6 tg4), (xI tb5 cI 6 tg5)] sz) := by
  refine Met.ofW (cc := cX6_read) (maxL := 1) (ret := (some .int)) (by decide) rfl ?_
  intro p e s m args below meth c s₁ B hml hv
  obtain ⟨rfl, hsz, hP, hK, hD0⟩ := hv
  have hx := B.exec
  have hb := B.bytes
  have hr := B.returns
  have hts := atoms_spec (ws := wsX6_read) B.pre
  have hown : s.vm.findClass RX6 = some m.cls := findClass_of_methodNamed B.named
  have hlocks := B.notSynchronized
  subst hsz
  have hD := hD0.self (sz := s.heap.size)
  generalize hAe : va_A [(xo_6_ririii h bs (nI z) td fp f k), (xI bs cI 120 fb), (xo_3_iiiiiiiirrrrr td tv0 tv1 tv2 tv3 (nI thh) tv5 (nI tww) (nI tkk) tb1 tb2 tb3 tb4 tb5), (xI tb1 cI 6 tg1), (xI tb2 cI 6 tg2), (xI tb3 cI 6 tg3), (xI tb4 cI 6 tg4), (xI tb5 cI 6 tg5)] s.heap.size = A at hD ⊢
  have hA : ∀ q : Nat, s.heap.size ≤ q → A q := fun q h => by rw [← hAe]; exact Or.inr h
  have hS : va_S A s.heap s.heap [] := va_S.rf
  have hP : va_P (dC, dI) vwCl [(xo_6_ririii h bs (nI z) td fp f k), (xI bs cI 120 fb), (xo_3_iiiiiiiirrrrr td tv0 tv1 tv2 tv3 (nI thh) tv5 (nI tww) (nI tkk) tb1 tb2 tb3 tb4 tb5), (xI tb1 cI 6 tg1), (xI tb2 cI 6 tg2), (xI tb3 cI 6 tg3), (xI tb4 cI 6 tg4), (xI tb5 cI 6 tg5)] s.heap := hP
  have hl := lv_entry ([.ref h]) (n := 1) (Nat.le_of_ble_eq_true rfl)
  rw [lg_entry_eq]
  generalize (lg_sl ([.ref h]) ++ List.replicate (1 - (lg_sl ([.ref h])).length) Slot.unset).toArray = ls at hl ⊢
  have hl : lv_has ls 1 [(0, .ref h)] := hl
  refine lv_aload_n hx hb dX6_read_0 rfl (lv_at hl 0 rfl) ?_
  refine lv_iconst (v := 0) hx hb dX6_read_1 (by decide) ?_
  refine va_put (D := (dC, dI)) (ci := 6) (v := .int 0) (ty := .int) (C := RX6) (T := TX6) (N := 6) hx hb hts i_X6_read_X6 tyX6 tyX6_ok nmX6 hown hK hP hD hS 0 rfl rfl 4 (by decide) (hts _ mx_X6_read_1) (fun _ h9 => h9) rfl (by decide +kernel) rfl rfl (Nat.le_of_ble_eq_true rfl) dX6_read_2 (fun H locs hP hD hS => ?_)
  have hP : va_P (dC, dI) vwCl [(xo_6_ririii h bs (nI z) td fp 0 k), (xI bs cI 120 fb), (xo_3_iiiiiiiirrrrr td tv0 tv1 tv2 tv3 (nI thh) tv5 (nI tww) (nI tkk) tb1 tb2 tb3 tb4 tb5), (xI tb1 cI 6 tg1), (xI tb2 cI 6 tg2), (xI tb3 cI 6 tg3), (xI tb4 cI 6 tg4), (xI tb5 cI 6 tg5)] H := hP
  have hD := dto hP hD
  refine lv_aload_n hx hb dX6_read_5 rfl (lv_at hl 0 rfl) ?_
  refine lv_iconst (v := 0) hx hb dX6_read_6 (by decide) ?_
  refine va_put (D := (dC, dI)) (ci := 6) (v := .int 0) (ty := .int) (C := RX6) (T := TX6) (N := 6) hx hb hts i_X6_read_X6 tyX6 tyX6_ok nmX6 hown hK hP hD hS 0 rfl rfl 3 (by decide) (hts _ mx_X6_read_2) (fun _ h9 => h9) rfl (by decide +kernel) rfl rfl (Nat.le_of_ble_eq_true rfl) dX6_read_7 (fun H locs hP hD hS => ?_)
  have hP : va_P (dC, dI) vwCl [(xo_6_ririii h bs (nI z) td 0 0 k), (xI bs cI 120 fb), (xo_3_iiiiiiiirrrrr td tv0 tv1 tv2 tv3 (nI thh) tv5 (nI tww) (nI tkk) tb1 tb2 tb3 tb4 tb5), (xI tb1 cI 6 tg1), (xI tb2 cI 6 tg2), (xI tb3 cI 6 tg3), (xI tb4 cI 6 tg4), (xI tb5 cI 6 tg5)] H := hP
  have hD := dto hP hD
  refine lv_aload_n hx hb dX6_read_10 rfl (lv_at hl 0 rfl) ?_
  refine lv_iconst (v := 0) hx hb dX6_read_11 (by decide) ?_
  refine va_put (D := (dC, dI)) (ci := 6) (v := .int 0) (ty := .int) (C := RX6) (T := TX6) (N := 6) hx hb hts i_X6_read_X6 tyX6 tyX6_ok nmX6 hown hK hP hD hS 0 rfl rfl 5 (by decide) (hts _ mx_X6_read_3) (fun _ h9 => h9) rfl (by decide +kernel) rfl rfl (Nat.le_of_ble_eq_true rfl) dX6_read_12 (fun H locs hP hD hS => ?_)
  have hP : va_P (dC, dI) vwCl [(xo_6_ririii h bs (nI z) td 0 0 0), (xI bs cI 120 fb), (xo_3_iiiiiiiirrrrr td tv0 tv1 tv2 tv3 (nI thh) tv5 (nI tww) (nI tkk) tb1 tb2 tb3 tb4 tb5), (xI tb1 cI 6 tg1), (xI tb2 cI 6 tg2), (xI tb3 cI 6 tg3), (xI tb4 cI 6 tg4), (xI tb5 cI 6 tg5)] H := hP
  have hD := dto hP hD
  refine lv_aload_n hx hb dX6_read_15 rfl (lv_at hl 0 rfl) ?_
  refine va_get (D := (dC, dI)) (ci := 6) (v := .ref td) (C := RX6) (T := TX6) (N := 6) hx hb hts i_X6_read_X6 hown hK hP 0 rfl rfl 2 (by decide) (hts _ mx_X6_read_4) (fun _ h9 => h9) rfl dX6_read_16 ?_
  have hc_1 := cutW (wc := [(xo_3_iiiiiiiirrrrr td tv0 tv1 tv2 tv3 (nI thh) tv5 (nI tww) (nI tkk) tb1 tb2 tb3 tb4 tb5), (xI tb1 cI 6 tg1), (xI tb2 cI 6 tg2), (xI tb3 cI 6 tg3), (xI tb4 cI 6 tg4), (xI tb5 cI 6 tg5)]) hP hD hS hA [2, 3, 4, 5, 6, 7] (by decide +kernel) rfl
  refine va_callv (va_runV (As := []) (rest := []) ⟨hx, hb, hml, hown, hts⟩ (r_X3_begin l dC dI cI cZ cL cJ H.size td tv0 tv1 tv2 tv3 tv5 thh tww tkk tb1 tb2 tb3 tb4 tb5 tg1 tg2 tg3 tg4 tg5 (by omega) (htww) (htkk)) (cwV 0 hts gX6_read_X3_begin rfl rfl rfl (by decide +kernel) ⟨Nat.le_of_ble_eq_true rfl, Nat.le_of_ble_eq_true rfl⟩) (pvW 3 2 hK hP rfl rfl hc_1) rfl rfl hl.1 rfl (lv_room (Nat.le_of_ble_eq_true rfl)) dX6_read_19 ⟨Nat.le_of_ble_eq_true rfl, Nat.le_of_ble_eq_true rfl⟩) hS (fun q _ h => hc_1.2.2 q h) hc_1.2.2 (fun u_1 t_1 H1 locs ht hvm h_1 hB hz1 hk1 hS => ?_)
  refine xl_0_2 hB (fun hP1 hD1 => ?_)
  clear hB
  rw [ht] at hP1
  obtain ⟨hP, hD⟩ := va_join (wr := [(xo_6_ririii h bs (nI z) td 0 0 0), (xI bs cI 120 fb)]) (w1 := [(xo_3_iiiiiiiirrrrr td 0 0 0 1 0 0 0 0 tb1 tb2 tb3 tb4 tb5), (xI tb1 cI 6 tg1), (xI tb2 cI 6 tg2), (xI tb3 cI 6 tg3), (xI tb4 cI 6 tg4), (xI tb5 cI 6 tg5)]) hP hD [2, 3, 4, 5, 6, 7] [0, 1] rfl rfl (by decide +kernel) (by decide +kernel) hk1 hc_1.2.2 hP1 hD1
  generalize H1 = H at hP hS ⊢
  have hP : va_P (dC, dI) vwCl [(xo_6_ririii h bs (nI z) td 0 0 0), (xI bs cI 120 fb), (xo_3_iiiiiiiirrrrr td 0 0 0 1 0 0 0 0 tb1 tb2 tb3 tb4 tb5), (xI tb1 cI 6 tg1), (xI tb2 cI 6 tg2), (xI tb3 cI 6 tg3), (xI tb4 cI 6 tg4), (xI tb5 cI 6 tg5)] H := hP
  have hD := dto hP hD
  refine lv_aload_n hx hb dX6_read_22 rfl (lv_at hl 0 rfl) ?_
  have hc_2 := cutW (wc := [(xo_6_ririii h bs (nI z) td 0 0 0), (xI bs cI 120 fb), (xo_3_iiiiiiiirrrrr td 0 0 0 1 (nI 0) 0 (nI 0) (nI 0) tb1 tb2 tb3 tb4 tb5), (xI tb1 cI 6 tg1), (xI tb2 cI 6 tg2), (xI tb3 cI 6 tg3), (xI tb4 cI 6 tg4), (xI tb5 cI 6 tg5)]) hP hD hS hA [0, 1, 2, 3, 4, 5, 6, 7] (by decide +kernel) rfl
  refine va_callv (va_runV (As := []) (rest := []) ⟨hx, hb, hml, hown, hts⟩ (r_X6_readLaw l dC dI cI cZ cL cJ H.size h bs td z 0 0 0 fb 0 0 0 1 0 0 0 0 tb1 tb2 tb3 tb4 tb5 tg1 tg2 tg3 tg4 tg5 (hz) (by omega) (by omega)) (cwV 0 hts gX6_read_X6_readLaw rfl rfl rfl (by decide +kernel) ⟨Nat.le_of_ble_eq_true rfl, Nat.le_of_ble_eq_true rfl⟩) (pvW 6 0 hK hP rfl rfl hc_2) rfl rfl hl.1 rfl (lv_room (Nat.le_of_ble_eq_true rfl)) dX6_read_23 ⟨Nat.le_of_ble_eq_true rfl, Nat.le_of_ble_eq_true rfl⟩) hS (fun q _ h => hc_2.2.2 q h) hc_2.2.2 (fun u_2 t_2 H1 locs ht hvm h_2 hB hz1 hk1 hS => ?_)
  refine xl_6_6 hB (fun fpn_2 fn_2 kn_2 tv0n_2 tv1n_2 tv2n_2 hP1 hD1 hF_2_0 hF_2_1 hF_2_2 hF_2_3 => ?_)
  clear hB
  rw [ht] at hP1
  obtain ⟨hP, hD⟩ := va_join (wr := []) (w1 := [(xo_6_ririii h bs (nI z) td fpn_2 fn_2 kn_2), (xI bs cI 120 fb), (xo_3_iiiiiiiirrrrr td tv0n_2 tv1n_2 tv2n_2 1 (nI 0) 0 (nI 0) (nI 0) tb1 tb2 tb3 tb4 tb5), (xI tb1 cI 6 tg1), (xI tb2 cI 6 tg2), (xI tb3 cI 6 tg3), (xI tb4 cI 6 tg4), (xI tb5 cI 6 tg5)]) hP hD [0, 1, 2, 3, 4, 5, 6, 7] [] rfl rfl (by decide +kernel) (by decide +kernel) hk1 hc_2.2.2 hP1 hD1
  generalize H1 = H at hP hS ⊢
  have hP : va_P (dC, dI) vwCl [(xo_6_ririii h bs (nI z) td fpn_2 fn_2 kn_2), (xI bs cI 120 fb), (xo_3_iiiiiiiirrrrr td tv0n_2 tv1n_2 tv2n_2 1 (nI 0) 0 (nI 0) (nI 0) tb1 tb2 tb3 tb4 tb5), (xI tb1 cI 6 tg1), (xI tb2 cI 6 tg2), (xI tb3 cI 6 tg3), (xI tb4 cI 6 tg4), (xI tb5 cI 6 tg5)] H := hP
  have hD := dto hP hD
  refine lv_aload_n hx hb dX6_read_26 rfl (lv_at hl 0 rfl) ?_
  have hc_3 := cutW (wc := [(xo_6_ririii h bs (nI z) td fpn_2 fn_2 kn_2), (xI bs cI 120 fb), (xo_3_iiiiiiiirrrrr td tv0n_2 tv1n_2 tv2n_2 1 (nI 0) 0 (nI 0) (nI 0) tb1 tb2 tb3 tb4 tb5), (xI tb1 cI 6 tg1), (xI tb2 cI 6 tg2), (xI tb3 cI 6 tg3), (xI tb4 cI 6 tg4), (xI tb5 cI 6 tg5)]) hP hD hS hA [0, 1, 2, 3, 4, 5, 6, 7] (by decide +kernel) rfl
  refine va_callv (va_runV (As := []) (rest := []) ⟨hx, hb, hml, hown, hts⟩ (r_X6_readWinds l dC dI cI cZ cL cJ H.size h bs td z fpn_2 fn_2 kn_2 fb tv0n_2 tv1n_2 tv2n_2 1 0 0 0 0 tb1 tb2 tb3 tb4 tb5 tg1 tg2 tg3 tg4 tg5 (hz) (by omega) (by omega)) (cwV 0 hts gX6_read_X6_readWinds rfl rfl rfl (by decide +kernel) ⟨Nat.le_of_ble_eq_true rfl, Nat.le_of_ble_eq_true rfl⟩) (pvW 6 0 hK hP rfl rfl hc_3) rfl rfl hl.1 rfl (lv_room (Nat.le_of_ble_eq_true rfl)) dX6_read_27 ⟨Nat.le_of_ble_eq_true rfl, Nat.le_of_ble_eq_true rfl⟩) hS (fun q _ h => hc_3.2.2 q h) hc_3.2.2 (fun u_3 t_3 H1 locs ht hvm h_3 hB hz1 hk1 hS => ?_)
  refine xl_5_4 hB (fun fpn_3 fn_3 kn_3 tn_3 tg1n_3 hP1 hD1 hF_3_0 hF_3_1 => ?_)
  clear hB
  rw [ht] at hP1
  obtain ⟨hP, hD⟩ := va_join (wr := []) (w1 := [(xo_6_ririii h bs (nI z) td fpn_3 fn_3 kn_3), (xI bs cI 120 fb), (xo_3_iiiiiiiirrrrr td tv0n_2 tv1n_2 tv2n_2 1 (nI 0) 0 (nI tn_3) (nI 0) tb1 tb2 tb3 tb4 tb5), (xI tb1 cI 6 tg1n_3), (xI tb2 cI 6 tg2), (xI tb3 cI 6 tg3), (xI tb4 cI 6 tg4), (xI tb5 cI 6 tg5)]) hP hD [0, 1, 2, 3, 4, 5, 6, 7] [] rfl rfl (by decide +kernel) (by decide +kernel) hk1 hc_3.2.2 hP1 hD1
  generalize H1 = H at hP hS ⊢
  have hP : va_P (dC, dI) vwCl [(xo_6_ririii h bs (nI z) td fpn_3 fn_3 kn_3), (xI bs cI 120 fb), (xo_3_iiiiiiiirrrrr td tv0n_2 tv1n_2 tv2n_2 1 (nI 0) 0 (nI tn_3) (nI 0) tb1 tb2 tb3 tb4 tb5), (xI tb1 cI 6 tg1n_3), (xI tb2 cI 6 tg2), (xI tb3 cI 6 tg3), (xI tb4 cI 6 tg4), (xI tb5 cI 6 tg5)] H := hP
  have hD := dto hP hD
  refine lv_aload_n hx hb dX6_read_30 rfl (lv_at hl 0 rfl) ?_
  have hc_4 := cutW (wc := [(xo_6_ririii h bs (nI z) td fpn_3 fn_3 kn_3), (xI bs cI 120 fb), (xo_3_iiiiiiiirrrrr td tv0n_2 tv1n_2 tv2n_2 1 (nI 0) 0 (nI tn_3) (nI 0) tb1 tb2 tb3 tb4 tb5), (xI tb1 cI 6 tg1n_3), (xI tb2 cI 6 tg2), (xI tb3 cI 6 tg3), (xI tb4 cI 6 tg4), (xI tb5 cI 6 tg5)]) hP hD hS hA [0, 1, 2, 3, 4, 5, 6, 7] (by decide +kernel) rfl
  refine va_callv (va_runV (As := []) (rest := []) ⟨hx, hb, hml, hown, hts⟩ (r_X6_readSounds l dC dI cI cZ cL cJ H.size h bs td z fpn_3 fn_3 kn_3 fb tv0n_2 tv1n_2 tv2n_2 1 0 0 tn_3 0 tb1 tb2 tb3 tb4 tb5 tg1n_3 tg2 tg3 tg4 tg5 (by omega) (hz) (by omega) (by omega)) (cwV 0 hts gX6_read_X6_readSounds rfl rfl rfl (by decide +kernel) ⟨Nat.le_of_ble_eq_true rfl, Nat.le_of_ble_eq_true rfl⟩) (pvW 6 0 hK hP rfl rfl hc_4) rfl rfl hl.1 rfl (lv_room (Nat.le_of_ble_eq_true rfl)) dX6_read_31 ⟨Nat.le_of_ble_eq_true rfl, Nat.le_of_ble_eq_true rfl⟩) hS (fun q _ h => hc_4.2.2 q h) hc_4.2.2 (fun u_4 t_4 H1 locs ht hvm h_4 hB hz1 hk1 hS => ?_)
  refine xl_8_4 hB (fun fpn_4 fn_4 kn_4 tn_4 tg2n_4 tg3n_4 tg4n_4 tg5n_4 hP1 hD1 hF_4_0 hF_4_1 => ?_)
  clear hB
  rw [ht] at hP1
  obtain ⟨hP, hD⟩ := va_join (wr := []) (w1 := [(xo_6_ririii h bs (nI z) td fpn_4 fn_4 kn_4), (xI bs cI 120 fb), (xo_3_iiiiiiiirrrrr td tv0n_2 tv1n_2 tv2n_2 1 (nI 0) 0 (nI tn_3) (nI tn_4) tb1 tb2 tb3 tb4 tb5), (xI tb1 cI 6 tg1n_3), (xI tb2 cI 6 tg2n_4), (xI tb3 cI 6 tg3n_4), (xI tb4 cI 6 tg4n_4), (xI tb5 cI 6 tg5n_4)]) hP hD [0, 1, 2, 3, 4, 5, 6, 7] [] rfl rfl (by decide +kernel) (by decide +kernel) hk1 hc_4.2.2 hP1 hD1
  generalize H1 = H at hP hS ⊢
  have hP : va_P (dC, dI) vwCl [(xo_6_ririii h bs (nI z) td fpn_4 fn_4 kn_4), (xI bs cI 120 fb), (xo_3_iiiiiiiirrrrr td tv0n_2 tv1n_2 tv2n_2 1 (nI 0) 0 (nI tn_3) (nI tn_4) tb1 tb2 tb3 tb4 tb5), (xI tb1 cI 6 tg1n_3), (xI tb2 cI 6 tg2n_4), (xI tb3 cI 6 tg3n_4), (xI tb4 cI 6 tg4n_4), (xI tb5 cI 6 tg5n_4)] H := hP
  have hD := dto hP hD
  refine lv_aload_n hx hb dX6_read_34 rfl (lv_at hl 0 rfl) ?_
  refine lv_iconst (v := 0) hx hb dX6_read_35 (by decide) ?_
  refine va_put (D := (dC, dI)) (ci := 6) (v := .int 0) (ty := .int) (C := RX6) (T := TX6) (N := 6) hx hb hts i_X6_read_X6 tyX6 tyX6_ok nmX6 hown hK hP hD hS 0 rfl rfl 1 (by decide) (hts _ mx_X6_read_5) (fun _ h9 => h9) rfl (by decide +kernel) rfl rfl (Nat.le_of_ble_eq_true rfl) dX6_read_36 (fun H locs hP hD hS => ?_)
  have hP : va_P (dC, dI) vwCl [(xo_6_ririii h bs 0 td fpn_4 fn_4 kn_4), (xI bs cI 120 fb), (xo_3_iiiiiiiirrrrr td tv0n_2 tv1n_2 tv2n_2 1 (nI 0) 0 (nI tn_3) (nI tn_4) tb1 tb2 tb3 tb4 tb5), (xI tb1 cI 6 tg1n_3), (xI tb2 cI 6 tg2n_4), (xI tb3 cI 6 tg3n_4), (xI tb4 cI 6 tg4n_4), (xI tb5 cI 6 tg5n_4)] H := hP
  have hD := dto hP hD
  refine lv_aload_n hx hb dX6_read_39 rfl (lv_at hl 0 rfl) ?_
  refine va_get (D := (dC, dI)) (ci := 6) (v := .int fn_4) (C := RX6) (T := TX6) (N := 6) hx hb hts i_X6_read_X6 hown hK hP 0 rfl rfl 4 (by decide) (hts _ mx_X6_read_1) (fun _ h9 => h9) rfl dX6_read_40 ?_
  have hX9 := cut2 (wc := [(xo_6_ririii h bs 0 td fpn_4 fn_4 kn_4), (xI bs cI 120 fb), (xo_3_iiiiiiiirrrrr td tv0n_2 tv1n_2 tv2n_2 1 (nI 0) 0 (nI tn_3) (nI tn_4) tb1 tb2 tb3 tb4 tb5), (xI tb1 cI 6 tg1n_3), (xI tb2 cI 6 tg2n_4), (xI tb3 cI 6 tg3n_4), (xI tb4 cI 6 tg4n_4), (xI tb5 cI 6 tg5n_4)]) hP hD [0, 1, 2, 3, 4, 5, 6, 7] (by decide +kernel) rfl
  exact W.iret (v := fn_4) hx hb hr (fun t ht hW => ⟨⟨fn_4, (), rfl, (lf_X6_read_8 thb hz htww htkk hF_2_0 hF_2_1 hF_2_2 hF_2_3 hF_3_0 hF_3_1 hF_4_0 hF_4_1), ⟨fpn_4, fn_4, kn_4, tv0n_2, tv1n_2, tv2n_2, tn_3, tn_4, tg1n_3, tg2n_4, tg3n_4, tg4n_4, tg5n_4, va_Ht ht hX9.1, hX9.2, (lf_X6_read_1 thb hz htww htkk hF_2_0 hF_2_1 hF_2_2 hF_2_3 hF_3_0 hF_3_1 hF_4_0 hF_4_1), (lf_X6_read_2 thb hz htww htkk hF_2_0 hF_2_1 hF_2_2 hF_2_3 hF_3_0 hF_3_1 hF_4_0 hF_4_1), (lf_X6_read_3 thb hz htww htkk hF_2_0 hF_2_1 hF_2_2 hF_2_3 hF_3_0 hF_3_1 hF_4_0 hF_4_1), (lf_X6_read_4 thb hz htww htkk hF_2_0 hF_2_1 hF_2_2 hF_2_3 hF_3_0 hF_3_1 hF_4_0 hF_4_1), (lf_X6_read_5 thb hz htww htkk hF_2_0 hF_2_1 hF_2_2 hF_2_3 hF_3_0 hF_3_1 hF_4_0 hF_4_1), (lf_X6_read_6 thb hz htww htkk hF_2_0 hF_2_1 hF_2_2 hF_2_3 hF_3_0 hF_3_1 hF_4_0 hF_4_1), (lf_X6_read_7 thb hz htww htkk hF_2_0 hF_2_1 hF_2_2 hF_2_3 hF_3_0 hF_3_1 hF_4_0 hF_4_1)⟩⟩, hS.F ht⟩) hS.2.2 dX6_read_43
