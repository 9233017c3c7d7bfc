set_option maxHeartbeats 4000000 in
set_option maxRecDepth 100000 in
theorem r_X6_isFull (l : Launch) (dC : Nat → ClassId) (dI : Nat → Nat → Nat) (cI cZ cL cJ : ClassId) (h : Nat) (bs : Nat) (td : Nat) (z : Nat) (fp : Int32) (f : Int32) (k : Int32) (hz : z ≤ 120) : Met l yX6_isFull wsX6_isFull ({ frames := 0, cells := 0, slots := 0, locals := 0 }) (va_Pc [.ref h] (fun U => va_P (dC, dI) vwCl [(xo_6_ririii h bs (nI z) td fp f k)] U.heap ∧ va_K (dC, dI) vwCl [(cI, .int), (cZ, .boolean), (cL, .object RX3), (cJ, .array .int)] U)) (vp_Si (fun r => (r = 0 ∧ z < 120) ∨ (r = 1 ∧ z = 120))) 0 0 (fun _ => False) := by
  refine Met.ofW (cc := cX6_isFull) (maxL := 1) (ret := (some .boolean)) (by decide) rfl ?_
  intro p e s m args below meth c s₁ B hml hv
  obtain ⟨rfl, hP, hK⟩ := hv
  have hx := B.exec
  have hb := B.bytes
  have hr := B.returns
  have hts := atoms_spec (ws := wsX6_isFull) B.pre
  have hown : s.vm.findClass RX6 = some m.cls := findClass_of_methodNamed B.named
  have hlocks := B.notSynchronized
  have hP : va_P (dC, dI) vwCl [(xo_6_ririii h bs (nI z) td fp f k)] s.heap := hP
  have hl := lv_entry ([.ref h]) (n := 1) (Nat.le_of_ble_eq_true rfl)
  rw [lg_entry_eq]
  generalize (lg_sl ([.ref h]) ++ List.replicate (1 - (lg_sl ([.ref h])).length) Slot.unset).toArray = ls at hl ⊢
  have hl : lv_has ls 1 [(0, .ref h)] := hl
  refine lv_aload_n hx hb dX6_isFull_0 rfl (lv_at hl 0 rfl) ?_
  refine va_get (D := (dC, dI)) (ci := 6) (v := .int (nI z)) (C := RX6) (T := TX6) (N := 6) hx hb hts i_X6_isFull_X6 hown hK hP 0 rfl rfl 1 (by decide) (hts _ mx_X6_isFull_1) (fun _ h9 => h9) rfl dX6_isFull_1 ?_
  refine lv_bipush (v := 120) hx hb dX6_isFull_4 (by decide) ?_
  refine lv_icmp_lt (tgt := 13) hx hb dX6_isFull_6 (by decide) (fun c_1 => ?_) (fun c_1 => ?_)
  · have c_1 : z < 120 := (nI_ltI (a := z) (b := 120) (by omega) (by omega)).mp c_1
    refine lv_iconst (v := 0) hx hb dX6_isFull_13 (by decide) ?_
    exact W.zret (v := 0) hx hb hr (by decide) (fun t ht hW => ⟨0, rfl, Or.inl ⟨rfl, by omega⟩, ht⟩) (fun _ h => by cases h) dX6_isFull_14
  · have c_1 : ¬ (z < 120) := fun q_ => c_1 ((nI_ltI (a := z) (b := 120) (by omega) (by omega)).mpr q_)
    refine lv_iconst (v := 1) hx hb dX6_isFull_9 (by decide) ?_
    refine lv_goto (tgt := 14) hx hb dX6_isFull_10 (by decide) ?_
    exact W.zret (v := 1) hx hb hr (by decide) (fun t ht hW => ⟨1, rfl, Or.inr ⟨rfl, by omega⟩, ht⟩) (fun _ h => by cases h) dX6_isFull_14
theorem lf_X6_append_1 {z : Nat} {fb : Nat → Int32} {x : Int32} {g_3 : Nat → Int32} (hz : z ≤ 120) (f_1_0_0 : z < 120) (hu_3 : g_3 = upd fb z x) : (z + 1) ≤ 120 := by
  first | omega | (unfold apz; grind) | (unfold apb; grind)
theorem lf_X6_append_2 {z : Nat} {fb : Nat → Int32} {x : Int32} {g_3 : Nat → Int32} (hz : z ≤ 120) (f_1_0_0 : z < 120) (hu_3 : g_3 = upd fb z x) : (z + 1) = apz z := by
  first | omega | (unfold apz; grind) | (unfold apb; grind)
theorem lf_X6_append_3 {z : Nat} {fb : Nat → Int32} {x : Int32} {g_3 : Nat → Int32} (hz : z ≤ 120) (f_1_0_0 : z < 120) (hu_3 : g_3 = upd fb z x) : g_3 = apb fb z x := by
  first | omega | (unfold apz; grind) | (unfold apb; grind)
theorem lf_X6_append_4 {z : Nat} {fb : Nat → Int32} {x : Int32} {g_3 : Nat → Int32} (hz : z ≤ 120) (f_1_0_0 : z < 120) (hu_3 : g_3 = upd fb z x) : (nI (z + 1)) = (nI (apz z)) := by
  first | omega | (unfold apz; grind) | (unfold apb; grind)
theorem lf_X6_append_5 {z : Nat} (hz : z ≤ 120) (f_1_1_0 : z = 120) : z ≤ 120 := by
  first | omega | (unfold apz; grind) | (unfold apb; grind)
theorem lf_X6_append_6 {z : Nat} (hz : z ≤ 120) (f_1_1_0 : z = 120) : z = apz z := by
  first | omega | (unfold apz; grind) | (unfold apb; grind)
theorem lf_X6_append_7 {z : Nat} {fb : Nat → Int32} {x : Int32} (hz : z ≤ 120) (f_1_1_0 : z = 120) : fb = apb fb z x := by
  first | omega | (unfold apz; grind) | (unfold apb; grind)
theorem lf_X6_append_8 {z : Nat} (hz : z ≤ 120) (f_1_1_0 : z = 120) : (nI z) = (nI (apz z)) := by
  first | omega | (unfold apz; grind) | (unfold apb; grind)
set_option maxHeartbeats 4000000 in
set_option maxRecDepth 100000 in
theorem r_X6_append (l : Launch) (dC : Nat → ClassId) (dI : Nat → Nat → Nat) (cI cZ cL cJ : ClassId) (sz : Nat) (h : Nat) (bs : Nat) (td : Nat) (z : Nat) (fp : Int32) (f : Int32) (k : Int32) (fb : Nat → Int32) (x : Int32) (hz : z ≤ 120) : Met l yX6_append wsX6_append ({ frames := 1, cells := 0, slots := 0, locals := 20 }) (va_Pc [.ref h, .int x] (fun U => U.heap.size = sz ∧ va_P (dC, dI) vwCl [(xo_6_ririii h bs (nI z) td fp f k), (xI bs cI 120 fb)] U.heap ∧ va_K (dC, dI) vwCl [(cI, .int), (cZ, .boolean), (cL, .object RX3), (cJ, .array .int)] U ∧ va_D (fun _ => True) [(xo_6_ririii h bs (nI z) td fp f k), (xI bs cI 120 fb)])) (va_Qi (fun r (_ : Unit) => r = (nI (apz z))) (fun (_ : Unit) t => ∃ (zn : Nat) (fbn : Nat → Int32), va_P (dC, dI) vwCl [(xo_6_ririii h bs (nI zn) td fp f k), (xI bs cI 120 fbn)] t.heap ∧ va_D (va_A [(xo_6_ririii h bs (nI z) td fp f k), (xI bs cI 120 fb)] sz) [(xo_6_ririii h bs (nI zn) td fp f k), (xI bs cI 120 fbn)] ∧ zn ≤ 120 ∧ zn = apz z ∧ fbn = apb fb z x) (va_A [(xo_6_ririii h bs (nI z) td fp f k), (xI bs cI 120 fb)] sz)) 0 0 (va_A [(xo_6_ririii h bs (nI z) td fp f k), (xI bs cI 120 fb)] sz) := by
  refine Met.ofW (cc := cX6_append) (maxL := 2) (ret := (some .int)) (by decide) rfl ?_
  intro p e s m args below meth c s₁ B hml hv
  obtain ⟨rfl, hsz, hP, hK, hD0⟩ := hv
  have hx := B.exec
  have hb := B.bytes
  have hr := B.returns
  have hts := atoms_spec (ws := wsX6_append) B.pre
  have hown : s.vm.findClass RX6 = some m.cls := findClass_of_methodNamed B.named
  have hlocks := B.notSynchronized
  subst hsz
  have hD := hD0.self (sz := s.heap.size)
  generalize hAe : va_A [(xo_6_ririii h bs (nI z) td fp f k), (xI bs cI 120 fb)] s.heap.size = A at hD ⊢
  have hA : ∀ q : Nat, s.heap.size ≤ q → A q := fun q h => by rw [← hAe]; exact Or.inr h
  have hS : va_S A s.heap s.heap [] := va_S.rf
  have hP : va_P (dC, dI) vwCl [(xo_6_ririii h bs (nI z) td fp f k), (xI bs cI 120 fb)] s.heap := hP
  have hl := lv_entry ([.ref h, .int x]) (n := 2) (Nat.le_of_ble_eq_true rfl)
  rw [lg_entry_eq]
  generalize (lg_sl ([.ref h, .int x]) ++ List.replicate (2 - (lg_sl ([.ref h, .int x])).length) Slot.unset).toArray = ls at hl ⊢
  have hl : lv_has ls 2 [(0, .ref h), (1, .int x)] := hl
  refine lv_aload_n hx hb dX6_append_0 rfl (lv_at hl 0 rfl) ?_
  have hPc_1 := hP.sub (ws' := [(xo_6_ririii h bs (nI z) td fp f k)]) [0] rfl
  refine vp_callSi (W.runV (As := []) (rest := []) ⟨hx, hb, hml, hown, hts⟩ (r_X6_isFull l dC dI cI cZ cL cJ h bs td z fp f k (hz)) (cwV 0 hts gX6_append_X6_isFull rfl rfl rfl (by decide +kernel) ⟨Nat.le_of_ble_eq_true rfl, Nat.le_of_ble_eq_true rfl⟩) (pvP 6 0 hK hP rfl rfl hPc_1) rfl rfl hl.1 rfl (lv_room (Nat.le_of_ble_eq_true rfl)) dX6_append_1 ⟨Nat.le_of_ble_eq_true rfl, Nat.le_of_ble_eq_true rfl⟩) (fun r_1 h_1 => ?_)
  rcases h_1 with ⟨h_1, f_1_0_0⟩ | ⟨h_1, f_1_1_0⟩
  · subst h_1
    refine lv_if_ne (tgt := 27) hx hb dX6_append_4 (by decide) (fun c_ => absurd (by decide) c_) (fun _ => ?_)
    refine lv_aload_n hx hb dX6_append_7 rfl (lv_at hl 0 rfl) ?_
    refine va_get (D := (dC, dI)) (ci := 6) (v := .ref bs) (C := RX6) (T := TX6) (N := 6) hx hb hts i_X6_append_X6 hown hK hP 0 rfl rfl 0 (by decide) (hts _ mx_X6_append_1) (fun _ h9 => h9) rfl dX6_append_8 ?_
    refine lv_aload_n hx hb dX6_append_11 rfl (lv_at hl 0 rfl) ?_
    refine va_get (D := (dC, dI)) (ci := 6) (v := .int (nI z)) (C := RX6) (T := TX6) (N := 6) hx hb hts i_X6_append_X6 hown hK hP 0 rfl rfl 1 (by decide) (hts _ mx_X6_append_2) (fun _ h9 => h9) rfl dX6_append_12 ?_
    refine lv_iload_n hx hb dX6_append_15 rfl (lv_at hl 1 rfl) ?_
    refine va_iast hx hb hK hP hD hS 1 0 rfl rfl (vp_in_nI (by omega) (by omega)) dX6_append_16 (fun H locs hP hD hS => ?_)
    generalize hg_3 : upd fb ((nI z) : Int32).toNatClampNeg x = g_3 at hP hD
    have hu_3 : g_3 = upd fb z x := (by rw [← hg_3, nI_clamp (by omega)])
    have hP : va_P (dC, dI) vwCl [(xo_6_ririii h bs (nI z) td fp f k), (xI bs cI 120 g_3)] H := hP
    have hD := dto hP hD
    refine lv_aload_n hx hb dX6_append_17 rfl (lv_at hl 0 rfl) ?_
    refine lv_dup hx hb dX6_append_18 rfl ?_
    refine va_get (D := (dC, dI)) (ci := 6) (v := .int (nI z)) (C := RX6) (T := TX6) (N := 6) hx hb hts i_X6_append_X6 hown hK hP 0 rfl rfl 1 (by decide) (hts _ mx_X6_append_2) (fun _ h9 => h9) rfl dX6_append_19 ?_
    refine lv_iconst (v := 1) hx hb dX6_append_22 (by decide) ?_
    refine lv_iadd hx hb dX6_append_23 ?_
    refine lv_topi (fun v_4 e_4 => ?_)
    obtain rfl : v_4 = (nI (z + 1)) := (e_4).trans (nI_add z 1)
    refine va_put (D := (dC, dI)) (ci := 6) (v := .int (nI (z + 1))) (ty := .int) (C := RX6) (T := TX6) (N := 6) hx hb hts i_X6_append_X6 tyX6 tyX6_ok nmX6 hown hK hP hD hS 0 rfl rfl 1 (by decide) (hts _ mx_X6_append_2) (fun _ h9 => h9) rfl (by decide +kernel) rfl rfl (Nat.le_of_ble_eq_true rfl) dX6_append_24 (fun H locs hP hD hS => ?_)
    have hP : va_P (dC, dI) vwCl [(xo_6_ririii h bs (nI (z + 1)) td fp f k), (xI bs cI 120 g_3)] H := hP
    have hD := dto hP hD
    refine lv_aload_n hx hb dX6_append_27 rfl (lv_at hl 0 rfl) ?_
    refine va_get (D := (dC, dI)) (ci := 6) (v := .int (nI (z + 1))) (C := RX6) (T := TX6) (N := 6) hx hb hts i_X6_append_X6 hown hK hP 0 rfl rfl 1 (by decide) (hts _ mx_X6_append_2) (fun _ h9 => h9) rfl dX6_append_28 ?_
    have hX9 := cut2 (wc := [(xo_6_ririii h bs (nI (z + 1)) td fp f k), (xI bs cI 120 g_3)]) hP hD [0, 1] (by decide +kernel) rfl
    exact W.iret (v := (nI (z + 1))) hx hb hr (fun t ht hW => ⟨⟨(nI (z + 1)), (), rfl, (lf_X6_append_4 hz f_1_0_0 hu_3), ⟨(z + 1), g_3, va_Ht ht hX9.1, hX9.2, (lf_X6_append_1 hz f_1_0_0 hu_3), (lf_X6_append_2 hz f_1_0_0 hu_3), (lf_X6_append_3 hz f_1_0_0 hu_3)⟩⟩, hS.F ht⟩) hS.2.2 dX6_append_31
  · subst h_1
    refine lv_if_ne (tgt := 27) hx hb dX6_append_4 (by decide) (fun _ => ?_) (fun c_ => absurd c_ (by decide))
    refine lv_aload_n hx hb dX6_append_27 rfl (lv_at hl 0 rfl) ?_
    refine va_get (D := (dC, dI)) (ci := 6) (v := .int (nI z)) (C := RX6) (T := TX6) (N := 6) hx hb hts i_X6_append_X6 hown hK hP 0 rfl rfl 1 (by decide) (hts _ mx_X6_append_2) (fun _ h9 => h9) rfl dX6_append_28 ?_
    have hX9 := cut2 (wc := [(xo_6_ririii h bs (nI z) td fp f k), (xI bs cI 120 fb)]) hP hD [0, 1] (by decide +kernel) rfl
    exact W.iret (v := (nI z)) hx hb hr (fun t ht hW => ⟨⟨(nI z), (), rfl, (lf_X6_append_8 hz f_1_1_0), ⟨z, fb, va_Ht ht hX9.1, hX9.2, (lf_X6_append_5 hz f_1_1_0), (lf_X6_append_6 hz f_1_1_0), (lf_X6_append_7 hz f_1_1_0)⟩⟩, hS.F ht⟩) hS.2.2 dX6_append_31
set_option maxHeartbeats 4000000 in
set_option maxRecDepth 100000 in
theorem r_X6_byteAt (l : Launch) (dC : Nat → ClassId) (dI : Nat → Nat → Nat) (cI cZ cL cJ : ClassId) (h : Nat) (bs : Nat) (td : Nat) (z : Nat) (fp : Int32) (f : Int32) (k : Int32) (fb : Nat → Int32) (x : Int32) (hz : z ≤ 120) : Met l yX6_byteAt wsX6_byteAt ({ frames := 0, cells := 0, slots := 0, locals := 0 }) (va_Pc [.ref h, .int x] (fun U => va_P (dC, dI) vwCl [(xo_6_ririii h bs (nI z) td fp f k), (xI bs cI 120 fb)] U.heap ∧ va_K (dC, dI) vwCl [(cI, .int), (cZ, .boolean), (cL, .object RX3), (cJ, .array .int)] U)) (vp_Si (fun r => r = (bAt fb z x))) 0 0 (fun _ => False) := by
  refine Met.ofW (cc := cX6_byteAt) (maxL := 2) (ret := (some .int)) (by decide) rfl ?_
  intro p e s m args below meth c s₁ B hml hv
  obtain ⟨rfl, hP, hK⟩ := hv
  have hx := B.exec
  have hb := B.bytes
  have hr := B.returns
  have hts := atoms_spec (ws := wsX6_byteAt) B.pre
  have hown : s.vm.findClass RX6 = some m.cls := findClass_of_methodNamed B.named
  have hlocks := B.notSynchronized
  have hP : va_P (dC, dI) vwCl [(xo_6_ririii h bs (nI z) td fp f k), (xI bs cI 120 fb)] s.heap := hP
  have hl := lv_entry ([.ref h, .int x]) (n := 2) (Nat.le_of_ble_eq_true rfl)
  rw [lg_entry_eq]
  generalize (lg_sl ([.ref h, .int x]) ++ List.replicate (2 - (lg_sl ([.ref h, .int x])).length) Slot.unset).toArray = ls at hl ⊢
  have hl : lv_has ls 2 [(0, .ref h), (1, .int x)] := hl
  refine lv_iload_n hx hb dX6_byteAt_0 rfl (lv_at hl 1 rfl) ?_
  refine lv_if_lt (tgt := 21) hx hb dX6_byteAt_1 (by decide) (fun c_1 => ?_) (fun c_1 => ?_)
  · skip
    refine lv_iconst (v := (-1)) hx hb dX6_byteAt_21 (by decide) ?_
    exact W.iret (v := (-1)) hx hb hr (fun t ht hW => ⟨(-1), rfl, (by unfold bAt; grind), ht⟩) (fun _ h => by cases h) dX6_byteAt_22
  · skip
    refine lv_iload_n hx hb dX6_byteAt_4 rfl (lv_at hl 1 rfl) ?_
    refine lv_aload_n hx hb dX6_byteAt_5 rfl (lv_at hl 0 rfl) ?_
    refine va_get (D := (dC, dI)) (ci := 6) (v := .int (nI z)) (C := RX6) (T := TX6) (N := 6) hx hb hts i_X6_byteAt_X6 hown hK hP 0 rfl rfl 1 (by decide) (hts _ mx_X6_byteAt_1) (fun _ h9 => h9) rfl dX6_byteAt_6 ?_
    refine lv_icmp_ge (tgt := 21) hx hb dX6_byteAt_9 (by decide) (fun c_2 => ?_) (fun c_2 => ?_)
    · skip
      refine lv_iconst (v := (-1)) hx hb dX6_byteAt_21 (by decide) ?_
      exact W.iret (v := (-1)) hx hb hr (fun t ht hW => ⟨(-1), rfl, (by unfold bAt; grind), ht⟩) (fun _ h => by cases h) dX6_byteAt_22
    · skip
      refine lv_aload_n hx hb dX6_byteAt_12 rfl (lv_at hl 0 rfl) ?_
      refine va_get (D := (dC, dI)) (ci := 6) (v := .ref bs) (C := RX6) (T := TX6) (N := 6) hx hb hts i_X6_byteAt_X6 hown hK hP 0 rfl rfl 0 (by decide) (hts _ mx_X6_byteAt_2) (fun _ h9 => h9) rfl dX6_byteAt_13 ?_
      refine lv_iload_n hx hb dX6_byteAt_16 rfl (lv_at hl 1 rfl) ?_
      refine va_iald hx hb hK hP 1 0 rfl rfl (in_mono (in_of c_1 c_2 (by omega)) hz) dX6_byteAt_17 ?_
      refine lv_topi (fun v_3 e_3 => ?_)
      refine lv_goto (tgt := 22) hx hb dX6_byteAt_18 (by decide) ?_
      exact W.iret (v := v_3) hx hb hr (fun t ht hW => ⟨v_3, rfl, (by unfold bAt; grind), ht⟩) (fun _ h => by cases h) dX6_byteAt_22
theorem lf_X6_isFigure_1 {x : Int32} (c_1 : x < 48) : ¬ isFig x := by
  unfold isFig; grind
theorem lf_X6_isFigure_2 {x : Int32} (c_1 : ¬ (x < 48)) (c_2 : 57 < x) : ¬ isFig x := by
  unfold isFig; grind
theorem lf_X6_isFigure_3 {x : Int32} (c_1 : ¬ (x < 48)) (c_2 : ¬ (57 < x)) : isFig x := by
  unfold isFig; grind
set_option maxHeartbeats 4000000 in
set_option maxRecDepth 100000 in
theorem r_X6_isFigure (l : Launch) (dC : Nat → ClassId) (dI : Nat → Nat → Nat) (cI cZ cL cJ : ClassId) (x : Int32)  : Met l yX6_isFigure wsX6_isFigure ({ frames := 0, cells := 0, slots := 0, locals := 0 }) (va_Pc [.int x] (fun U => va_P (dC, dI) vwCl [] U.heap ∧ va_K (dC, dI) vwCl [(cI, .int), (cZ, .boolean), (cL, .object RX3), (cJ, .array .int)] U)) (vp_Si (fun r => (r = 0 ∧ ¬ isFig x) ∨ (r = 1 ∧ isFig x))) 0 0 (fun _ => False) := by
  refine Met.ofW (cc := cX6_isFigure) (maxL := 1) (ret := (some .boolean)) (by decide) rfl ?_
  intro p e s m args below meth c s₁ B hml hv
  obtain ⟨rfl, hP, hK⟩ := hv
  have hx := B.exec
  have hb := B.bytes
  have hr := B.returns
  have hts := atoms_spec (ws := wsX6_isFigure) B.pre
  have hown : s.vm.findClass RX6 = some m.cls := findClass_of_methodNamed B.named
  have hlocks := B.notSynchronized
  have hP : va_P (dC, dI) vwCl [] s.heap := hP
  have hl := lv_entry ([.int x]) (n := 1) (Nat.le_of_ble_eq_true rfl)
  rw [lg_entry_eq]
  generalize (lg_sl ([.int x]) ++ List.replicate (1 - (lg_sl ([.int x])).length) Slot.unset).toArray = ls at hl ⊢
  have hl : lv_has ls 1 [(0, .int x)] := hl
  refine lv_iload_n hx hb dX6_isFigure_0 rfl (lv_at hl 0 rfl) ?_
  refine lv_bipush (v := 48) hx hb dX6_isFigure_1 (by decide) ?_
  refine lv_icmp_lt (tgt := 16) hx hb dX6_isFigure_3 (by decide) (fun c_1 => ?_) (fun c_1 => ?_)
  · skip
    refine lv_iconst (v := 0) hx hb dX6_isFigure_16 (by decide) ?_
    exact W.zret (v := 0) hx hb hr (by decide) (fun t ht hW => ⟨0, rfl, Or.inl (⟨rfl, (lf_X6_isFigure_1 c_1)⟩), ht⟩) (fun _ h => by cases h) dX6_isFigure_17
  · skip
    refine lv_iload_n hx hb dX6_isFigure_6 rfl (lv_at hl 0 rfl) ?_
    refine lv_bipush (v := 57) hx hb dX6_isFigure_7 (by decide) ?_
    refine lv_icmp_gt (tgt := 16) hx hb dX6_isFigure_9 (by decide) (fun c_2 => ?_) (fun c_2 => ?_)
    · skip
      refine lv_iconst (v := 0) hx hb dX6_isFigure_16 (by decide) ?_
      exact W.zret (v := 0) hx hb hr (by decide) (fun t ht hW => ⟨0, rfl, Or.inl (⟨rfl, (lf_X6_isFigure_2 c_1 c_2)⟩), ht⟩) (fun _ h => by cases h) dX6_isFigure_17
    · skip
      refine lv_iconst (v := 1) hx hb dX6_isFigure_12 (by decide) ?_
      refine lv_goto (tgt := 17) hx hb dX6_isFigure_13 (by decide) ?_
      exact W.zret (v := 1) hx hb hr (by decide) (fun t ht hW => ⟨1, rfl, Or.inr (⟨rfl, (lf_X6_isFigure_3 c_1 c_2)⟩), ht⟩) (fun _ h => by cases h) dX6_isFigure_17
theorem lf_X6_kindOf_1   : 2 = (kindX (98 : Int32)) := by
  first | decide | (unfold kindX; grind)
theorem lf_X6_kindOf_2  (k_1 : ¬ (100 : Int32) = 98) : 4 = (kindX (100 : Int32)) := by
  first | decide | (unfold kindX; grind)
theorem lf_X6_kindOf_3  (k_1 : ¬ (104 : Int32) = 98) (k_2 : ¬ (104 : Int32) = 100) : 3 = (kindX (104 : Int32)) := by
  first | decide | (unfold kindX; grind)
theorem lf_X6_kindOf_4  (k_1 : ¬ (115 : Int32) = 98) (k_2 : ¬ (115 : Int32) = 100) (k_3 : ¬ (115 : Int32) = 104) : 5 = (kindX (115 : Int32)) := by
  first | decide | (unfold kindX; grind)
theorem lf_X6_kindOf_5  (k_1 : ¬ (118 : Int32) = 98) (k_2 : ¬ (118 : Int32) = 100) (k_3 : ¬ (118 : Int32) = 104) (k_4 : ¬ (118 : Int32) = 115) : 1 = (kindX (118 : Int32)) := by
  first | decide | (unfold kindX; grind)
theorem lf_X6_kindOf_6 {x : Int32} (k_1 : ¬ x = 98) (k_2 : ¬ x = 100) (k_3 : ¬ x = 104) (k_4 : ¬ x = 115) (k_5 : ¬ x = 118) : 0 = (kindX x) := by
  first | decide | (unfold kindX; grind)
set_option maxHeartbeats 4000000 in
set_option maxRecDepth 100000 in
theorem r_X6_kindOf (l : Launch) (dC : Nat → ClassId) (dI : Nat → Nat → Nat) (cI cZ cL cJ : ClassId) (x : Int32)  : Met l yX6_kindOf wsX6_kindOf ({ frames := 0, cells := 0, slots := 0, locals := 0 }) (va_Pc [.int x] (fun U => va_P (dC, dI) vwCl [] U.heap ∧ va_K (dC, dI) vwCl [(cI, .int), (cZ, .boolean), (cL, .object RX3), (cJ, .array .int)] U)) (vp_Si (fun r => r = (kindX x))) 0 0 (fun _ => False) := by
  refine Met.ofW (cc := cX6_kindOf) (maxL := 1) (ret := (some .int)) (by decide) rfl ?_
  intro p e s m args below meth c s₁ B hml hv
  obtain ⟨rfl, hP, hK⟩ := hv
  have hx := B.exec
  have hb := B.bytes
  have hr := B.returns
  have hts := atoms_spec (ws := wsX6_kindOf) B.pre
  have hown : s.vm.findClass RX6 = some m.cls := findClass_of_methodNamed B.named
  have hlocks := B.notSynchronized
  have hP : va_P (dC, dI) vwCl [] s.heap := hP
  have hl := lv_entry ([.int x]) (n := 1) (Nat.le_of_ble_eq_true rfl)
  rw [lg_entry_eq]
  generalize (lg_sl ([.int x]) ++ List.replicate (1 - (lg_sl ([.int x])).length) Slot.unset).toArray = ls at hl ⊢
  have hl : lv_has ls 1 [(0, .int x)] := hl
  refine lv_iload_n hx hb dX6_kindOf_0 rfl (lv_at hl 0 rfl) ?_
  by_cases k_1 : x = 98
  · subst k_1
    refine lv_lookup (off := 53) (tgt := 54) hx hb dX6_kindOf_1 (by decide) (by decide) (by decide) ?_
    refine lv_iconst (v := 2) hx hb dX6_kindOf_54 (by decide) ?_
    exact W.iret (v := 2) hx hb hr (fun t ht hW => ⟨2, rfl, lf_X6_kindOf_1, ht⟩) (fun _ h => by cases h) dX6_kindOf_55
  by_cases k_2 : x = 100
  · subst k_2
    refine lv_lookup (off := 57) (tgt := 58) hx hb dX6_kindOf_1 (by decide) (by decide) (by decide) ?_
    refine lv_iconst (v := 4) hx hb dX6_kindOf_58 (by decide) ?_
    exact W.iret (v := 4) hx hb hr (fun t ht hW => ⟨4, rfl, (lf_X6_kindOf_2 k_1), ht⟩) (fun _ h => by cases h) dX6_kindOf_59
  by_cases k_3 : x = 104
  · subst k_3
    refine lv_lookup (off := 55) (tgt := 56) hx hb dX6_kindOf_1 (by decide) (by decide) (by decide) ?_
    refine lv_iconst (v := 3) hx hb dX6_kindOf_56 (by decide) ?_
    exact W.iret (v := 3) hx hb hr (fun t ht hW => ⟨3, rfl, (lf_X6_kindOf_3 k_1 k_2), ht⟩) (fun _ h => by cases h) dX6_kindOf_57
  by_cases k_4 : x = 115
  · subst k_4
    refine lv_lookup (off := 59) (tgt := 60) hx hb dX6_kindOf_1 (by decide) (by decide) (by decide) ?_
    refine lv_iconst (v := 5) hx hb dX6_kindOf_60 (by decide) ?_
    exact W.iret (v := 5) hx hb hr (fun t ht hW => ⟨5, rfl, (lf_X6_kindOf_4 k_1 k_2 k_3), ht⟩) (fun _ h => by cases h) dX6_kindOf_61
  by_cases k_5 : x = 118
  · subst k_5
    refine lv_lookup (off := 51) (tgt := 52) hx hb dX6_kindOf_1 (by decide) (by decide) (by decide) ?_
    refine lv_iconst (v := 1) hx hb dX6_kindOf_52 (by decide) ?_
    exact W.iret (v := 1) hx hb hr (fun t ht hW => ⟨1, rfl, (lf_X6_kindOf_5 k_1 k_2 k_3 k_4), ht⟩) (fun _ h => by cases h) dX6_kindOf_53
  refine lv_lookup (off := 61) (tgt := 62) hx hb dX6_kindOf_1 (by decide) ((lv_osw k_1 rfl).trans ( (lv_osw k_2 rfl).trans ( (lv_osw k_3 rfl).trans ( (lv_osw k_4 rfl).trans ( (lv_osw k_5 rfl).trans (rfl)))))) (by decide) ?_
  refine lv_iconst (v := 0) hx hb dX6_kindOf_62 (by decide) ?_
  exact W.iret (v := 0) hx hb hr (fun t ht hW => ⟨0, rfl, (lf_X6_kindOf_6 k_1 k_2 k_3 k_4 k_5), ht⟩) (fun _ h => by cases h) dX6_kindOf_63
theorem lf_X6_figuresHere_1 {z : Nat} {k : Int32} {fb : Nat → Int32} {ii : Nat} {v_8 : Int32} {r_9 : Int32} (hz : z ≤ 120) (hii : ii < 120) (haf_0 : (figX fb z k 120 0 = ii + figX fb z k (120 - ii) ii)) (e_8 : v_8 = (k + (nI ii))) (h_9 : r_9 = (bAt fb z v_8)) (f_10_0_0 : ¬ isFig r_9) : (nI ii) = (nI (figX fb z k 120 0)) := by
  first
  | (rw [haf_0, figX_no (by first | grind | (subst_vars; assumption)), Nat.add_zero])
  | (rw [haf_0]; rfl)
theorem lf_X6_figuresHere_2 {z : Nat} {k : Int32} {fb : Nat → Int32} {ii : Nat} {v_8 : Int32} {r_9 : Int32} (hz : z ≤ 120) (hii : ii < 120) (haf_0 : (figX fb z k 120 0 = ii + figX fb z k (120 - ii) ii)) (e_8 : v_8 = (k + (nI ii))) (h_9 : r_9 = (bAt fb z v_8)) (f_10_1_0 : isFig r_9) : figX fb z k 120 0 = (ii + 1) + figX fb z k (120 - (ii + 1)) (ii + 1) := by
  have h9 := figX_go (f := fb) (z := z) (k := k) (n := 120 - ii) (i := ii) (by omega) (by first | grind | (subst_vars; assumption))
  rw [haf_0, h9, Nat.sub_sub]
  omega
theorem lf_X6_figuresHere_3 {z : Nat} {k : Int32} {fb : Nat → Int32} (hz : z ≤ 120) (haf_0 : (figX fb z k 120 0 = 120 + figX fb z k (120 - 120) 120)) : (nI 120) = (nI (figX fb z k 120 0)) := by
  first
  | (rw [haf_0, figX_no (by first | grind | (subst_vars; assumption)), Nat.add_zero])
  | (rw [haf_0]; rfl)
set_option maxHeartbeats 4000000 in
set_option maxRecDepth 100000 in
theorem r_X6_figuresHere (l : Launch) (dC : Nat → ClassId) (dI : Nat → Nat → Nat) (cI cZ cL cJ : ClassId) (h : Nat) (bs : Nat) (td : Nat) (z : Nat) (fp : Int32) (f : Int32) (k : Int32) (fb : Nat → Int32) (hz : z ≤ 120) : Met l yX6_figuresHere wsX6_figuresHere ({ frames := 1, cells := 0, slots := 0, locals := 21 }) (va_Pc [.ref h] (fun U => va_P (dC, dI) vwCl [(xo_6_ririii h bs (nI z) td fp f k), (xI bs cI 120 fb)] U.heap ∧ va_K (dC, dI) vwCl [(cI, .int), (cZ, .boolean), (cL, .object RX3), (cJ, .array .int)] U)) (vp_Si (fun r => r = (nI (figX fb z k 120 0)))) 0 0 (fun _ => False) := by
  refine Met.ofW (cc := cX6_figuresHere) (maxL := 2) (ret := (some .int)) (by decide) rfl ?_
  intro p e s m args below meth c s₁ B hml hv
  obtain ⟨rfl, hP, hK⟩ := hv
  have hx := B.exec
  have hb := B.bytes
  have hr := B.returns
  have hts := atoms_spec (ws := wsX6_figuresHere) B.pre
  have hown : s.vm.findClass RX6 = some m.cls := findClass_of_methodNamed B.named
  have hlocks := B.notSynchronized
  have hP : va_P (dC, dI) vwCl [(xo_6_ririii h bs (nI z) td fp f k), (xI bs cI 120 fb)] s.heap := hP
  have hl := lv_entry ([.ref h]) (n := 2) (Nat.le_of_ble_eq_true rfl)
  rw [lg_entry_eq]
  generalize (lg_sl ([.ref h]) ++ List.replicate (2 - (lg_sl ([.ref h])).length) Slot.unset).toArray = ls at hl ⊢
  have hl : lv_has ls 2 [(0, .ref h)] := hl
  refine lv_iconst (v := 0) hx hb dX6_figuresHere_0 (by decide) ?_
  refine lv_istore_n (lv' := [(1, .int 0), (0, .ref h)]) hx hb dX6_figuresHere_1 rfl hl (by decide) rfl (fun ls hl => ?_)
  refine lp_go (σ := Unit) (fun ii (st : Unit) H locs ls => match st with | _ => lv_has ls 2 [(1, .int (nI ii)), (0, .ref h)] ∧ H = s.heap ∧ locs = [] ∧ (figX fb z k 120 0 = ii + figX fb z k (120 - ii) ii)) 120 ?_ ?_ 0 (by omega) () ⟨lv_sub hl [0, 1] rfl, rfl, rfl, (by rw [Nat.zero_add])⟩
  · rintro ii _ H locs ls hii ⟨hl, rfl, rfl, haf_0⟩ ih
    refine lv_iload_n hx hb dX6_figuresHere_2 rfl (lv_at hl 0 rfl) ?_
    refine lv_bipush (v := 120) hx hb dX6_figuresHere_3 (by decide) ?_
    refine lv_icmp_ge (tgt := 30) hx hb dX6_figuresHere_5 (by decide) (fun c_ => absurd c_ (fun q_ => absurd ((nI_leI (a := 120) (b := ii) (by omega) (by omega)).mp q_) (by omega))) (fun _ => ?_)
    refine lv_aload_n hx hb dX6_figuresHere_8 rfl (lv_at hl 1 rfl) ?_
    refine lv_aload_n hx hb dX6_figuresHere_9 rfl (lv_at hl 1 rfl) ?_
    refine va_get (D := (dC, dI)) (ci := 6) (v := .int k) (C := RX6) (T := TX6) (N := 6) hx hb hts i_X6_figuresHere_X6 hown hK hP 0 rfl rfl 5 (by decide) (hts _ mx_X6_figuresHere_1) (fun _ h9 => h9) rfl dX6_figuresHere_10 ?_
    refine lv_iload_n hx hb dX6_figuresHere_13 rfl (lv_at hl 0 rfl) ?_
    refine lv_iadd hx hb dX6_figuresHere_14 ?_
    refine lv_topi (fun v_8 e_8 => ?_)
    have hPc_9 := hP
    refine vp_callSi (W.runV (As := [.int v_8]) (rest := []) ⟨hx, hb, hml, hown, hts⟩ (r_X6_byteAt l dC dI cI cZ cL cJ h bs td z fp f k fb v_8 (hz)) (cwV 1 hts gX6_figuresHere_X6_byteAt rfl rfl rfl (by decide +kernel) ⟨Nat.le_of_ble_eq_true rfl, Nat.le_of_ble_eq_true rfl⟩) (pvP 6 0 hK hP rfl rfl hPc_9) rfl rfl hl.1 rfl (lv_room (Nat.le_of_ble_eq_true rfl)) dX6_figuresHere_15 ⟨Nat.le_of_ble_eq_true rfl, Nat.le_of_ble_eq_true rfl⟩) (fun r_9 h_9 => ?_)
    have hPc_10 := hP.sub (ws' := []) [] rfl
    refine vp_callSi (W.runS (As := [.int r_9]) (rest := []) ⟨hx, hb, hml, hown, hts⟩ (r_X6_isFigure l dC dI cI cZ cL cJ r_9 ) (va_cwS 1 hts gX6_figuresHere_X6_isFigure rfl rfl rfl (by decide +kernel) ⟨Nat.le_of_ble_eq_true rfl, Nat.le_of_ble_eq_true rfl⟩) (psP hK hPc_10) rfl rfl hl.1 rfl (lv_room (Nat.le_of_ble_eq_true rfl)) dX6_figuresHere_18 ⟨Nat.le_of_ble_eq_true rfl, Nat.le_of_ble_eq_true rfl⟩) (fun r_10 h_10 => ?_)
    rcases h_10 with ⟨h_10, f_10_0_0⟩ | ⟨h_10, f_10_1_0⟩
    · subst h_10
      refine lv_if_eq (tgt := 30) hx hb dX6_figuresHere_21 (by decide) (fun _ => ?_) (fun c_ => absurd (by decide) c_)
      refine lv_iload_n hx hb dX6_figuresHere_30 rfl (lv_at hl 0 rfl) ?_
      exact W.iret (v := (nI ii)) hx hb hr (fun t ht hW => ⟨(nI ii), rfl, (lf_X6_figuresHere_1 hz hii haf_0 e_8 h_9 f_10_0_0), ht⟩) (fun _ h => by cases h) dX6_figuresHere_31
    · subst h_10
      refine lv_if_eq (tgt := 30) hx hb dX6_figuresHere_21 (by decide) (fun c_ => absurd c_ (by decide)) (fun _ => ?_)
      refine lv_iinc (v := (nI (ii + 1))) (lv' := [(1, .int (nI (ii + 1))), (0, .ref h)]) hx hb dX6_figuresHere_24 hl (k := 0) rfl (nI_add ii 1) (by decide) rfl (fun ls hl => ?_)
      refine lv_goto (tgt := 2) hx hb dX6_figuresHere_27 (by decide) ?_
      exact ih () _ _ _ ⟨lv_sub hl [0, 1] rfl, rfl, rfl, (lf_X6_figuresHere_2 hz hii haf_0 e_8 h_9 f_10_1_0)⟩
  · rintro _ H locs ls ⟨hl, rfl, rfl, haf_0⟩
    refine lv_iload_n hx hb dX6_figuresHere_2 rfl (lv_at hl 0 rfl) ?_
    refine lv_bipush (v := 120) hx hb dX6_figuresHere_3 (by decide) ?_
    refine lv_icmp_ge (tgt := 30) hx hb dX6_figuresHere_5 (by decide) (fun _ => ?_) (fun c_ => absurd ((nI_leI (a := 120) (b := 120) (by omega) (by omega)).mpr (by omega)) c_)
    refine lv_iload_n hx hb dX6_figuresHere_30 rfl (lv_at hl 0 rfl) ?_
    exact W.iret (v := (nI 120)) hx hb hr (fun t ht hW => ⟨(nI 120), rfl, (lf_X6_figuresHere_3 hz haf_0), ht⟩) (fun _ h => by cases h) dX6_figuresHere_31
theorem lf_X6_fail_1 {f : Int32} {x : Int32} (c_1 : ¬ (f = 0)) : (¬ (x : Int32) = 0 → ¬ f = 0) := by
  first | (unfold rF; grind) | grind
theorem lf_X6_fail_2 {f : Int32} (c_1 : ¬ (f = 0)) : (¬ f = 0 → f = f) := by
  first | (unfold rF; grind) | grind
theorem lf_X6_fail_3 {fp : Int32} {f : Int32} {k : Int32} {x : Int32} (c_1 : ¬ (f = 0)) : rF x (fp, f, k) = (fp, f, k) := by
  first | (unfold rF; grind) | grind
theorem lf_X6_fail_4 {f : Int32} {x : Int32} (c_1 : f = 0) : (¬ (x : Int32) = 0 → ¬ x = 0) := by
  first | (unfold rF; grind) | grind
theorem lf_X6_fail_5 {f : Int32} {x : Int32} (c_1 : f = 0) : (¬ f = 0 → x = f) := by
  first | (unfold rF; grind) | grind
theorem lf_X6_fail_6 {fp : Int32} {f : Int32} {k : Int32} {x : Int32} (c_1 : f = 0) : rF x (fp, f, k) = (k, x, k) := by
  first | (unfold rF; grind) | grind
set_option maxHeartbeats 4000000 in
set_option maxRecDepth 100000 in
theorem r_X6_fail (l : Launch) (dC : Nat → ClassId) (dI : Nat → Nat → Nat) (cI cZ cL cJ : ClassId) (sz : Nat) (h : Nat) (bs : Nat) (td : Nat) (z : Nat) (fp : Int32) (f : Int32) (k : Int32) (x : Int32)  : Met l yX6_fail wsX6_fail ({ frames := 0, cells := 0, slots := 0, locals := 0 }) (va_Pc [.ref h, .int x] (fun U => U.heap.size = sz ∧ va_P (dC, dI) vwCl [(xo_6_ririii h bs (nI z) td fp f k)] U.heap ∧ va_K (dC, dI) vwCl [(cI, .int), (cZ, .boolean), (cL, .object RX3), (cJ, .array .int)] U ∧ va_D (fun _ => True) [(xo_6_ririii h bs (nI z) td fp f k)])) (va_Qv (fun (_ : Unit) => True) (fun (_ : Unit) t => ∃ (fpn : Int32) (fn : Int32), va_P (dC, dI) vwCl [(xo_6_ririii h bs (nI z) td fpn fn k)] t.heap ∧ va_D (va_A [(xo_6_ririii h bs (nI z) td fp f k)] sz) [(xo_6_ririii h bs (nI z) td fpn fn k)] ∧ (¬ (x : Int32) = 0 → ¬ fn = 0) ∧ (¬ f = 0 → fn = f) ∧ rF x (fp, f, k) = (fpn, fn, k)) (va_A [(xo_6_ririii h bs (nI z) td fp f k)] sz)) 0 0 (va_A [(xo_6_ririii h bs (nI z) td fp f k)] sz) := by
  refine Met.ofW (cc := cX6_fail) (maxL := 2) (ret := none) (by decide) rfl ?_
  intro p e s m args below meth c s₁ B hml hv
  obtain ⟨rfl, hsz, hP, hK, hD0⟩ := hv
  have hx := B.exec
  have hb := B.bytes
  have hr := B.returns
  have hts := atoms_spec (ws := wsX6_fail) B.pre
  have hown : s.vm.findClass RX6 = some m.cls := findClass_of_methodNamed B.named
  have hlocks := B.notSynchronized
  subst hsz
  have hD := hD0.self (sz := s.heap.size)
  generalize hAe : va_A [(xo_6_ririii h bs (nI z) td fp f k)] s.heap.size = A at hD ⊢
  have hA : ∀ q : Nat, s.heap.size ≤ q → A q := fun q h => by rw [← hAe]; exact Or.inr h
  have hS : va_S A s.heap s.heap [] := va_S.rf
  have hP : va_P (dC, dI) vwCl [(xo_6_ririii h bs (nI z) td fp f k)] s.heap := hP
  have hl := lv_entry ([.ref h, .int x]) (n := 2) (Nat.le_of_ble_eq_true rfl)
  rw [lg_entry_eq]
  generalize (lg_sl ([.ref h, .int x]) ++ List.replicate (2 - (lg_sl ([.ref h, .int x])).length) Slot.unset).toArray = ls at hl ⊢
  have hl : lv_has ls 2 [(0, .ref h), (1, .int x)] := hl
  refine lv_aload_n hx hb dX6_fail_0 rfl (lv_at hl 0 rfl) ?_
  refine va_get (D := (dC, dI)) (ci := 6) (v := .int f) (C := RX6) (T := TX6) (N := 6) hx hb hts i_X6_fail_X6 hown hK hP 0 rfl rfl 4 (by decide) (hts _ mx_X6_fail_1) (fun _ h9 => h9) rfl dX6_fail_1 ?_
  refine lv_if_ne (tgt := 20) hx hb dX6_fail_4 (by decide) (fun c_1 => ?_) (fun c_1 => ?_)
  · skip
    have hX9 := cut2 (wc := [(xo_6_ririii h bs (nI z) td fp f k)]) hP hD [0] (by decide +kernel) rfl
    exact W.vret hx hb hr (fun t ht hW => ⟨⟨(), rfl, trivial, ⟨fp, f, va_Ht ht hX9.1, hX9.2, (lf_X6_fail_1 c_1), (lf_X6_fail_2 c_1), (lf_X6_fail_3 c_1)⟩⟩, hS.F ht⟩) hS.2.2 dX6_fail_20
  · skip
    refine lv_aload_n hx hb dX6_fail_7 rfl (lv_at hl 0 rfl) ?_
    refine lv_iload_n hx hb dX6_fail_8 rfl (lv_at hl 1 rfl) ?_
    refine va_put (D := (dC, dI)) (ci := 6) (v := .int x) (ty := .int) (C := RX6) (T := TX6) (N := 6) hx hb hts i_X6_fail_X6 tyX6 tyX6_ok nmX6 hown hK hP hD hS 0 rfl rfl 4 (by decide) (hts _ mx_X6_fail_1) (fun _ h9 => h9) rfl (by decide +kernel) rfl rfl (Nat.le_of_ble_eq_true rfl) dX6_fail_9 (fun H locs hP hD hS => ?_)
    have hP : va_P (dC, dI) vwCl [(xo_6_ririii h bs (nI z) td fp x k)] H := hP
    have hD := dto hP hD
    refine lv_aload_n hx hb dX6_fail_12 rfl (lv_at hl 0 rfl) ?_
    refine lv_aload_n hx hb dX6_fail_13 rfl (lv_at hl 0 rfl) ?_
    refine va_get (D := (dC, dI)) (ci := 6) (v := .int k) (C := RX6) (T := TX6) (N := 6) hx hb hts i_X6_fail_X6 hown hK hP 0 rfl rfl 5 (by decide) (hts _ mx_X6_fail_2) (fun _ h9 => h9) rfl dX6_fail_14 ?_
    refine va_put (D := (dC, dI)) (ci := 6) (v := .int k) (ty := .int) (C := RX6) (T := TX6) (N := 6) hx hb hts i_X6_fail_X6 tyX6 tyX6_ok nmX6 hown hK hP hD hS 0 rfl rfl 3 (by decide) (hts _ mx_X6_fail_3) (fun _ h9 => h9) rfl (by decide +kernel) rfl rfl (Nat.le_of_ble_eq_true rfl) dX6_fail_17 (fun H locs hP hD hS => ?_)
    have hP : va_P (dC, dI) vwCl [(xo_6_ririii h bs (nI z) td k x k)] H := hP
    have hD := dto hP hD
    have hX9 := cut2 (wc := [(xo_6_ririii h bs (nI z) td k x k)]) hP hD [0] (by decide +kernel) rfl
    exact W.vret hx hb hr (fun t ht hW => ⟨⟨(), rfl, trivial, ⟨k, x, va_Ht ht hX9.1, hX9.2, (lf_X6_fail_4 c_1), (lf_X6_fail_5 c_1), (lf_X6_fail_6 c_1)⟩⟩, hS.F ht⟩) hS.2.2 dX6_fail_20
theorem lf_X6_readByte_1 {z : Nat} {fp : Int32} {f : Int32} {k : Int32} {fb : Nat → Int32} {x : Int32} {r_1 : Int32} {fpn_3 : Int32} {fn_3 : Int32} (hz : z ≤ 120) (h_1 : r_1 = (bAt fb z k)) (c_2 : ¬ (r_1 = x)) (hF_3_0 : (¬ (1 : Int32) = 0 → ¬ fn_3 = 0)) (hF_3_1 : (¬ f = 0 → fn_3 = f)) (hF_3_2 : rF 1 (fp, f, k) = (fpn_3, fn_3, k)) : (fn_3 = 0 → f = 0 ∧ bAt fb z k = x) := by
  first | (simp only [rB]; grind) | grind
theorem lf_X6_readByte_2 {z : Nat} {fp : Int32} {f : Int32} {k : Int32} {fb : Nat → Int32} {x : Int32} {r_1 : Int32} {fpn_3 : Int32} {fn_3 : Int32} (hz : z ≤ 120) (h_1 : r_1 = (bAt fb z k)) (c_2 : ¬ (r_1 = x)) (hF_3_0 : (¬ (1 : Int32) = 0 → ¬ fn_3 = 0)) (hF_3_1 : (¬ f = 0 → fn_3 = f)) (hF_3_2 : rF 1 (fp, f, k) = (fpn_3, fn_3, k)) : rB fb z x (fp, f, k) = (fpn_3, fn_3, k) := by
  first | (simp only [rB]; grind) | grind
theorem lf_X6_readByte_3 {z : Nat} {f : Int32} {k : Int32} {fb : Nat → Int32} {x : Int32} {r_1 : Int32} {v_4 : Int32} (hz : z ≤ 120) (h_1 : r_1 = (bAt fb z k)) (c_2 : r_1 = x) (e_4 : v_4 = (k + 1)) : (f = 0 → f = 0 ∧ bAt fb z k = x) := by
  first | (simp only [rB]; grind) | grind
theorem lf_X6_readByte_4 {z : Nat} {fp : Int32} {f : Int32} {k : Int32} {fb : Nat → Int32} {x : Int32} {r_1 : Int32} {v_4 : Int32} (hz : z ≤ 120) (h_1 : r_1 = (bAt fb z k)) (c_2 : r_1 = x) (e_4 : v_4 = (k + 1)) : rB fb z x (fp, f, k) = (fp, f, v_4) := by
  first | (simp only [rB]; grind) | grind
set_option maxHeartbeats 4000000 in
set_option maxRecDepth 100000 in
theorem r_X6_readByte (l : Launch) (dC : Nat → ClassId) (dI : Nat → Nat → Nat) (cI cZ cL cJ : ClassId) (sz : Nat) (h : Nat) (bs : Nat) (td : Nat) (z : Nat) (fp : Int32) (f : Int32) (k : Int32) (fb : Nat → Int32) (x : Int32) (hz : z ≤ 120) : Met l yX6_readByte wsX6_readByte ({ frames := 1, cells := 0, slots := 0, locals := 21 }) (va_Pc [.ref h, .int x] (fun U => U.heap.size = sz ∧ va_P (dC, dI) vwCl [(xo_6_ririii h bs (nI z) td fp f k), (xI bs cI 120 fb)] U.heap ∧ va_K (dC, dI) vwCl [(cI, .int), (cZ, .boolean), (cL, .object RX3), (cJ, .array .int)] U ∧ va_D (fun _ => True) [(xo_6_ririii h bs (nI z) td fp f k), (xI bs cI 120 fb)])) (va_Qv (fun (_ : Unit) => True) (fun (_ : Unit) t => ∃ (fpn : Int32) (fn : Int32) (kn : Int32), va_P (dC, dI) vwCl [(xo_6_ririii h bs (nI z) td fpn fn kn), (xI bs cI 120 fb)] t.heap ∧ va_D (va_A [(xo_6_ririii h bs (nI z) td fp f k), (xI bs cI 120 fb)] sz) [(xo_6_ririii h bs (nI z) td fpn fn kn), (xI bs cI 120 fb)] ∧ (fn = 0 → f = 0 ∧ bAt fb z k = x) ∧ rB fb z x (fp, f, k) = (fpn, fn, kn)) (va_A [(xo_6_ririii h bs (nI z) td fp f k), (xI bs cI 120 fb)] sz)) 0 0 (va_A [(xo_6_ririii h bs (nI z) td fp f k), (xI bs cI 120 fb)] sz) := by
  refine Met.ofW (cc := cX6_readByte) (maxL := 2) (ret := none) (by decide) rfl ?_
  intro p e s m args below meth c s₁ B hml hv
  obtain ⟨rfl, hsz, hP, hK, hD0⟩ := hv
  have hx := B.exec
  have hb := B.bytes
  have hr := B.returns
  have hts := atoms_spec (ws := wsX6_readByte) B.pre
  have hown : s.vm.findClass RX6 = some m.cls := findClass_of_methodNamed B.named
  have hlocks := B.notSynchronized
  subst hsz
  have hD := hD0.self (sz := s.heap.size)
  generalize hAe : va_A [(xo_6_ririii h bs (nI z) td fp f k), (xI bs cI 120 fb)] s.heap.size = A at hD ⊢
  have hA : ∀ q : Nat, s.heap.size ≤ q → A q := fun q h => by rw [← hAe]; exact Or.inr h
  have hS : va_S A s.heap s.heap [] := va_S.rf
  have hP : va_P (dC, dI) vwCl [(xo_6_ririii h bs (nI z) td fp f k), (xI bs cI 120 fb)] s.heap := hP
  have hl := lv_entry ([.ref h, .int x]) (n := 2) (Nat.le_of_ble_eq_true rfl)
  rw [lg_entry_eq]
  generalize (lg_sl ([.ref h, .int x]) ++ List.replicate (2 - (lg_sl ([.ref h, .int x])).length) Slot.unset).toArray = ls at hl ⊢
  have hl : lv_has ls 2 [(0, .ref h), (1, .int x)] := hl
  refine lv_aload_n hx hb dX6_readByte_0 rfl (lv_at hl 0 rfl) ?_
  refine lv_aload_n hx hb dX6_readByte_1 rfl (lv_at hl 0 rfl) ?_
  refine va_get (D := (dC, dI)) (ci := 6) (v := .int k) (C := RX6) (T := TX6) (N := 6) hx hb hts i_X6_readByte_X6 hown hK hP 0 rfl rfl 5 (by decide) (hts _ mx_X6_readByte_1) (fun _ h9 => h9) rfl dX6_readByte_2 ?_
  have hPc_1 := hP
  refine vp_callSi (W.runV (As := [.int k]) (rest := []) ⟨hx, hb, hml, hown, hts⟩ (r_X6_byteAt l dC dI cI cZ cL cJ h bs td z fp f k fb k (hz)) (cwV 1 hts gX6_readByte_X6_byteAt rfl rfl rfl (by decide +kernel) ⟨Nat.le_of_ble_eq_true rfl, Nat.le_of_ble_eq_true rfl⟩) (pvP 6 0 hK hP rfl rfl hPc_1) rfl rfl hl.1 rfl (lv_room (Nat.le_of_ble_eq_true rfl)) dX6_readByte_5 ⟨Nat.le_of_ble_eq_true rfl, Nat.le_of_ble_eq_true rfl⟩) (fun r_1 h_1 => ?_)
  refine lv_iload_n hx hb dX6_readByte_8 rfl (lv_at hl 1 rfl) ?_
  refine lv_icmp_ne (tgt := 25) hx hb dX6_readByte_9 (by decide) (fun c_2 => ?_) (fun c_2 => ?_)
  · skip
    refine lv_aload_n hx hb dX6_readByte_25 rfl (lv_at hl 0 rfl) ?_
    refine lv_iconst (v := 1) hx hb dX6_readByte_26 (by decide) ?_
    have hc_3 := cutW (wc := [(xo_6_ririii h bs (nI z) td fp f k)]) hP hD hS hA [0] (by decide +kernel) rfl
    refine va_callv (va_runV (As := [.int 1]) (rest := []) ⟨hx, hb, hml, hown, hts⟩ (r_X6_fail l dC dI cI cZ cL cJ s.heap.size h bs td z fp f k 1 ) (cwV 1 hts gX6_readByte_X6_fail rfl rfl rfl (by decide +kernel) ⟨Nat.le_of_ble_eq_true rfl, Nat.le_of_ble_eq_true rfl⟩) (pvW 6 0 hK hP rfl rfl hc_3) rfl rfl hl.1 rfl (lv_room (Nat.le_of_ble_eq_true rfl)) dX6_readByte_27 ⟨Nat.le_of_ble_eq_true rfl, Nat.le_of_ble_eq_true rfl⟩) hS (fun q _ h => hc_3.2.2 q h) hc_3.2.2 (fun u_3 t_3 H1 locs ht hvm h_3 hB hz1 hk1 hS => ?_)
    refine xl_2_5 hB (fun fpn_3 fn_3 hP1 hD1 hF_3_0 hF_3_1 hF_3_2 => ?_)
    clear hB
    rw [ht] at hP1
    obtain ⟨hP, hD⟩ := va_join (wr := [(xI bs cI 120 fb)]) (w1 := [(xo_6_ririii h bs (nI z) td fpn_3 fn_3 k)]) hP hD [0] [1] rfl rfl (by decide +kernel) (by decide +kernel) hk1 hc_3.2.2 hP1 hD1
    generalize H1 = H at hP hS ⊢
    have hP : va_P (dC, dI) vwCl [(xI bs cI 120 fb), (xo_6_ririii h bs (nI z) td fpn_3 fn_3 k)] H := hP
    have hD := dto hP hD
    have hX9 := cut2 (wc := [(xo_6_ririii h bs (nI z) td fpn_3 fn_3 k), (xI bs cI 120 fb)]) hP hD [1, 0] (by decide +kernel) rfl
    exact W.vret hx hb hr (fun t ht hW => ⟨⟨(), rfl, trivial, ⟨fpn_3, fn_3, k, va_Ht ht hX9.1, hX9.2, (lf_X6_readByte_1 hz h_1 c_2 hF_3_0 hF_3_1 hF_3_2), (lf_X6_readByte_2 hz h_1 c_2 hF_3_0 hF_3_1 hF_3_2)⟩⟩, hS.F ht⟩) hS.2.2 dX6_readByte_30
  · skip
    refine lv_aload_n hx hb dX6_readByte_12 rfl (lv_at hl 0 rfl) ?_
    refine lv_dup hx hb dX6_readByte_13 rfl ?_
    refine va_get (D := (dC, dI)) (ci := 6) (v := .int k) (C := RX6) (T := TX6) (N := 6) hx hb hts i_X6_readByte_X6 hown hK hP 0 rfl rfl 5 (by decide) (hts _ mx_X6_readByte_1) (fun _ h9 => h9) rfl dX6_readByte_14 ?_
    refine lv_iconst (v := 1) hx hb dX6_readByte_17 (by decide) ?_
    refine lv_iadd hx hb dX6_readByte_18 ?_
    refine lv_topi (fun v_4 e_4 => ?_)
    refine va_put (D := (dC, dI)) (ci := 6) (v := .int v_4) (ty := .int) (C := RX6) (T := TX6) (N := 6) hx hb hts i_X6_readByte_X6 tyX6 tyX6_ok nmX6 hown hK hP hD hS 0 rfl rfl 5 (by decide) (hts _ mx_X6_readByte_1) (fun _ h9 => h9) rfl (by decide +kernel) rfl rfl (Nat.le_of_ble_eq_true rfl) dX6_readByte_19 (fun H locs hP hD hS => ?_)
    have hP : va_P (dC, dI) vwCl [(xo_6_ririii h bs (nI z) td fp f v_4), (xI bs cI 120 fb)] H := hP
    have hD := dto hP hD
    refine lv_goto (tgt := 30) hx hb dX6_readByte_22 (by decide) ?_
    have hX9 := cut2 (wc := [(xo_6_ririii h bs (nI z) td fp f v_4), (xI bs cI 120 fb)]) hP hD [0, 1] (by decide +kernel) rfl
    exact W.vret hx hb hr (fun t ht hW => ⟨⟨(), rfl, trivial, ⟨fp, f, v_4, va_Ht ht hX9.1, hX9.2, (lf_X6_readByte_3 hz h_1 c_2 e_4), (lf_X6_readByte_4 hz h_1 c_2 e_4)⟩⟩, hS.F ht⟩) hS.2.2 dX6_readByte_30
theorem lf_X6_readNumber_1 {z : Nat} {fp : Int32} {f : Int32} {k : Int32} {fb : Nat → Int32} {fg : Nat} {fpn_3 : Int32} {fn_3 : Int32} (hz : z ≤ 120) (hfg : fg = figX fb z k 120 0) (c_2 : fg < 1) (hF_3_0 : (¬ (1 : Int32) = 0 → ¬ fn_3 = 0)) (hF_3_1 : (¬ f = 0 → fn_3 = f)) (hF_3_2 : rF 1 (fp, f, k) = (fpn_3, fn_3, k)) : (fn_3 = 0 → f = 0) := by
  first
  | (simp only [rN, rG1, rG2]; grind)
  | (simp only [rV, rG1, rG2]; grind)
  | grind
theorem lf_X6_readNumber_2 {z : Nat} {fp : Int32} {f : Int32} {k : Int32} {fb : Nat → Int32} {x : Int32} {y : Int32} {fg : Nat} {fpn_3 : Int32} {fn_3 : Int32} (hz : z ≤ 120) (hfg : fg = figX fb z k 120 0) (c_2 : fg < 1) (hF_3_0 : (¬ (1 : Int32) = 0 → ¬ fn_3 = 0)) (hF_3_1 : (¬ f = 0 → fn_3 = f)) (hF_3_2 : rF 1 (fp, f, k) = (fpn_3, fn_3, k)) : rN fb z x y (fp, f, k) = (fpn_3, fn_3, k) := by
  first
  | (simp only [rN, rG1, rG2]; grind)
  | (simp only [rV, rG1, rG2]; grind)
  | grind
theorem lf_X6_readNumber_3 {z : Nat} {fp : Int32} {f : Int32} {k : Int32} {fb : Nat → Int32} {x : Int32} {y : Int32} {fg : Nat} {fpn_3 : Int32} {fn_3 : Int32} (hz : z ≤ 120) (hfg : fg = figX fb z k 120 0) (c_2 : fg < 1) (hF_3_0 : (¬ (1 : Int32) = 0 → ¬ fn_3 = 0)) (hF_3_1 : (¬ f = 0 → fn_3 = f)) (hF_3_2 : rF 1 (fp, f, k) = (fpn_3, fn_3, k)) : 0 = (rV fb z x y k) := by
  first
  | (simp only [rN, rG1, rG2]; grind)
  | (simp only [rV, rG1, rG2]; grind)
  | grind
theorem lf_X6_readNumber_4 {z : Nat} {k : Int32} {fb : Nat → Int32} {fg : Nat} {w_11 : Int32} {ii : Nat} {v_20 : Int32} {v_21 : Int32} {r_22 : Int32} {v_23 : Int32} {v_24 : Int32} (hz : z ≤ 120) (hfg : fg = figX fb z k 120 0) (c_2 : ¬ (fg < 1)) (c_4 : fg ≤ 2) (hii : ii < fg) (haf_0 : (w_11 = numX fb z k ii)) (e_20 : v_20 = (w_11 * 10)) (e_21 : v_21 = (k + (nI ii))) (h_22 : r_22 = (bAt fb z v_21)) (e_23 : v_23 = (v_20 + r_22)) (e_24 : v_24 = (v_23 - 48)) : v_24 = numX fb z k (ii + 1) := by
  subst_vars; rfl
theorem lf_X6_readNumber_5 {z : Nat} {fp : Int32} {f : Int32} {k : Int32} {fb : Nat → Int32} {x : Int32} {fg : Nat} {w_11 : Int32} {fpn_27 : Int32} {fn_27 : Int32} (hz : z ≤ 120) (hfg : fg = figX fb z k 120 0) (c_2 : ¬ (fg < 1)) (c_4 : fg ≤ 2) (haf_0 : (w_11 = numX fb z k fg)) (c_26 : w_11 < x) (hF_27_0 : (¬ (2 : Int32) = 0 → ¬ fn_27 = 0)) (hF_27_1 : (¬ f = 0 → fn_27 = f)) (hF_27_2 : rF 2 (fp, f, k) = (fpn_27, fn_27, k)) : (fn_27 = 0 → f = 0) := by
  first
  | (simp only [rN, rG1, rG2]; grind)
  | (simp only [rV, rG1, rG2]; grind)
  | grind
theorem lf_X6_readNumber_6 {z : Nat} {fp : Int32} {f : Int32} {k : Int32} {fb : Nat → Int32} {x : Int32} {y : Int32} {fg : Nat} {w_11 : Int32} {fpn_27 : Int32} {fn_27 : Int32} (hz : z ≤ 120) (hfg : fg = figX fb z k 120 0) (c_2 : ¬ (fg < 1)) (c_4 : fg ≤ 2) (haf_0 : (w_11 = numX fb z k fg)) (c_26 : w_11 < x) (hF_27_0 : (¬ (2 : Int32) = 0 → ¬ fn_27 = 0)) (hF_27_1 : (¬ f = 0 → fn_27 = f)) (hF_27_2 : rF 2 (fp, f, k) = (fpn_27, fn_27, k)) : rN fb z x y (fp, f, k) = (fpn_27, fn_27, k) := by
  first
  | (simp only [rN, rG1, rG2]; grind)
  | (simp only [rV, rG1, rG2]; grind)
  | grind
theorem lf_X6_readNumber_7 {z : Nat} {fp : Int32} {f : Int32} {k : Int32} {fb : Nat → Int32} {x : Int32} {y : Int32} {fg : Nat} {w_11 : Int32} {fpn_27 : Int32} {fn_27 : Int32} (hz : z ≤ 120) (hfg : fg = figX fb z k 120 0) (c_2 : ¬ (fg < 1)) (c_4 : fg ≤ 2) (haf_0 : (w_11 = numX fb z k fg)) (c_26 : w_11 < x) (hF_27_0 : (¬ (2 : Int32) = 0 → ¬ fn_27 = 0)) (hF_27_1 : (¬ f = 0 → fn_27 = f)) (hF_27_2 : rF 2 (fp, f, k) = (fpn_27, fn_27, k)) : 0 = (rV fb z x y k) := by
  first
  | (simp only [rN, rG1, rG2]; grind)
  | (simp only [rV, rG1, rG2]; grind)
  | grind
theorem lf_X6_readNumber_8 {z : Nat} {f : Int32} {k : Int32} {fb : Nat → Int32} {x : Int32} {y : Int32} {fg : Nat} {w_11 : Int32} {v_29 : Int32} (hz : z ≤ 120) (hfg : fg = figX fb z k 120 0) (c_2 : ¬ (fg < 1)) (c_4 : fg ≤ 2) (haf_0 : (w_11 = numX fb z k fg)) (c_26 : ¬ (w_11 < x)) (c_28 : w_11 ≤ y) (e_29 : v_29 = (k + (nI fg))) : (f = 0 → f = 0) := by
  first
  | (simp only [rN, rG1, rG2]; grind)
  | (simp only [rV, rG1, rG2]; grind)
  | grind
theorem lf_X6_readNumber_9 {z : Nat} {fp : Int32} {f : Int32} {k : Int32} {fb : Nat → Int32} {x : Int32} {y : Int32} {fg : Nat} {w_11 : Int32} {v_29 : Int32} (hz : z ≤ 120) (hfg : fg = figX fb z k 120 0) (c_2 : ¬ (fg < 1)) (c_4 : fg ≤ 2) (haf_0 : (w_11 = numX fb z k fg)) (c_26 : ¬ (w_11 < x)) (c_28 : w_11 ≤ y) (e_29 : v_29 = (k + (nI fg))) : rN fb z x y (fp, f, k) = (fp, f, v_29) := by
  first
  | (simp only [rN, rG1, rG2]; grind)
  | (simp only [rV, rG1, rG2]; grind)
  | grind
theorem lf_X6_readNumber_10 {z : Nat} {k : Int32} {fb : Nat → Int32} {x : Int32} {y : Int32} {fg : Nat} {w_11 : Int32} {v_29 : Int32} (hz : z ≤ 120) (hfg : fg = figX fb z k 120 0) (c_2 : ¬ (fg < 1)) (c_4 : fg ≤ 2) (haf_0 : (w_11 = numX fb z k fg)) (c_26 : ¬ (w_11 < x)) (c_28 : w_11 ≤ y) (e_29 : v_29 = (k + (nI fg))) : w_11 = (rV fb z x y k) := by
  first
  | (simp only [rN, rG1, rG2]; grind)
  | (simp only [rV, rG1, rG2]; grind)
  | grind
theorem lf_X6_readNumber_11 {z : Nat} {fp : Int32} {f : Int32} {k : Int32} {fb : Nat → Int32} {x : Int32} {y : Int32} {fg : Nat} {w_11 : Int32} {fpn_30 : Int32} {fn_30 : Int32} (hz : z ≤ 120) (hfg : fg = figX fb z k 120 0) (c_2 : ¬ (fg < 1)) (c_4 : fg ≤ 2) (haf_0 : (w_11 = numX fb z k fg)) (c_26 : ¬ (w_11 < x)) (c_28 : ¬ (w_11 ≤ y)) (hF_30_0 : (¬ (2 : Int32) = 0 → ¬ fn_30 = 0)) (hF_30_1 : (¬ f = 0 → fn_30 = f)) (hF_30_2 : rF 2 (fp, f, k) = (fpn_30, fn_30, k)) : (fn_30 = 0 → f = 0) := by
  first
  | (simp only [rN, rG1, rG2]; grind)
  | (simp only [rV, rG1, rG2]; grind)
  | grind
theorem lf_X6_readNumber_12 {z : Nat} {fp : Int32} {f : Int32} {k : Int32} {fb : Nat → Int32} {x : Int32} {y : Int32} {fg : Nat} {w_11 : Int32} {fpn_30 : Int32} {fn_30 : Int32} (hz : z ≤ 120) (hfg : fg = figX fb z k 120 0) (c_2 : ¬ (fg < 1)) (c_4 : fg ≤ 2) (haf_0 : (w_11 = numX fb z k fg)) (c_26 : ¬ (w_11 < x)) (c_28 : ¬ (w_11 ≤ y)) (hF_30_0 : (¬ (2 : Int32) = 0 → ¬ fn_30 = 0)) (hF_30_1 : (¬ f = 0 → fn_30 = f)) (hF_30_2 : rF 2 (fp, f, k) = (fpn_30, fn_30, k)) : rN fb z x y (fp, f, k) = (fpn_30, fn_30, k) := by
  first
  | (simp only [rN, rG1, rG2]; grind)
  | (simp only [rV, rG1, rG2]; grind)
  | grind
theorem lf_X6_readNumber_13 {z : Nat} {fp : Int32} {f : Int32} {k : Int32} {fb : Nat → Int32} {x : Int32} {y : Int32} {fg : Nat} {w_11 : Int32} {fpn_30 : Int32} {fn_30 : Int32} (hz : z ≤ 120) (hfg : fg = figX fb z k 120 0) (c_2 : ¬ (fg < 1)) (c_4 : fg ≤ 2) (haf_0 : (w_11 = numX fb z k fg)) (c_26 : ¬ (w_11 < x)) (c_28 : ¬ (w_11 ≤ y)) (hF_30_0 : (¬ (2 : Int32) = 0 → ¬ fn_30 = 0)) (hF_30_1 : (¬ f = 0 → fn_30 = f)) (hF_30_2 : rF 2 (fp, f, k) = (fpn_30, fn_30, k)) : 0 = (rV fb z x y k) := by
  first
  | (simp only [rN, rG1, rG2]; grind)
  | (simp only [rV, rG1, rG2]; grind)
  | grind
theorem lf_X6_readNumber_14 {z : Nat} {fp : Int32} {f : Int32} {k : Int32} {fb : Nat → Int32} {fg : Nat} {fpn_31 : Int32} {fn_31 : Int32} (hz : z ≤ 120) (hfg : fg = figX fb z k 120 0) (c_2 : ¬ (fg < 1)) (c_4 : ¬ (fg ≤ 2)) (hF_31_0 : (¬ (1 : Int32) = 0 → ¬ fn_31 = 0)) (hF_31_1 : (¬ f = 0 → fn_31 = f)) (hF_31_2 : rF 1 (fp, f, k) = (fpn_31, fn_31, k)) : (fn_31 = 0 → f = 0) := by
  first
  | (simp only [rN, rG1, rG2]; grind)
  | (simp only [rV, rG1, rG2]; grind)
  | grind
theorem lf_X6_readNumber_15 {z : Nat} {fp : Int32} {f : Int32} {k : Int32} {fb : Nat → Int32} {x : Int32} {y : Int32} {fg : Nat} {fpn_31 : Int32} {fn_31 : Int32} (hz : z ≤ 120) (hfg : fg = figX fb z k 120 0) (c_2 : ¬ (fg < 1)) (c_4 : ¬ (fg ≤ 2)) (hF_31_0 : (¬ (1 : Int32) = 0 → ¬ fn_31 = 0)) (hF_31_1 : (¬ f = 0 → fn_31 = f)) (hF_31_2 : rF 1 (fp, f, k) = (fpn_31, fn_31, k)) : rN fb z x y (fp, f, k) = (fpn_31, fn_31, k) := by
  first
  | (simp only [rN, rG1, rG2]; grind)
  | (simp only [rV, rG1, rG2]; grind)
  | grind
theorem lf_X6_readNumber_16 {z : Nat} {fp : Int32} {f : Int32} {k : Int32} {fb : Nat → Int32} {x : Int32} {y : Int32} {fg : Nat} {fpn_31 : Int32} {fn_31 : Int32} (hz : z ≤ 120) (hfg : fg = figX fb z k 120 0) (c_2 : ¬ (fg < 1)) (c_4 : ¬ (fg ≤ 2)) (hF_31_0 : (¬ (1 : Int32) = 0 → ¬ fn_31 = 0)) (hF_31_1 : (¬ f = 0 → fn_31 = f)) (hF_31_2 : rF 1 (fp, f, k) = (fpn_31, fn_31, k)) : 0 = (rV fb z x y k) := by
  first
  | (simp only [rN, rG1, rG2]; grind)
  | (simp only [rV, rG1, rG2]; grind)
  | grind
set_option maxHeartbeats 4000000 in
set_option maxRecDepth 100000 in
theorem r_X6_readNumber (l : Launch) (dC : Nat → ClassId) (dI : Nat → Nat → Nat) (cI cZ cL cJ : ClassId) (sz : Nat) (h : Nat) (bs : Nat) (td : Nat) (z : Nat) (fp : Int32) (f : Int32) (k : Int32) (fb : Nat → Int32) (x : Int32) (y : Int32) (hz : z ≤ 120) : Met l yX6_readNumber wsX6_readNumber ({ frames := 2, cells := 0, slots := 0, locals := 42 }) (va_Pc [.ref h, .int x, .int y] (fun U => U.heap.size = sz ∧ va_P (dC, dI) vwCl [(xo_6_ririii h bs (nI z) td fp f k), (xI bs cI 120 fb)] U.heap ∧ va_K (dC, dI) vwCl [(cI, .int), (cZ, .boolean), (cL, .object RX3), (cJ, .array .int)] U ∧ va_D (fun _ => True) [(xo_6_ririii h bs (nI z) td fp f k), (xI bs cI 120 fb)])) (va_Qi (fun r (_ : Unit) => r = (rV fb z x y k)) (fun (_ : Unit) t => ∃ (fpn : Int32) (fn : Int32) (kn : Int32), va_P (dC, dI) vwCl [(xo_6_ririii h bs (nI z) td fpn fn kn), (xI bs cI 120 fb)] t.heap ∧ va_D (va_A [(xo_6_ririii h bs (nI z) td fp f k), (xI bs cI 120 fb)] sz) [(xo_6_ririii h bs (nI z) td fpn fn kn), (xI bs cI 120 fb)] ∧ (fn = 0 → f = 0) ∧ rN fb z x y (fp, f, k) = (fpn, fn, kn)) (va_A [(xo_6_ririii h bs (nI z) td fp f k), (xI bs cI 120 fb)] sz)) 0 0 (va_A [(xo_6_ririii h bs (nI z) td fp f k), (xI bs cI 120 fb)] sz) := by
  refine Met.ofW (cc := cX6_readNumber) (maxL := 6) (ret := (some .int)) (by decide) rfl ?_
  intro p e s m args below meth c s₁ B hml hv
  obtain ⟨rfl, hsz, hP, hK, hD0⟩ := hv
  have hx := B.exec
  have hb := B.bytes
  have hr := B.returns
  have hts := atoms_spec (ws := wsX6_readNumber) B.pre
  have hown : s.vm.findClass RX6 = some m.cls := findClass_of_methodNamed B.named
  have hlocks := B.notSynchronized
  subst hsz
  have hD := hD0.self (sz := s.heap.size)
  generalize hAe : va_A [(xo_6_ririii h bs (nI z) td fp f k), (xI bs cI 120 fb)] s.heap.size = A at hD ⊢
  have hA : ∀ q : Nat, s.heap.size ≤ q → A q := fun q h => by rw [← hAe]; exact Or.inr h
  have hS : va_S A s.heap s.heap [] := va_S.rf
  have hP : va_P (dC, dI) vwCl [(xo_6_ririii h bs (nI z) td fp f k), (xI bs cI 120 fb)] s.heap := hP
  have hl := lv_entry ([.ref h, .int x, .int y]) (n := 6) (Nat.le_of_ble_eq_true rfl)
  rw [lg_entry_eq]
  generalize (lg_sl ([.ref h, .int x, .int y]) ++ List.replicate (6 - (lg_sl ([.ref h, .int x, .int y])).length) Slot.unset).toArray = ls at hl ⊢
  have hl : lv_has ls 6 [(0, .ref h), (1, .int x), (2, .int y)] := hl
  refine lv_aload_n hx hb dX6_readNumber_0 rfl (lv_at hl 0 rfl) ?_
  have hPc_1 := hP
  refine vp_callSi (W.runV (As := []) (rest := []) ⟨hx, hb, hml, hown, hts⟩ (r_X6_figuresHere l dC dI cI cZ cL cJ h bs td z fp f k fb (hz)) (cwV 0 hts gX6_readNumber_X6_figuresHere rfl rfl rfl (by decide +kernel) ⟨Nat.le_of_ble_eq_true rfl, Nat.le_of_ble_eq_true rfl⟩) (pvP 6 0 hK hP rfl rfl hPc_1) rfl rfl hl.1 rfl (lv_room (Nat.le_of_ble_eq_true rfl)) dX6_readNumber_1 ⟨Nat.le_of_ble_eq_true rfl, Nat.le_of_ble_eq_true rfl⟩) (fun r_1 h_1 => ?_)
  obtain ⟨fg, hfg⟩ : ∃ j : Nat, j = figX fb z k 120 0 := ⟨_, rfl⟩
  have hfg9 : fg ≤ 120 := by rw [hfg]; exact figX_le _ _ _ _ _
  rw [← hfg] at h_1
  subst h_1
  refine lv_istore_n (lv' := [(3, .int (nI fg)), (0, .ref h), (1, .int x), (2, .int y)]) hx hb dX6_readNumber_4 rfl hl (by decide) rfl (fun ls hl => ?_)
  refine lv_iload_n hx hb dX6_readNumber_5 rfl (lv_at hl 0 rfl) ?_
  refine lv_iconst (v := 1) hx hb dX6_readNumber_6 (by decide) ?_
  refine lv_icmp_lt (tgt := 15) hx hb dX6_readNumber_7 (by decide) (fun c_2 => ?_) (fun c_2 => ?_)
  · have c_2 : fg < 1 := (nI_ltI (a := fg) (b := 1) (by omega) (by omega)).mp c_2
    refine lv_aload_n hx hb dX6_readNumber_15 rfl (lv_at hl 1 rfl) ?_
    refine lv_iconst (v := 1) hx hb dX6_readNumber_16 (by decide) ?_
    have hc_3 := cutW (wc := [(xo_6_ririii h bs (nI z) td fp f k)]) hP hD hS hA [0] (by decide +kernel) rfl
    refine va_callv (va_runV (As := [.int 1]) (rest := []) ⟨hx, hb, hml, hown, hts⟩ (r_X6_fail l dC dI cI cZ cL cJ s.heap.size h bs td z fp f k 1 ) (cwV 1 hts gX6_readNumber_X6_fail rfl rfl rfl (by decide +kernel) ⟨Nat.le_of_ble_eq_true rfl, Nat.le_of_ble_eq_true rfl⟩) (pvW 6 0 hK hP rfl rfl hc_3) rfl rfl hl.1 rfl (lv_room (Nat.le_of_ble_eq_true rfl)) dX6_readNumber_17 ⟨Nat.le_of_ble_eq_true rfl, Nat.le_of_ble_eq_true rfl⟩) hS (fun q _ h => hc_3.2.2 q h) hc_3.2.2 (fun u_3 t_3 H1 locs ht hvm h_3 hB hz1 hk1 hS => ?_)
    refine xl_2_5 hB (fun fpn_3 fn_3 hP1 hD1 hF_3_0 hF_3_1 hF_3_2 => ?_)
    clear hB
    rw [ht] at hP1
    obtain ⟨hP, hD⟩ := va_join (wr := [(xI bs cI 120 fb)]) (w1 := [(xo_6_ririii h bs (nI z) td fpn_3 fn_3 k)]) hP hD [0] [1] rfl rfl (by decide +kernel) (by decide +kernel) hk1 hc_3.2.2 hP1 hD1
    generalize H1 = H at hP hS ⊢
    have hP : va_P (dC, dI) vwCl [(xI bs cI 120 fb), (xo_6_ririii h bs (nI z) td fpn_3 fn_3 k)] H := hP
    have hD := dto hP hD
    refine lv_iconst (v := 0) hx hb dX6_readNumber_20 (by decide) ?_
    have hX9 := cut2 (wc := [(xo_6_ririii h bs (nI z) td fpn_3 fn_3 k), (xI bs cI 120 fb)]) hP hD [1, 0] (by decide +kernel) rfl
    exact W.iret (v := 0) hx hb hr (fun t ht hW => ⟨⟨0, (), rfl, (lf_X6_readNumber_3 hz hfg c_2 hF_3_0 hF_3_1 hF_3_2), ⟨fpn_3, fn_3, k, va_Ht ht hX9.1, hX9.2, (lf_X6_readNumber_1 hz hfg c_2 hF_3_0 hF_3_1 hF_3_2), (lf_X6_readNumber_2 hz hfg c_2 hF_3_0 hF_3_1 hF_3_2)⟩⟩, hS.F ht⟩) hS.2.2 dX6_readNumber_21
  · have c_2 : ¬ (fg < 1) := fun q_ => c_2 ((nI_ltI (a := fg) (b := 1) (by omega) (by omega)).mpr q_)
    refine lv_iload_n hx hb dX6_readNumber_10 rfl (lv_at hl 0 rfl) ?_
    refine lv_iconst (v := 2) hx hb dX6_readNumber_11 (by decide) ?_
    refine lv_icmp_le (tgt := 22) hx hb dX6_readNumber_12 (by decide) (fun c_4 => ?_) (fun c_4 => ?_)
    · have c_4 : fg ≤ 2 := (nI_leI (a := fg) (b := 2) (by omega) (by omega)).mp c_4
      refine lv_iconst (v := 0) hx hb dX6_readNumber_22 (by decide) ?_
      refine lv_istore (lv' := [(4, .int 0), (3, .int (nI fg)), (0, .ref h), (1, .int x), (2, .int y)]) hx hb dX6_readNumber_23 hl (by decide) rfl (fun ls hl => ?_)
      refine lv_iconst (v := 0) hx hb dX6_readNumber_25 (by decide) ?_
      refine lv_istore (lv' := [(5, .int 0), (4, .int 0), (3, .int (nI fg)), (0, .ref h), (1, .int x), (2, .int y)]) hx hb dX6_readNumber_26 hl (by decide) rfl (fun ls hl => ?_)
      refine lp_go (σ := (Int32)) (fun ii (st : (Int32)) H locs ls => match st with | w_11 => lv_has ls 6 [(5, .int (nI ii)), (4, .int w_11), (3, .int (nI fg)), (0, .ref h), (1, .int x), (2, .int y)] ∧ va_P (dC, dI) vwCl [(xo_6_ririii h bs (nI z) td fp f k), (xI bs cI 120 fb)] H ∧ va_D A [(xo_6_ririii h bs (nI z) td fp f k), (xI bs cI 120 fb)] ∧ va_S A s.heap H locs ∧ (w_11 = numX fb z k ii)) fg ?_ ?_ 0 (by omega) (0) ⟨lv_sub hl [0, 1, 2, 3, 4, 5] rfl, hP.sub (ws' := [(xo_6_ririii h bs (nI z) td fp f k), (xI bs cI 120 fb)]) [0, 1] rfl, hD.sub (ws' := [(xo_6_ririii h bs (nI z) td fp f k), (xI bs cI 120 fb)]) [0, 1] (by decide +kernel) rfl, hS, rfl⟩
      · rintro ii w_11 H locs ls hii ⟨hl, hP, hD, hS, haf_0⟩ ih
        refine lv_iload hx hb dX6_readNumber_28 (lv_at hl 0 rfl) ?_
        refine lv_iload_n hx hb dX6_readNumber_30 rfl (lv_at hl 2 rfl) ?_
        refine lv_icmp_ge (tgt := 62) hx hb dX6_readNumber_31 (by decide) (fun c_ => absurd c_ (fun q_ => absurd ((nI_leI (a := fg) (b := ii) (by omega) (by omega)).mp q_) (by omega))) (fun _ => ?_)
        refine lv_iload hx hb dX6_readNumber_34 (lv_at hl 1 rfl) ?_
        refine lv_bipush (v := 10) hx hb dX6_readNumber_36 (by decide) ?_
        refine lv_imul hx hb dX6_readNumber_38 ?_
        refine lv_topi (fun v_20 e_20 => ?_)
        refine lv_aload_n hx hb dX6_readNumber_39 rfl (lv_at hl 3 rfl) ?_
        refine lv_aload_n hx hb dX6_readNumber_40 rfl (lv_at hl 3 rfl) ?_
        refine va_get (D := (dC, dI)) (ci := 6) (v := .int k) (C := RX6) (T := TX6) (N := 6) hx hb hts i_X6_readNumber_X6 hown hK hP 0 rfl rfl 5 (by decide) (hts _ mx_X6_readNumber_1) (fun _ h9 => h9) rfl dX6_readNumber_41 ?_
        refine lv_iload hx hb dX6_readNumber_44 (lv_at hl 0 rfl) ?_
        refine lv_iadd hx hb dX6_readNumber_46 ?_
        refine lv_topi (fun v_21 e_21 => ?_)
        have hPc_22 := hP
        refine vp_callSi (W.runV (As := [.int v_21]) (rest := [.int v_20]) ⟨hx, hb, hml, hown, hts⟩ (r_X6_byteAt l dC dI cI cZ cL cJ h bs td z fp f k fb v_21 (hz)) (cwV 1 hts gX6_readNumber_X6_byteAt rfl rfl rfl (by decide +kernel) ⟨Nat.le_of_ble_eq_true rfl, Nat.le_of_ble_eq_true rfl⟩) (pvP 6 0 hK hP rfl rfl hPc_22) rfl rfl hl.1 rfl (lv_room (Nat.le_of_ble_eq_true rfl)) dX6_readNumber_47 ⟨Nat.le_of_ble_eq_true rfl, Nat.le_of_ble_eq_true rfl⟩) (fun r_22 h_22 => ?_)
        refine lv_iadd hx hb dX6_readNumber_50 ?_
        refine lv_topi (fun v_23 e_23 => ?_)
        refine lv_bipush (v := 48) hx hb dX6_readNumber_51 (by decide) ?_
        refine lv_isub hx hb dX6_readNumber_53 ?_
        refine lv_topi (fun v_24 e_24 => ?_)
        refine lv_istore (lv' := [(4, .int v_24), (5, .int (nI ii)), (3, .int (nI fg)), (0, .ref h), (1, .int x), (2, .int y)]) hx hb dX6_readNumber_54 hl (by decide) rfl (fun ls hl => ?_)
        refine lv_iinc (v := (nI (ii + 1))) (lv' := [(5, .int (nI (ii + 1))), (4, .int v_24), (3, .int (nI fg)), (0, .ref h), (1, .int x), (2, .int y)]) hx hb dX6_readNumber_56 hl (k := 1) rfl (nI_add ii 1) (by decide) rfl (fun ls hl => ?_)
        refine lv_goto (tgt := 28) hx hb dX6_readNumber_59 (by decide) ?_
        exact ih (v_24) _ _ _ ⟨lv_sub hl [0, 1, 2, 3, 4, 5] rfl, hP.sub (ws' := [(xo_6_ririii h bs (nI z) td fp f k), (xI bs cI 120 fb)]) [0, 1] rfl, hD.sub (ws' := [(xo_6_ririii h bs (nI z) td fp f k), (xI bs cI 120 fb)]) [0, 1] (by decide +kernel) rfl, hS, (lf_X6_readNumber_4 hz hfg c_2 c_4 hii haf_0 e_20 e_21 h_22 e_23 e_24)⟩
      · rintro w_11 H locs ls ⟨hl, hP, hD, hS, haf_0⟩
        refine lv_iload hx hb dX6_readNumber_28 (lv_at hl 0 rfl) ?_
        refine lv_iload_n hx hb dX6_readNumber_30 rfl (lv_at hl 2 rfl) ?_
        refine lv_icmp_ge (tgt := 62) hx hb dX6_readNumber_31 (by decide) (fun _ => ?_) (fun c_ => absurd ((nI_leI (a := fg) (b := fg) (by omega) (by omega)).mpr (by omega)) c_)
        refine lv_iload hx hb dX6_readNumber_62 (lv_at hl 1 rfl) ?_
        refine lv_iload_n hx hb dX6_readNumber_64 rfl (lv_at hl 4 rfl) ?_
        refine lv_icmp_lt (tgt := 74) hx hb dX6_readNumber_65 (by decide) (fun c_26 => ?_) (fun c_26 => ?_)
        · skip
          refine lv_aload_n hx hb dX6_readNumber_74 rfl (lv_at hl 3 rfl) ?_
          refine lv_iconst (v := 2) hx hb dX6_readNumber_75 (by decide) ?_
          have hc_27 := cutW (wc := [(xo_6_ririii h bs (nI z) td fp f k)]) hP hD hS hA [0] (by decide +kernel) rfl
          refine va_callv (va_runV (As := [.int 2]) (rest := []) ⟨hx, hb, hml, hown, hts⟩ (r_X6_fail l dC dI cI cZ cL cJ H.size h bs td z fp f k 2 ) (cwV 1 hts gX6_readNumber_X6_fail rfl rfl rfl (by decide +kernel) ⟨Nat.le_of_ble_eq_true rfl, Nat.le_of_ble_eq_true rfl⟩) (pvW 6 0 hK hP rfl rfl hc_27) rfl rfl hl.1 rfl (lv_room (Nat.le_of_ble_eq_true rfl)) dX6_readNumber_76 ⟨Nat.le_of_ble_eq_true rfl, Nat.le_of_ble_eq_true rfl⟩) hS (fun q _ h => hc_27.2.2 q h) hc_27.2.2 (fun u_27 t_27 H1 locs ht hvm h_27 hB hz1 hk1 hS => ?_)
          refine xl_2_5 hB (fun fpn_27 fn_27 hP1 hD1 hF_27_0 hF_27_1 hF_27_2 => ?_)
          clear hB
          rw [ht] at hP1
          obtain ⟨hP, hD⟩ := va_join (wr := [(xI bs cI 120 fb)]) (w1 := [(xo_6_ririii h bs (nI z) td fpn_27 fn_27 k)]) hP hD [0] [1] rfl rfl (by decide +kernel) (by decide +kernel) hk1 hc_27.2.2 hP1 hD1
          generalize H1 = H at hP hS ⊢
          have hP : va_P (dC, dI) vwCl [(xI bs cI 120 fb), (xo_6_ririii h bs (nI z) td fpn_27 fn_27 k)] H := hP
          have hD := dto hP hD
          refine lv_iconst (v := 0) hx hb dX6_readNumber_79 (by decide) ?_
          have hX9 := cut2 (wc := [(xo_6_ririii h bs (nI z) td fpn_27 fn_27 k), (xI bs cI 120 fb)]) hP hD [1, 0] (by decide +kernel) rfl
          exact W.iret (v := 0) hx hb hr (fun t ht hW => ⟨⟨0, (), rfl, (lf_X6_readNumber_7 hz hfg c_2 c_4 haf_0 c_26 hF_27_0 hF_27_1 hF_27_2), ⟨fpn_27, fn_27, k, va_Ht ht hX9.1, hX9.2, (lf_X6_readNumber_5 hz hfg c_2 c_4 haf_0 c_26 hF_27_0 hF_27_1 hF_27_2), (lf_X6_readNumber_6 hz hfg c_2 c_4 haf_0 c_26 hF_27_0 hF_27_1 hF_27_2)⟩⟩, hS.F ht⟩) hS.2.2 dX6_readNumber_80
        · skip
          refine lv_iload hx hb dX6_readNumber_68 (lv_at hl 1 rfl) ?_
          refine lv_iload_n hx hb dX6_readNumber_70 rfl (lv_at hl 5 rfl) ?_
          refine lv_icmp_le (tgt := 81) hx hb dX6_readNumber_71 (by decide) (fun c_28 => ?_) (fun c_28 => ?_)
          · skip
            refine lv_aload_n hx hb dX6_readNumber_81 rfl (lv_at hl 3 rfl) ?_
            refine lv_dup hx hb dX6_readNumber_82 rfl ?_
            refine va_get (D := (dC, dI)) (ci := 6) (v := .int k) (C := RX6) (T := TX6) (N := 6) hx hb hts i_X6_readNumber_X6 hown hK hP 0 rfl rfl 5 (by decide) (hts _ mx_X6_readNumber_1) (fun _ h9 => h9) rfl dX6_readNumber_83 ?_
            refine lv_iload_n hx hb dX6_readNumber_86 rfl (lv_at hl 2 rfl) ?_
            refine lv_iadd hx hb dX6_readNumber_87 ?_
            refine lv_topi (fun v_29 e_29 => ?_)
            refine va_put (D := (dC, dI)) (ci := 6) (v := .int v_29) (ty := .int) (C := RX6) (T := TX6) (N := 6) hx hb hts i_X6_readNumber_X6 tyX6 tyX6_ok nmX6 hown hK hP hD hS 0 rfl rfl 5 (by decide) (hts _ mx_X6_readNumber_1) (fun _ h9 => h9) rfl (by decide +kernel) rfl rfl (Nat.le_of_ble_eq_true rfl) dX6_readNumber_88 (fun H locs hP hD hS => ?_)
            have hP : va_P (dC, dI) vwCl [(xo_6_ririii h bs (nI z) td fp f v_29), (xI bs cI 120 fb)] H := hP
            have hD := dto hP hD
            refine lv_iload hx hb dX6_readNumber_91 (lv_at hl 1 rfl) ?_
            have hX9 := cut2 (wc := [(xo_6_ririii h bs (nI z) td fp f v_29), (xI bs cI 120 fb)]) hP hD [0, 1] (by decide +kernel) rfl
            exact W.iret (v := w_11) hx hb hr (fun t ht hW => ⟨⟨w_11, (), rfl, (lf_X6_readNumber_10 hz hfg c_2 c_4 haf_0 c_26 c_28 e_29), ⟨fp, f, v_29, va_Ht ht hX9.1, hX9.2, (lf_X6_readNumber_8 hz hfg c_2 c_4 haf_0 c_26 c_28 e_29), (lf_X6_readNumber_9 hz hfg c_2 c_4 haf_0 c_26 c_28 e_29)⟩⟩, hS.F ht⟩) hS.2.2 dX6_readNumber_93
          · skip
            refine lv_aload_n hx hb dX6_readNumber_74 rfl (lv_at hl 3 rfl) ?_
            refine lv_iconst (v := 2) hx hb dX6_readNumber_75 (by decide) ?_
            have hc_30 := cutW (wc := [(xo_6_ririii h bs (nI z) td fp f k)]) hP hD hS hA [0] (by decide +kernel) rfl
            refine va_callv (va_runV (As := [.int 2]) (rest := []) ⟨hx, hb, hml, hown, hts⟩ (r_X6_fail l dC dI cI cZ cL cJ H.size h bs td z fp f k 2 ) (cwV 1 hts gX6_readNumber_X6_fail rfl rfl rfl (by decide +kernel) ⟨Nat.le_of_ble_eq_true rfl, Nat.le_of_ble_eq_true rfl⟩) (pvW 6 0 hK hP rfl rfl hc_30) rfl rfl hl.1 rfl (lv_room (Nat.le_of_ble_eq_true rfl)) dX6_readNumber_76 ⟨Nat.le_of_ble_eq_true rfl, Nat.le_of_ble_eq_true rfl⟩) hS (fun q _ h => hc_30.2.2 q h) hc_30.2.2 (fun u_30 t_30 H1 locs ht hvm h_30 hB hz1 hk1 hS => ?_)
            refine xl_2_5 hB (fun fpn_30 fn_30 hP1 hD1 hF_30_0 hF_30_1 hF_30_2 => ?_)
            clear hB
            rw [ht] at hP1
            obtain ⟨hP, hD⟩ := va_join (wr := [(xI bs cI 120 fb)]) (w1 := [(xo_6_ririii h bs (nI z) td fpn_30 fn_30 k)]) hP hD [0] [1] rfl rfl (by decide +kernel) (by decide +kernel) hk1 hc_30.2.2 hP1 hD1
            generalize H1 = H at hP hS ⊢
            have hP : va_P (dC, dI) vwCl [(xI bs cI 120 fb), (xo_6_ririii h bs (nI z) td fpn_30 fn_30 k)] H := hP
            have hD := dto hP hD
            refine lv_iconst (v := 0) hx hb dX6_readNumber_79 (by decide) ?_
            have hX9 := cut2 (wc := [(xo_6_ririii h bs (nI z) td fpn_30 fn_30 k), (xI bs cI 120 fb)]) hP hD [1, 0] (by decide +kernel) rfl
            exact W.iret (v := 0) hx hb hr (fun t ht hW => ⟨⟨0, (), rfl, (lf_X6_readNumber_13 hz hfg c_2 c_4 haf_0 c_26 c_28 hF_30_0 hF_30_1 hF_30_2), ⟨fpn_30, fn_30, k, va_Ht ht hX9.1, hX9.2, (lf_X6_readNumber_11 hz hfg c_2 c_4 haf_0 c_26 c_28 hF_30_0 hF_30_1 hF_30_2), (lf_X6_readNumber_12 hz hfg c_2 c_4 haf_0 c_26 c_28 hF_30_0 hF_30_1 hF_30_2)⟩⟩, hS.F ht⟩) hS.2.2 dX6_readNumber_80
    · have c_4 : ¬ (fg ≤ 2) := fun q_ => c_4 ((nI_leI (a := fg) (b := 2) (by omega) (by omega)).mpr q_)
      refine lv_aload_n hx hb dX6_readNumber_15 rfl (lv_at hl 1 rfl) ?_
      refine lv_iconst (v := 1) hx hb dX6_readNumber_16 (by decide) ?_
      have hc_31 := cutW (wc := [(xo_6_ririii h bs (nI z) td fp f k)]) hP hD hS hA [0] (by decide +kernel) rfl
      refine va_callv (va_runV (As := [.int 1]) (rest := []) ⟨hx, hb, hml, hown, hts⟩ (r_X6_fail l dC dI cI cZ cL cJ s.heap.size h bs td z fp f k 1 ) (cwV 1 hts gX6_readNumber_X6_fail rfl rfl rfl (by decide +kernel) ⟨Nat.le_of_ble_eq_true rfl, Nat.le_of_ble_eq_true rfl⟩) (pvW 6 0 hK hP rfl rfl hc_31) rfl rfl hl.1 rfl (lv_room (Nat.le_of_ble_eq_true rfl)) dX6_readNumber_17 ⟨Nat.le_of_ble_eq_true rfl, Nat.le_of_ble_eq_true rfl⟩) hS (fun q _ h => hc_31.2.2 q h) hc_31.2.2 (fun u_31 t_31 H1 locs ht hvm h_31 hB hz1 hk1 hS => ?_)
      refine xl_2_5 hB (fun fpn_31 fn_31 hP1 hD1 hF_31_0 hF_31_1 hF_31_2 => ?_)
      clear hB
      rw [ht] at hP1
      obtain ⟨hP, hD⟩ := va_join (wr := [(xI bs cI 120 fb)]) (w1 := [(xo_6_ririii h bs (nI z) td fpn_31 fn_31 k)]) hP hD [0] [1] rfl rfl (by decide +kernel) (by decide +kernel) hk1 hc_31.2.2 hP1 hD1
      generalize H1 = H at hP hS ⊢
      have hP : va_P (dC, dI) vwCl [(xI bs cI 120 fb), (xo_6_ririii h bs (nI z) td fpn_31 fn_31 k)] H := hP
      have hD := dto hP hD
      refine lv_iconst (v := 0) hx hb dX6_readNumber_20 (by decide) ?_
      have hX9 := cut2 (wc := [(xo_6_ririii h bs (nI z) td fpn_31 fn_31 k), (xI bs cI 120 fb)]) hP hD [1, 0] (by decide +kernel) rfl
      exact W.iret (v := 0) hx hb hr (fun t ht hW => ⟨⟨0, (), rfl, (lf_X6_readNumber_16 hz hfg c_2 c_4 hF_31_0 hF_31_1 hF_31_2), ⟨fpn_31, fn_31, k, va_Ht ht hX9.1, hX9.2, (lf_X6_readNumber_14 hz hfg c_2 c_4 hF_31_0 hF_31_1 hF_31_2), (lf_X6_readNumber_15 hz hfg c_2 c_4 hF_31_0 hF_31_1 hF_31_2)⟩⟩, hS.F ht⟩) hS.2.2 dX6_readNumber_21
theorem lf_X6_readLaw_1 {z : Nat} {fp : Int32} {f : Int32} {k : Int32} {fb : Nat → Int32} {tww : Nat} {tkk : Nat} {fpn_1 : Int32} {fn_1 : Int32} {kn_1 : Int32} {fpn_2 : Int32} {fn_2 : Int32} {kn_2 : Int32} {r_2 : Int32} {fpn_3 : Int32} {fn_3 : Int32} {kn_3 : Int32} {v_4 : Int32} {fpn_5 : Int32} {fn_5 : Int32} {kn_5 : Int32} {r_5 : Int32} {fpn_6 : Int32} {fn_6 : Int32} {kn_6 : Int32} {fpn_7 : Int32} {fn_7 : Int32} {kn_7 : Int32} {r_7 : Int32} {fpn_8 : Int32} {fn_8 : Int32} {kn_8 : Int32} (hz : z ≤ 120) (htww : tww ≤ 6) (htkk : tkk ≤ 6) (hF_1_0 : (fn_1 = 0 → f = 0 ∧ bAt fb z k = 109)) (hF_1_1 : rB fb z 109 (fp, f, k) = (fpn_1, fn_1, kn_1)) (hF_2_0 : (fn_2 = 0 → fn_1 = 0)) (hF_2_1 : rN fb z 5 15 (fpn_1, fn_1, kn_1) = (fpn_2, fn_2, kn_2)) (h_2 : r_2 = (rV fb z 5 15 kn_1)) (hF_3_0 : (fn_3 = 0 → fn_2 = 0 ∧ bAt fb z kn_2 = 44)) (hF_3_1 : rB fb z 44 (fpn_2, fn_2, kn_2) = (fpn_3, fn_3, kn_3)) (e_4 : v_4 = (r_2 - 1)) (hF_5_0 : (fn_5 = 0 → fn_3 = 0)) (hF_5_1 : rN fb z 0 v_4 (fpn_3, fn_3, kn_3) = (fpn_5, fn_5, kn_5)) (h_5 : r_5 = (rV fb z 0 v_4 kn_3)) (hF_6_0 : (fn_6 = 0 → fn_5 = 0 ∧ bAt fb z kn_5 = 44)) (hF_6_1 : rB fb z 44 (fpn_5, fn_5, kn_5) = (fpn_6, fn_6, kn_6)) (hF_7_0 : (fn_7 = 0 → fn_6 = 0)) (hF_7_1 : rN fb z 0 4 (fpn_6, fn_6, kn_6) = (fpn_7, fn_7, kn_7)) (h_7 : r_7 = (rV fb z 0 4 kn_6)) (hF_8_0 : (fn_8 = 0 → fn_7 = 0 ∧ bAt fb z kn_7 = 59)) (hF_8_1 : rB fb z 59 (fpn_7, fn_7, kn_7) = (fpn_8, fn_8, kn_8)) : xLc fb z (fp, f, k) = (fpn_8, fn_8, kn_8) := by
  simp only [xLc, xLb, xLa, xL2, xL1, xL0]; grind
theorem lf_X6_readLaw_2 {z : Nat} {fp : Int32} {f : Int32} {k : Int32} {fb : Nat → Int32} {tww : Nat} {tkk : Nat} {fpn_1 : Int32} {fn_1 : Int32} {kn_1 : Int32} {fpn_2 : Int32} {fn_2 : Int32} {kn_2 : Int32} {r_2 : Int32} {fpn_3 : Int32} {fn_3 : Int32} {kn_3 : Int32} {v_4 : Int32} {fpn_5 : Int32} {fn_5 : Int32} {kn_5 : Int32} {r_5 : Int32} {fpn_6 : Int32} {fn_6 : Int32} {kn_6 : Int32} {fpn_7 : Int32} {fn_7 : Int32} {kn_7 : Int32} {r_7 : Int32} {fpn_8 : Int32} {fn_8 : Int32} {kn_8 : Int32} (hz : z ≤ 120) (htww : tww ≤ 6) (htkk : tkk ≤ 6) (hF_1_0 : (fn_1 = 0 → f = 0 ∧ bAt fb z k = 109)) (hF_1_1 : rB fb z 109 (fp, f, k) = (fpn_1, fn_1, kn_1)) (hF_2_0 : (fn_2 = 0 → fn_1 = 0)) (hF_2_1 : rN fb z 5 15 (fpn_1, fn_1, kn_1) = (fpn_2, fn_2, kn_2)) (h_2 : r_2 = (rV fb z 5 15 kn_1)) (hF_3_0 : (fn_3 = 0 → fn_2 = 0 ∧ bAt fb z kn_2 = 44)) (hF_3_1 : rB fb z 44 (fpn_2, fn_2, kn_2) = (fpn_3, fn_3, kn_3)) (e_4 : v_4 = (r_2 - 1)) (hF_5_0 : (fn_5 = 0 → fn_3 = 0)) (hF_5_1 : rN fb z 0 v_4 (fpn_3, fn_3, kn_3) = (fpn_5, fn_5, kn_5)) (h_5 : r_5 = (rV fb z 0 v_4 kn_3)) (hF_6_0 : (fn_6 = 0 → fn_5 = 0 ∧ bAt fb z kn_5 = 44)) (hF_6_1 : rB fb z 44 (fpn_5, fn_5, kn_5) = (fpn_6, fn_6, kn_6)) (hF_7_0 : (fn_7 = 0 → fn_6 = 0)) (hF_7_1 : rN fb z 0 4 (fpn_6, fn_6, kn_6) = (fpn_7, fn_7, kn_7)) (h_7 : r_7 = (rV fb z 0 4 kn_6)) (hF_8_0 : (fn_8 = 0 → fn_7 = 0 ∧ bAt fb z kn_7 = 59)) (hF_8_1 : rB fb z 59 (fpn_7, fn_7, kn_7) = (fpn_8, fn_8, kn_8)) : r_2 = xL0 fb z (fp, f, k) := by
  simp only [xLc, xLb, xLa, xL2, xL1, xL0]; grind
theorem lf_X6_readLaw_3 {z : Nat} {fp : Int32} {f : Int32} {k : Int32} {fb : Nat → Int32} {tww : Nat} {tkk : Nat} {fpn_1 : Int32} {fn_1 : Int32} {kn_1 : Int32} {fpn_2 : Int32} {fn_2 : Int32} {kn_2 : Int32} {r_2 : Int32} {fpn_3 : Int32} {fn_3 : Int32} {kn_3 : Int32} {v_4 : Int32} {fpn_5 : Int32} {fn_5 : Int32} {kn_5 : Int32} {r_5 : Int32} {fpn_6 : Int32} {fn_6 : Int32} {kn_6 : Int32} {fpn_7 : Int32} {fn_7 : Int32} {kn_7 : Int32} {r_7 : Int32} {fpn_8 : Int32} {fn_8 : Int32} {kn_8 : Int32} (hz : z ≤ 120) (htww : tww ≤ 6) (htkk : tkk ≤ 6) (hF_1_0 : (fn_1 = 0 → f = 0 ∧ bAt fb z k = 109)) (hF_1_1 : rB fb z 109 (fp, f, k) = (fpn_1, fn_1, kn_1)) (hF_2_0 : (fn_2 = 0 → fn_1 = 0)) (hF_2_1 : rN fb z 5 15 (fpn_1, fn_1, kn_1) = (fpn_2, fn_2, kn_2)) (h_2 : r_2 = (rV fb z 5 15 kn_1)) (hF_3_0 : (fn_3 = 0 → fn_2 = 0 ∧ bAt fb z kn_2 = 44)) (hF_3_1 : rB fb z 44 (fpn_2, fn_2, kn_2) = (fpn_3, fn_3, kn_3)) (e_4 : v_4 = (r_2 - 1)) (hF_5_0 : (fn_5 = 0 → fn_3 = 0)) (hF_5_1 : rN fb z 0 v_4 (fpn_3, fn_3, kn_3) = (fpn_5, fn_5, kn_5)) (h_5 : r_5 = (rV fb z 0 v_4 kn_3)) (hF_6_0 : (fn_6 = 0 → fn_5 = 0 ∧ bAt fb z kn_5 = 44)) (hF_6_1 : rB fb z 44 (fpn_5, fn_5, kn_5) = (fpn_6, fn_6, kn_6)) (hF_7_0 : (fn_7 = 0 → fn_6 = 0)) (hF_7_1 : rN fb z 0 4 (fpn_6, fn_6, kn_6) = (fpn_7, fn_7, kn_7)) (h_7 : r_7 = (rV fb z 0 4 kn_6)) (hF_8_0 : (fn_8 = 0 → fn_7 = 0 ∧ bAt fb z kn_7 = 59)) (hF_8_1 : rB fb z 59 (fpn_7, fn_7, kn_7) = (fpn_8, fn_8, kn_8)) : r_5 = xL1 fb z (fp, f, k) := by
  simp only [xLc, xLb, xLa, xL2, xL1, xL0]; grind
theorem lf_X6_readLaw_4 {z : Nat} {fp : Int32} {f : Int32} {k : Int32} {fb : Nat → Int32} {tww : Nat} {tkk : Nat} {fpn_1 : Int32} {fn_1 : Int32} {kn_1 : Int32} {fpn_2 : Int32} {fn_2 : Int32} {kn_2 : Int32} {r_2 : Int32} {fpn_3 : Int32} {fn_3 : Int32} {kn_3 : Int32} {v_4 : Int32} {fpn_5 : Int32} {fn_5 : Int32} {kn_5 : Int32} {r_5 : Int32} {fpn_6 : Int32} {fn_6 : Int32} {kn_6 : Int32} {fpn_7 : Int32} {fn_7 : Int32} {kn_7 : Int32} {r_7 : Int32} {fpn_8 : Int32} {fn_8 : Int32} {kn_8 : Int32} (hz : z ≤ 120) (htww : tww ≤ 6) (htkk : tkk ≤ 6) (hF_1_0 : (fn_1 = 0 → f = 0 ∧ bAt fb z k = 109)) (hF_1_1 : rB fb z 109 (fp, f, k) = (fpn_1, fn_1, kn_1)) (hF_2_0 : (fn_2 = 0 → fn_1 = 0)) (hF_2_1 : rN fb z 5 15 (fpn_1, fn_1, kn_1) = (fpn_2, fn_2, kn_2)) (h_2 : r_2 = (rV fb z 5 15 kn_1)) (hF_3_0 : (fn_3 = 0 → fn_2 = 0 ∧ bAt fb z kn_2 = 44)) (hF_3_1 : rB fb z 44 (fpn_2, fn_2, kn_2) = (fpn_3, fn_3, kn_3)) (e_4 : v_4 = (r_2 - 1)) (hF_5_0 : (fn_5 = 0 → fn_3 = 0)) (hF_5_1 : rN fb z 0 v_4 (fpn_3, fn_3, kn_3) = (fpn_5, fn_5, kn_5)) (h_5 : r_5 = (rV fb z 0 v_4 kn_3)) (hF_6_0 : (fn_6 = 0 → fn_5 = 0 ∧ bAt fb z kn_5 = 44)) (hF_6_1 : rB fb z 44 (fpn_5, fn_5, kn_5) = (fpn_6, fn_6, kn_6)) (hF_7_0 : (fn_7 = 0 → fn_6 = 0)) (hF_7_1 : rN fb z 0 4 (fpn_6, fn_6, kn_6) = (fpn_7, fn_7, kn_7)) (h_7 : r_7 = (rV fb z 0 4 kn_6)) (hF_8_0 : (fn_8 = 0 → fn_7 = 0 ∧ bAt fb z kn_7 = 59)) (hF_8_1 : rB fb z 59 (fpn_7, fn_7, kn_7) = (fpn_8, fn_8, kn_8)) : r_7 = xL2 fb z (fp, f, k) := by
  simp only [xLc, xLb, xLa, xL2, xL1, xL0]; grind
set_option maxHeartbeats 4000000 in
set_option maxRecDepth 100000 in
theorem r_X6_readLaw (l : Launch) (dC : Nat → ClassId) (dI : Nat → Nat → Nat) (cI cZ cL cJ : ClassId) (sz : Nat) (h : Nat) (bs : Nat) (td : Nat) (z : Nat) (fp : Int32) (f : Int32) (k : Int32) (fb : Nat → Int32) (tv0 : Int32) (tv1 : Int32) (tv2 : Int32) (tv3 : Int32) (tv5 : Int32) (thh : Nat) (tww : Nat) (tkk : Nat) (tb1 : Nat) (tb2 : Nat) (tb3 : Nat) (tb4 : Nat) (tb5 : Nat) (tg1 : Nat → Int32) (tg2 : Nat → Int32) (tg3 : Nat → Int32) (tg4 : Nat → Int32) (tg5 : Nat → Int32) (hz : z ≤ 120) (htww : tww ≤ 6) (htkk : tkk ≤ 6) : Met l yX6_readLaw wsX6_readLaw ({ frames := 3, cells := 0, slots := 0, locals := 67 }) (va_Pc [.ref h] (fun U => U.heap.size = sz ∧ va_P (dC, dI) vwCl [(xo_6_ririii h bs (nI z) td fp f k), (xI bs cI 120 fb), (xo_3_iiiiiiiirrrrr td tv0 tv1 tv2 tv3 (nI thh) tv5 (nI tww) (nI tkk) tb1 tb2 tb3 tb4 tb5), (xI tb1 cI 6 tg1), (xI tb2 cI 6 tg2), (xI tb3 cI 6 tg3), (xI tb4 cI 6 tg4), (xI tb5 cI 6 tg5)] U.heap ∧ va_K (dC, dI) vwCl [(cI, .int), (cZ, .boolean), (cL, .object RX3), (cJ, .array .int)] U ∧ va_D (fun _ => True) [(xo_6_ririii h bs (nI z) td fp f k), (xI bs cI 120 fb), (xo_3_iiiiiiiirrrrr td tv0 tv1 tv2 tv3 (nI thh) tv5 (nI tww) (nI tkk) tb1 tb2 tb3 tb4 tb5), (xI tb1 cI 6 tg1), (xI tb2 cI 6 tg2), (xI tb3 cI 6 tg3), (xI tb4 cI 6 tg4), (xI tb5 cI 6 tg5)])) (va_Qv (fun (_ : Unit) => True) (fun (_ : Unit) t => ∃ (fpn : Int32) (fn : Int32) (kn : Int32) (tv0n : Int32) (tv1n : Int32) (tv2n : Int32), va_P (dC, dI) vwCl [(xo_6_ririii h bs (nI z) td fpn fn kn), (xI bs cI 120 fb), (xo_3_iiiiiiiirrrrr td tv0n tv1n tv2n tv3 (nI thh) tv5 (nI tww) (nI tkk) tb1 tb2 tb3 tb4 tb5), (xI tb1 cI 6 tg1), (xI tb2 cI 6 tg2), (xI tb3 cI 6 tg3), (xI tb4 cI 6 tg4), (xI tb5 cI 6 tg5)] t.heap ∧ va_D (va_A [(xo_6_ririii h bs (nI z) td fp f k), (xI bs cI 120 fb), (xo_3_iiiiiiiirrrrr td tv0 tv1 tv2 tv3 (nI thh) tv5 (nI tww) (nI tkk) tb1 tb2 tb3 tb4 tb5), (xI tb1 cI 6 tg1), (xI tb2 cI 6 tg2), (xI tb3 cI 6 tg3), (xI tb4 cI 6 tg4), (xI tb5 cI 6 tg5)] sz) [(xo_6_ririii h bs (nI z) td fpn fn kn), (xI bs cI 120 fb), (xo_3_iiiiiiiirrrrr td tv0n tv1n tv2n tv3 (nI thh) tv5 (nI tww) (nI tkk) tb1 tb2 tb3 tb4 tb5), (xI tb1 cI 6 tg1), (xI tb2 cI 6 tg2), (xI tb3 cI 6 tg3), (xI tb4 cI 6 tg4), (xI tb5 cI 6 tg5)] ∧ xLc fb z (fp, f, k) = (fpn, fn, kn) ∧ tv0n = xL0 fb z (fp, f, k) ∧ tv1n = xL1 fb z (fp, f, k) ∧ tv2n = xL2 fb z (fp, f, k)) (va_A [(xo_6_ririii h bs (nI z) td fp f k), (xI bs cI 120 fb), (xo_3_iiiiiiiirrrrr td tv0 tv1 tv2 tv3 (nI thh) tv5 (nI tww) (nI tkk) tb1 tb2 tb3 tb4 tb5), (xI tb1 cI 6 tg1), (xI tb2 cI 6 tg2), (xI tb3 cI 6 tg3), (xI tb4 cI 6 tg4), (xI tb5 cI 6 tg5)] sz)) 0 0 (va_A [(xo_6_ririii h bs (nI z) td fp f k), (xI bs cI 120 fb), (xo_3_iiiiiiiirrrrr td tv0 tv1 tv2 tv3 (nI thh) tv5 (nI tww) (nI tkk) tb1 tb2 tb3 tb4 tb5), (xI tb1 cI 6 tg1), (xI tb2 cI 6 tg2), (xI tb3 cI 6 tg3), (xI tb4 cI 6 tg4), (xI tb5 cI 6 tg5)] sz) := by
  refine Met.ofW (cc := cX6_readLaw) (maxL := 1) (ret := none) (by decide) rfl ?_
  intro p e s m args below meth c s₁ B hml hv
  obtain ⟨rfl, hsz, hP, hK, hD0⟩ := hv
  have hx := B.exec
  have hb := B.bytes
  have hr := B.returns
  have hts := atoms_spec (ws := wsX6_readLaw) B.pre
  have hown : s.vm.findClass RX6 = some m.cls := findClass_of_methodNamed B.named
  have hlocks := B.notSynchronized
  subst hsz
  have hD := hD0.self (sz := s.heap.size)
  generalize hAe : va_A [(xo_6_ririii h bs (nI z) td fp f k), (xI bs cI 120 fb), (xo_3_iiiiiiiirrrrr td tv0 tv1 tv2 tv3 (nI thh) tv5 (nI tww) (nI tkk) tb1 tb2 tb3 tb4 tb5), (xI tb1 cI 6 tg1), (xI tb2 cI 6 tg2), (xI tb3 cI 6 tg3), (xI tb4 cI 6 tg4), (xI tb5 cI 6 tg5)] s.heap.size = A at hD ⊢
  have hA : ∀ q : Nat, s.heap.size ≤ q → A q := fun q h => by rw [← hAe]; exact Or.inr h
  have hS : va_S A s.heap s.heap [] := va_S.rf
  have hP : va_P (dC, dI) vwCl [(xo_6_ririii h bs (nI z) td fp f k), (xI bs cI 120 fb), (xo_3_iiiiiiiirrrrr td tv0 tv1 tv2 tv3 (nI thh) tv5 (nI tww) (nI tkk) tb1 tb2 tb3 tb4 tb5), (xI tb1 cI 6 tg1), (xI tb2 cI 6 tg2), (xI tb3 cI 6 tg3), (xI tb4 cI 6 tg4), (xI tb5 cI 6 tg5)] s.heap := hP
  have hl := lv_entry ([.ref h]) (n := 1) (Nat.le_of_ble_eq_true rfl)
  rw [lg_entry_eq]
  generalize (lg_sl ([.ref h]) ++ List.replicate (1 - (lg_sl ([.ref h])).length) Slot.unset).toArray = ls at hl ⊢
  have hl : lv_has ls 1 [(0, .ref h)] := hl
  refine lv_aload_n hx hb dX6_readLaw_0 rfl (lv_at hl 0 rfl) ?_
  refine lv_bipush (v := 109) hx hb dX6_readLaw_1 (by decide) ?_
  have hc_1 := cutW (wc := [(xo_6_ririii h bs (nI z) td fp f k), (xI bs cI 120 fb)]) hP hD hS hA [0, 1] (by decide +kernel) rfl
  refine va_callv (va_runV (As := [.int 109]) (rest := []) ⟨hx, hb, hml, hown, hts⟩ (r_X6_readByte l dC dI cI cZ cL cJ s.heap.size h bs td z fp f k fb 109 (hz)) (cwV 1 hts gX6_readLaw_X6_readByte rfl rfl rfl (by decide +kernel) ⟨Nat.le_of_ble_eq_true rfl, Nat.le_of_ble_eq_true rfl⟩) (pvW 6 0 hK hP rfl rfl hc_1) rfl rfl hl.1 rfl (lv_room (Nat.le_of_ble_eq_true rfl)) dX6_readLaw_3 ⟨Nat.le_of_ble_eq_true rfl, Nat.le_of_ble_eq_true rfl⟩) hS (fun q _ h => hc_1.2.2 q h) hc_1.2.2 (fun u_1 t_1 H1 locs ht hvm h_1 hB hz1 hk1 hS => ?_)
  refine xl_3_4 hB (fun fpn_1 fn_1 kn_1 hP1 hD1 hF_1_0 hF_1_1 => ?_)
  clear hB
  rw [ht] at hP1
  obtain ⟨hP, hD⟩ := va_join (wr := [(xo_3_iiiiiiiirrrrr td tv0 tv1 tv2 tv3 (nI thh) tv5 (nI tww) (nI tkk) tb1 tb2 tb3 tb4 tb5), (xI tb1 cI 6 tg1), (xI tb2 cI 6 tg2), (xI tb3 cI 6 tg3), (xI tb4 cI 6 tg4), (xI tb5 cI 6 tg5)]) (w1 := [(xo_6_ririii h bs (nI z) td fpn_1 fn_1 kn_1), (xI bs cI 120 fb)]) hP hD [0, 1] [2, 3, 4, 5, 6, 7] rfl rfl (by decide +kernel) (by decide +kernel) hk1 hc_1.2.2 hP1 hD1
  generalize H1 = H at hP hS ⊢
  have hP : va_P (dC, dI) vwCl [(xo_3_iiiiiiiirrrrr td tv0 tv1 tv2 tv3 (nI thh) tv5 (nI tww) (nI tkk) tb1 tb2 tb3 tb4 tb5), (xI tb1 cI 6 tg1), (xI tb2 cI 6 tg2), (xI tb3 cI 6 tg3), (xI tb4 cI 6 tg4), (xI tb5 cI 6 tg5), (xo_6_ririii h bs (nI z) td fpn_1 fn_1 kn_1), (xI bs cI 120 fb)] H := hP
  have hD := dto hP hD
  refine lv_aload_n hx hb dX6_readLaw_6 rfl (lv_at hl 0 rfl) ?_
  refine va_get (D := (dC, dI)) (ci := 6) (v := .ref td) (C := RX6) (T := TX6) (N := 6) hx hb hts i_X6_readLaw_X6 hown hK hP 6 rfl rfl 2 (by decide) (hts _ mx_X6_readLaw_1) (fun _ h9 => h9) rfl dX6_readLaw_7 ?_
  refine lv_aload_n hx hb dX6_readLaw_10 rfl (lv_at hl 0 rfl) ?_
  refine lv_iconst (v := 5) hx hb dX6_readLaw_11 (by decide) ?_
  refine lv_bipush (v := 15) hx hb dX6_readLaw_12 (by decide) ?_
  have hc_2 := cutW (wc := [(xo_6_ririii h bs (nI z) td fpn_1 fn_1 kn_1), (xI bs cI 120 fb)]) hP hD hS hA [6, 7] (by decide +kernel) rfl
  refine va_calli (va_runV (As := [.int 5, .int 15]) (rest := [.ref td]) ⟨hx, hb, hml, hown, hts⟩ (r_X6_readNumber l dC dI cI cZ cL cJ H.size h bs td z fpn_1 fn_1 kn_1 fb 5 15 (hz)) (cwV 2 hts gX6_readLaw_X6_readNumber rfl rfl rfl (by decide +kernel) ⟨Nat.le_of_ble_eq_true rfl, Nat.le_of_ble_eq_true rfl⟩) (pvW 6 6 hK hP rfl rfl hc_2) rfl rfl hl.1 rfl (lv_room (Nat.le_of_ble_eq_true rfl)) dX6_readLaw_14 ⟨Nat.le_of_ble_eq_true rfl, Nat.le_of_ble_eq_true rfl⟩) hS (fun q _ h => hc_2.2.2 q h) hc_2.2.2 (fun r_2 u_2 t_2 H1 locs ht hvm h_2 hB hz1 hk1 hS => ?_)
  refine xl_3_4 hB (fun fpn_2 fn_2 kn_2 hP1 hD1 hF_2_0 hF_2_1 => ?_)
  clear hB
  rw [ht] at hP1
  obtain ⟨hP, hD⟩ := va_join (wr := [(xo_3_iiiiiiiirrrrr td tv0 tv1 tv2 tv3 (nI thh) tv5 (nI tww) (nI tkk) tb1 tb2 tb3 tb4 tb5), (xI tb1 cI 6 tg1), (xI tb2 cI 6 tg2), (xI tb3 cI 6 tg3), (xI tb4 cI 6 tg4), (xI tb5 cI 6 tg5)]) (w1 := [(xo_6_ririii h bs (nI z) td fpn_2 fn_2 kn_2), (xI bs cI 120 fb)]) hP hD [6, 7] [0, 1, 2, 3, 4, 5] rfl rfl (by decide +kernel) (by decide +kernel) hk1 hc_2.2.2 hP1 hD1
  generalize H1 = H at hP hS ⊢
  have hP : va_P (dC, dI) vwCl [(xo_3_iiiiiiiirrrrr td tv0 tv1 tv2 tv3 (nI thh) tv5 (nI tww) (nI tkk) tb1 tb2 tb3 tb4 tb5), (xI tb1 cI 6 tg1), (xI tb2 cI 6 tg2), (xI tb3 cI 6 tg3), (xI tb4 cI 6 tg4), (xI tb5 cI 6 tg5), (xo_6_ririii h bs (nI z) td fpn_2 fn_2 kn_2), (xI bs cI 120 fb)] H := hP
  have hD := dto hP hD
  refine va_put (D := (dC, dI)) (ci := 3) (v := .int r_2) (ty := .int) (C := RX3) (T := TX3) (N := 13) hx hb hts i_X6_readLaw_X3 tyX3 tyX3_ok nmX3 hown hK hP hD hS 0 rfl rfl 0 (by decide) (hts _ mx_X6_readLaw_2) (fun _ h9 => h9) rfl (by decide +kernel) rfl rfl (Nat.le_of_ble_eq_true rfl) dX6_readLaw_17 (fun H locs hP hD hS => ?_)
  have hP : va_P (dC, dI) vwCl [(xo_3_iiiiiiiirrrrr td r_2 tv1 tv2 tv3 (nI thh) tv5 (nI tww) (nI tkk) tb1 tb2 tb3 tb4 tb5), (xI tb1 cI 6 tg1), (xI tb2 cI 6 tg2), (xI tb3 cI 6 tg3), (xI tb4 cI 6 tg4), (xI tb5 cI 6 tg5), (xo_6_ririii h bs (nI z) td fpn_2 fn_2 kn_2), (xI bs cI 120 fb)] H := hP
  have hD := dto hP hD
  refine lv_aload_n hx hb dX6_readLaw_20 rfl (lv_at hl 0 rfl) ?_
  refine lv_bipush (v := 44) hx hb dX6_readLaw_21 (by decide) ?_
  have hc_3 := cutW (wc := [(xo_6_ririii h bs (nI z) td fpn_2 fn_2 kn_2), (xI bs cI 120 fb)]) hP hD hS hA [6, 7] (by decide +kernel) rfl
  refine va_callv (va_runV (As := [.int 44]) (rest := []) ⟨hx, hb, hml, hown, hts⟩ (r_X6_readByte l dC dI cI cZ cL cJ H.size h bs td z fpn_2 fn_2 kn_2 fb 44 (hz)) (cwV 1 hts gX6_readLaw_X6_readByte rfl rfl rfl (by decide +kernel) ⟨Nat.le_of_ble_eq_true rfl, Nat.le_of_ble_eq_true rfl⟩) (pvW 6 6 hK hP rfl rfl hc_3) rfl rfl hl.1 rfl (lv_room (Nat.le_of_ble_eq_true rfl)) dX6_readLaw_23 ⟨Nat.le_of_ble_eq_true rfl, Nat.le_of_ble_eq_true rfl⟩) hS (fun q _ h => hc_3.2.2 q h) hc_3.2.2 (fun u_3 t_3 H1 locs ht hvm h_3 hB hz1 hk1 hS => ?_)
  refine xl_3_4 hB (fun fpn_3 fn_3 kn_3 hP1 hD1 hF_3_0 hF_3_1 => ?_)
  clear hB
  rw [ht] at hP1
  obtain ⟨hP, hD⟩ := va_join (wr := [(xo_3_iiiiiiiirrrrr td r_2 tv1 tv2 tv3 (nI thh) tv5 (nI tww) (nI tkk) tb1 tb2 tb3 tb4 tb5), (xI tb1 cI 6 tg1), (xI tb2 cI 6 tg2), (xI tb3 cI 6 tg3), (xI tb4 cI 6 tg4), (xI tb5 cI 6 tg5)]) (w1 := [(xo_6_ririii h bs (nI z) td fpn_3 fn_3 kn_3), (xI bs cI 120 fb)]) hP hD [6, 7] [0, 1, 2, 3, 4, 5] rfl rfl (by decide +kernel) (by decide +kernel) hk1 hc_3.2.2 hP1 hD1
  generalize H1 = H at hP hS ⊢
  have hP : va_P (dC, dI) vwCl [(xo_3_iiiiiiiirrrrr td r_2 tv1 tv2 tv3 (nI thh) tv5 (nI tww) (nI tkk) tb1 tb2 tb3 tb4 tb5), (xI tb1 cI 6 tg1), (xI tb2 cI 6 tg2), (xI tb3 cI 6 tg3), (xI tb4 cI 6 tg4), (xI tb5 cI 6 tg5), (xo_6_ririii h bs (nI z) td fpn_3 fn_3 kn_3), (xI bs cI 120 fb)] H := hP
  have hD := dto hP hD
  refine lv_aload_n hx hb dX6_readLaw_26 rfl (lv_at hl 0 rfl) ?_
  refine va_get (D := (dC, dI)) (ci := 6) (v := .ref td) (C := RX6) (T := TX6) (N := 6) hx hb hts i_X6_readLaw_X6 hown hK hP 6 rfl rfl 2 (by decide) (hts _ mx_X6_readLaw_1) (fun _ h9 => h9) rfl dX6_readLaw_27 ?_
  refine lv_aload_n hx hb dX6_readLaw_30 rfl (lv_at hl 0 rfl) ?_
  refine lv_iconst (v := 0) hx hb dX6_readLaw_31 (by decide) ?_
  refine lv_aload_n hx hb dX6_readLaw_32 rfl (lv_at hl 0 rfl) ?_
  refine va_get (D := (dC, dI)) (ci := 6) (v := .ref td) (C := RX6) (T := TX6) (N := 6) hx hb hts i_X6_readLaw_X6 hown hK hP 6 rfl rfl 2 (by decide) (hts _ mx_X6_readLaw_1) (fun _ h9 => h9) rfl dX6_readLaw_33 ?_
  refine va_get (D := (dC, dI)) (ci := 3) (v := .int r_2) (C := RX3) (T := TX3) (N := 13) hx hb hts i_X6_readLaw_X3 hown hK hP 0 rfl rfl 0 (by decide) (hts _ mx_X6_readLaw_2) (fun _ h9 => h9) rfl dX6_readLaw_36 ?_
  refine lv_iconst (v := 1) hx hb dX6_readLaw_39 (by decide) ?_
  refine lv_isub hx hb dX6_readLaw_40 ?_
  refine lv_topi (fun v_4 e_4 => ?_)
  have hc_5 := cutW (wc := [(xo_6_ririii h bs (nI z) td fpn_3 fn_3 kn_3), (xI bs cI 120 fb)]) hP hD hS hA [6, 7] (by decide +kernel) rfl
  refine va_calli (va_runV (As := [.int 0, .int v_4]) (rest := [.ref td]) ⟨hx, hb, hml, hown, hts⟩ (r_X6_readNumber l dC dI cI cZ cL cJ H.size h bs td z fpn_3 fn_3 kn_3 fb 0 v_4 (hz)) (cwV 2 hts gX6_readLaw_X6_readNumber rfl rfl rfl (by decide +kernel) ⟨Nat.le_of_ble_eq_true rfl, Nat.le_of_ble_eq_true rfl⟩) (pvW 6 6 hK hP rfl rfl hc_5) rfl rfl hl.1 rfl (lv_room (Nat.le_of_ble_eq_true rfl)) dX6_readLaw_41 ⟨Nat.le_of_ble_eq_true rfl, Nat.le_of_ble_eq_true rfl⟩) hS (fun q _ h => hc_5.2.2 q h) hc_5.2.2 (fun r_5 u_5 t_5 H1 locs ht hvm h_5 hB hz1 hk1 hS => ?_)
  refine xl_3_4 hB (fun fpn_5 fn_5 kn_5 hP1 hD1 hF_5_0 hF_5_1 => ?_)
  clear hB
  rw [ht] at hP1
  obtain ⟨hP, hD⟩ := va_join (wr := [(xo_3_iiiiiiiirrrrr td r_2 tv1 tv2 tv3 (nI thh) tv5 (nI tww) (nI tkk) tb1 tb2 tb3 tb4 tb5), (xI tb1 cI 6 tg1), (xI tb2 cI 6 tg2), (xI tb3 cI 6 tg3), (xI tb4 cI 6 tg4), (xI tb5 cI 6 tg5)]) (w1 := [(xo_6_ririii h bs (nI z) td fpn_5 fn_5 kn_5), (xI bs cI 120 fb)]) hP hD [6, 7] [0, 1, 2, 3, 4, 5] rfl rfl (by decide +kernel) (by decide +kernel) hk1 hc_5.2.2 hP1 hD1
  generalize H1 = H at hP hS ⊢
  have hP : va_P (dC, dI) vwCl [(xo_3_iiiiiiiirrrrr td r_2 tv1 tv2 tv3 (nI thh) tv5 (nI tww) (nI tkk) tb1 tb2 tb3 tb4 tb5), (xI tb1 cI 6 tg1), (xI tb2 cI 6 tg2), (xI tb3 cI 6 tg3), (xI tb4 cI 6 tg4), (xI tb5 cI 6 tg5), (xo_6_ririii h bs (nI z) td fpn_5 fn_5 kn_5), (xI bs cI 120 fb)] H := hP
  have hD := dto hP hD
  refine va_put (D := (dC, dI)) (ci := 3) (v := .int r_5) (ty := .int) (C := RX3) (T := TX3) (N := 13) hx hb hts i_X6_readLaw_X3 tyX3 tyX3_ok nmX3 hown hK hP hD hS 0 rfl rfl 1 (by decide) (hts _ mx_X6_readLaw_3) (fun _ h9 => h9) rfl (by decide +kernel) rfl rfl (Nat.le_of_ble_eq_true rfl) dX6_readLaw_44 (fun H locs hP hD hS => ?_)
  have hP : va_P (dC, dI) vwCl [(xo_3_iiiiiiiirrrrr td r_2 r_5 tv2 tv3 (nI thh) tv5 (nI tww) (nI tkk) tb1 tb2 tb3 tb4 tb5), (xI tb1 cI 6 tg1), (xI tb2 cI 6 tg2), (xI tb3 cI 6 tg3), (xI tb4 cI 6 tg4), (xI tb5 cI 6 tg5), (xo_6_ririii h bs (nI z) td fpn_5 fn_5 kn_5), (xI bs cI 120 fb)] H := hP
  have hD := dto hP hD
  refine lv_aload_n hx hb dX6_readLaw_47 rfl (lv_at hl 0 rfl) ?_
  refine lv_bipush (v := 44) hx hb dX6_readLaw_48 (by decide) ?_
  have hc_6 := cutW (wc := [(xo_6_ririii h bs (nI z) td fpn_5 fn_5 kn_5), (xI bs cI 120 fb)]) hP hD hS hA [6, 7] (by decide +kernel) rfl
  refine va_callv (va_runV (As := [.int 44]) (rest := []) ⟨hx, hb, hml, hown, hts⟩ (r_X6_readByte l dC dI cI cZ cL cJ H.size h bs td z fpn_5 fn_5 kn_5 fb 44 (hz)) (cwV 1 hts gX6_readLaw_X6_readByte rfl rfl rfl (by decide +kernel) ⟨Nat.le_of_ble_eq_true rfl, Nat.le_of_ble_eq_true rfl⟩) (pvW 6 6 hK hP rfl rfl hc_6) rfl rfl hl.1 rfl (lv_room (Nat.le_of_ble_eq_true rfl)) dX6_readLaw_50 ⟨Nat.le_of_ble_eq_true rfl, Nat.le_of_ble_eq_true rfl⟩) hS (fun q _ h => hc_6.2.2 q h) hc_6.2.2 (fun u_6 t_6 H1 locs ht hvm h_6 hB hz1 hk1 hS => ?_)
  refine xl_3_4 hB (fun fpn_6 fn_6 kn_6 hP1 hD1 hF_6_0 hF_6_1 => ?_)
  clear hB
  rw [ht] at hP1
  obtain ⟨hP, hD⟩ := va_join (wr := [(xo_3_iiiiiiiirrrrr td r_2 r_5 tv2 tv3 (nI thh) tv5 (nI tww) (nI tkk) tb1 tb2 tb3 tb4 tb5), (xI tb1 cI 6 tg1), (xI tb2 cI 6 tg2), (xI tb3 cI 6 tg3), (xI tb4 cI 6 tg4), (xI tb5 cI 6 tg5)]) (w1 := [(xo_6_ririii h bs (nI z) td fpn_6 fn_6 kn_6), (xI bs cI 120 fb)]) hP hD [6, 7] [0, 1, 2, 3, 4, 5] rfl rfl (by decide +kernel) (by decide +kernel) hk1 hc_6.2.2 hP1 hD1
  generalize H1 = H at hP hS ⊢
  have hP : va_P (dC, dI) vwCl [(xo_3_iiiiiiiirrrrr td r_2 r_5 tv2 tv3 (nI thh) tv5 (nI tww) (nI tkk) tb1 tb2 tb3 tb4 tb5), (xI tb1 cI 6 tg1), (xI tb2 cI 6 tg2), (xI tb3 cI 6 tg3), (xI tb4 cI 6 tg4), (xI tb5 cI 6 tg5), (xo_6_ririii h bs (nI z) td fpn_6 fn_6 kn_6), (xI bs cI 120 fb)] H := hP
  have hD := dto hP hD
  refine lv_aload_n hx hb dX6_readLaw_53 rfl (lv_at hl 0 rfl) ?_
  refine va_get (D := (dC, dI)) (ci := 6) (v := .ref td) (C := RX6) (T := TX6) (N := 6) hx hb hts i_X6_readLaw_X6 hown hK hP 6 rfl rfl 2 (by decide) (hts _ mx_X6_readLaw_1) (fun _ h9 => h9) rfl dX6_readLaw_54 ?_
  refine lv_aload_n hx hb dX6_readLaw_57 rfl (lv_at hl 0 rfl) ?_
  refine lv_iconst (v := 0) hx hb dX6_readLaw_58 (by decide) ?_
  refine lv_iconst (v := 4) hx hb dX6_readLaw_59 (by decide) ?_
  have hc_7 := cutW (wc := [(xo_6_ririii h bs (nI z) td fpn_6 fn_6 kn_6), (xI bs cI 120 fb)]) hP hD hS hA [6, 7] (by decide +kernel) rfl
  refine va_calli (va_runV (As := [.int 0, .int 4]) (rest := [.ref td]) ⟨hx, hb, hml, hown, hts⟩ (r_X6_readNumber l dC dI cI cZ cL cJ H.size h bs td z fpn_6 fn_6 kn_6 fb 0 4 (hz)) (cwV 2 hts gX6_readLaw_X6_readNumber rfl rfl rfl (by decide +kernel) ⟨Nat.le_of_ble_eq_true rfl, Nat.le_of_ble_eq_true rfl⟩) (pvW 6 6 hK hP rfl rfl hc_7) rfl rfl hl.1 rfl (lv_room (Nat.le_of_ble_eq_true rfl)) dX6_readLaw_60 ⟨Nat.le_of_ble_eq_true rfl, Nat.le_of_ble_eq_true rfl⟩) hS (fun q _ h => hc_7.2.2 q h) hc_7.2.2 (fun r_7 u_7 t_7 H1 locs ht hvm h_7 hB hz1 hk1 hS => ?_)
  refine xl_3_4 hB (fun fpn_7 fn_7 kn_7 hP1 hD1 hF_7_0 hF_7_1 => ?_)
  clear hB
  rw [ht] at hP1
  obtain ⟨hP, hD⟩ := va_join (wr := [(xo_3_iiiiiiiirrrrr td r_2 r_5 tv2 tv3 (nI thh) tv5 (nI tww) (nI tkk) tb1 tb2 tb3 tb4 tb5), (xI tb1 cI 6 tg1), (xI tb2 cI 6 tg2), (xI tb3 cI 6 tg3), (xI tb4 cI 6 tg4), (xI tb5 cI 6 tg5)]) (w1 := [(xo_6_ririii h bs (nI z) td fpn_7 fn_7 kn_7), (xI bs cI 120 fb)]) hP hD [6, 7] [0, 1, 2, 3, 4, 5] rfl rfl (by decide +kernel) (by decide +kernel) hk1 hc_7.2.2 hP1 hD1
  generalize H1 = H at hP hS ⊢
  have hP : va_P (dC, dI) vwCl [(xo_3_iiiiiiiirrrrr td r_2 r_5 tv2 tv3 (nI thh) tv5 (nI tww) (nI tkk) tb1 tb2 tb3 tb4 tb5), (xI tb1 cI 6 tg1), (xI tb2 cI 6 tg2), (xI tb3 cI 6 tg3), (xI tb4 cI 6 tg4), (xI tb5 cI 6 tg5), (xo_6_ririii h bs (nI z) td fpn_7 fn_7 kn_7), (xI bs cI 120 fb)] H := hP
  have hD := dto hP hD
  refine va_put (D := (dC, dI)) (ci := 3) (v := .int r_7) (ty := .int) (C := RX3) (T := TX3) (N := 13) hx hb hts i_X6_readLaw_X3 tyX3 tyX3_ok nmX3 hown hK hP hD hS 0 rfl rfl 2 (by decide) (hts _ mx_X6_readLaw_4) (fun _ h9 => h9) rfl (by decide +kernel) rfl rfl (Nat.le_of_ble_eq_true rfl) dX6_readLaw_63 (fun H locs hP hD hS => ?_)
  have hP : va_P (dC, dI) vwCl [(xo_3_iiiiiiiirrrrr td r_2 r_5 r_7 tv3 (nI thh) tv5 (nI tww) (nI tkk) tb1 tb2 tb3 tb4 tb5), (xI tb1 cI 6 tg1), (xI tb2 cI 6 tg2), (xI tb3 cI 6 tg3), (xI tb4 cI 6 tg4), (xI tb5 cI 6 tg5), (xo_6_ririii h bs (nI z) td fpn_7 fn_7 kn_7), (xI bs cI 120 fb)] H := hP
  have hD := dto hP hD
  refine lv_aload_n hx hb dX6_readLaw_66 rfl (lv_at hl 0 rfl) ?_
  refine lv_bipush (v := 59) hx hb dX6_readLaw_67 (by decide) ?_
  have hc_8 := cutW (wc := [(xo_6_ririii h bs (nI z) td fpn_7 fn_7 kn_7), (xI bs cI 120 fb)]) hP hD hS hA [6, 7] (by decide +kernel) rfl
  refine va_callv (va_runV (As := [.int 59]) (rest := []) ⟨hx, hb, hml, hown, hts⟩ (r_X6_readByte l dC dI cI cZ cL cJ H.size h bs td z fpn_7 fn_7 kn_7 fb 59 (hz)) (cwV 1 hts gX6_readLaw_X6_readByte rfl rfl rfl (by decide +kernel) ⟨Nat.le_of_ble_eq_true rfl, Nat.le_of_ble_eq_true rfl⟩) (pvW 6 6 hK hP rfl rfl hc_8) rfl rfl hl.1 rfl (lv_room (Nat.le_of_ble_eq_true rfl)) dX6_readLaw_69 ⟨Nat.le_of_ble_eq_true rfl, Nat.le_of_ble_eq_true rfl⟩) hS (fun q _ h => hc_8.2.2 q h) hc_8.2.2 (fun u_8 t_8 H1 locs ht hvm h_8 hB hz1 hk1 hS => ?_)
  refine xl_3_4 hB (fun fpn_8 fn_8 kn_8 hP1 hD1 hF_8_0 hF_8_1 => ?_)
  clear hB
  rw [ht] at hP1
  obtain ⟨hP, hD⟩ := va_join (wr := [(xo_3_iiiiiiiirrrrr td r_2 r_5 r_7 tv3 (nI thh) tv5 (nI tww) (nI tkk) tb1 tb2 tb3 tb4 tb5), (xI tb1 cI 6 tg1), (xI tb2 cI 6 tg2), (xI tb3 cI 6 tg3), (xI tb4 cI 6 tg4), (xI tb5 cI 6 tg5)]) (w1 := [(xo_6_ririii h bs (nI z) td fpn_8 fn_8 kn_8), (xI bs cI 120 fb)]) hP hD [6, 7] [0, 1, 2, 3, 4, 5] rfl rfl (by decide +kernel) (by decide +kernel) hk1 hc_8.2.2 hP1 hD1
  generalize H1 = H at hP hS ⊢
  have hP : va_P (dC, dI) vwCl [(xo_3_iiiiiiiirrrrr td r_2 r_5 r_7 tv3 (nI thh) tv5 (nI tww) (nI tkk) tb1 tb2 tb3 tb4 tb5), (xI tb1 cI 6 tg1), (xI tb2 cI 6 tg2), (xI tb3 cI 6 tg3), (xI tb4 cI 6 tg4), (xI tb5 cI 6 tg5), (xo_6_ririii h bs (nI z) td fpn_8 fn_8 kn_8), (xI bs cI 120 fb)] H := hP
  have hD := dto hP hD
  have hX9 := cut2 (wc := [(xo_6_ririii h bs (nI z) td fpn_8 fn_8 kn_8), (xI bs cI 120 fb), (xo_3_iiiiiiiirrrrr td r_2 r_5 r_7 tv3 (nI thh) tv5 (nI tww) (nI tkk) tb1 tb2 tb3 tb4 tb5), (xI tb1 cI 6 tg1), (xI tb2 cI 6 tg2), (xI tb3 cI 6 tg3), (xI tb4 cI 6 tg4), (xI tb5 cI 6 tg5)]) hP hD [6, 7, 0, 1, 2, 3, 4, 5] (by decide +kernel) rfl
  exact W.vret hx hb hr (fun t ht hW => ⟨⟨(), rfl, trivial, ⟨fpn_8, fn_8, kn_8, r_2, r_5, r_7, va_Ht ht hX9.1, hX9.2, (lf_X6_readLaw_1 hz htww htkk hF_1_0 hF_1_1 hF_2_0 hF_2_1 h_2 hF_3_0 hF_3_1 e_4 hF_5_0 hF_5_1 h_5 hF_6_0 hF_6_1 hF_7_0 hF_7_1 h_7 hF_8_0 hF_8_1), (lf_X6_readLaw_2 hz htww htkk hF_1_0 hF_1_1 hF_2_0 hF_2_1 h_2 hF_3_0 hF_3_1 e_4 hF_5_0 hF_5_1 h_5 hF_6_0 hF_6_1 hF_7_0 hF_7_1 h_7 hF_8_0 hF_8_1), (lf_X6_readLaw_3 hz htww htkk hF_1_0 hF_1_1 hF_2_0 hF_2_1 h_2 hF_3_0 hF_3_1 e_4 hF_5_0 hF_5_1 h_5 hF_6_0 hF_6_1 hF_7_0 hF_7_1 h_7 hF_8_0 hF_8_1), (lf_X6_readLaw_4 hz htww htkk hF_1_0 hF_1_1 hF_2_0 hF_2_1 h_2 hF_3_0 hF_3_1 e_4 hF_5_0 hF_5_1 h_5 hF_6_0 hF_6_1 hF_7_0 hF_7_1 h_7 hF_8_0 hF_8_1)⟩⟩, hS.F ht⟩) hS.2.2 dX6_readLaw_72
theorem lf_X6_readWind_1 {z : Nat} {fp : Int32} {f : Int32} {k : Int32} {fb : Nat → Int32} {tww : Nat} {tkk : Nat} {fpn_2 : Int32} {fn_2 : Int32} {kn_2 : Int32} {fpn_3 : Int32} {fn_3 : Int32} {kn_3 : Int32} {r_3 : Int32} {fpn_4 : Int32} {fn_4 : Int32} {kn_4 : Int32} (hz : z ≤ 120) (htww : tww ≤ 6) (htkk : tkk ≤ 6) (c_1 : ¬ (f = 0)) (hF_2_0 : (fn_2 = 0 → f = 0 ∧ bAt fb z k = 119)) (hF_2_1 : rB fb z 119 (fp, f, k) = (fpn_2, fn_2, kn_2)) (hF_3_0 : (fn_3 = 0 → fn_2 = 0)) (hF_3_1 : rN fb z 0 4 (fpn_2, fn_2, kn_2) = (fpn_3, fn_3, kn_3)) (h_3 : r_3 = (rV fb z 0 4 kn_2)) (hF_4_0 : (fn_4 = 0 → fn_3 = 0 ∧ bAt fb z kn_3 = 59)) (hF_4_1 : rB fb z 59 (fpn_3, fn_3, kn_3) = (fpn_4, fn_4, kn_4)) (c_5 : ¬ (fn_4 = 0)) : tww ≤ 6 := by
  first
  | omega
  | (simp only [xW, xWb, xWa, xW0]; grind)
theorem lf_X6_readWind_2 {z : Nat} {fp : Int32} {f : Int32} {k : Int32} {fb : Nat → Int32} {tww : Nat} {tkk : Nat} {tg1 : Nat → Int32} {fpn_2 : Int32} {fn_2 : Int32} {kn_2 : Int32} {fpn_3 : Int32} {fn_3 : Int32} {kn_3 : Int32} {r_3 : Int32} {fpn_4 : Int32} {fn_4 : Int32} {kn_4 : Int32} (hz : z ≤ 120) (htww : tww ≤ 6) (htkk : tkk ≤ 6) (c_1 : ¬ (f = 0)) (hF_2_0 : (fn_2 = 0 → f = 0 ∧ bAt fb z k = 119)) (hF_2_1 : rB fb z 119 (fp, f, k) = (fpn_2, fn_2, kn_2)) (hF_3_0 : (fn_3 = 0 → fn_2 = 0)) (hF_3_1 : rN fb z 0 4 (fpn_2, fn_2, kn_2) = (fpn_3, fn_3, kn_3)) (h_3 : r_3 = (rV fb z 0 4 kn_2)) (hF_4_0 : (fn_4 = 0 → fn_3 = 0 ∧ bAt fb z kn_3 = 59)) (hF_4_1 : rB fb z 59 (fpn_3, fn_3, kn_3) = (fpn_4, fn_4, kn_4)) (c_5 : ¬ (fn_4 = 0)) : xW fb z ((fp, f, k), tww, tg1) = ((fpn_4, fn_4, kn_4), tww, tg1) := by
  first
  | omega
  | (simp only [xW, xWb, xWa, xW0]; grind)
theorem lf_X6_readWind_3 {z : Nat} {fp : Int32} {f : Int32} {k : Int32} {fb : Nat → Int32} {tww : Nat} {tkk : Nat} {fpn_2 : Int32} {fn_2 : Int32} {kn_2 : Int32} {fpn_3 : Int32} {fn_3 : Int32} {kn_3 : Int32} {r_3 : Int32} {fpn_4 : Int32} {fn_4 : Int32} {kn_4 : Int32} (hz : z ≤ 120) (htww : tww ≤ 6) (htkk : tkk ≤ 6) (c_1 : ¬ (f = 0)) (hF_2_0 : (fn_2 = 0 → f = 0 ∧ bAt fb z k = 119)) (hF_2_1 : rB fb z 119 (fp, f, k) = (fpn_2, fn_2, kn_2)) (hF_3_0 : (fn_3 = 0 → fn_2 = 0)) (hF_3_1 : rN fb z 0 4 (fpn_2, fn_2, kn_2) = (fpn_3, fn_3, kn_3)) (h_3 : r_3 = (rV fb z 0 4 kn_2)) (hF_4_0 : (fn_4 = 0 → fn_3 = 0 ∧ bAt fb z kn_3 = 59)) (hF_4_1 : rB fb z 59 (fpn_3, fn_3, kn_3) = (fpn_4, fn_4, kn_4)) (c_5 : fn_4 = 0) : tww < 6 := by
  grind
theorem lf_X6_readWind_4 {z : Nat} {fp : Int32} {f : Int32} {k : Int32} {fb : Nat → Int32} {tww : Nat} {tkk : Nat} {tg1 : Nat → Int32} {fpn_2 : Int32} {fn_2 : Int32} {kn_2 : Int32} {fpn_3 : Int32} {fn_3 : Int32} {kn_3 : Int32} {r_3 : Int32} {fpn_4 : Int32} {fn_4 : Int32} {kn_4 : Int32} {g_6 : Nat → Int32} (hz : z ≤ 120) (htww : tww ≤ 6) (htkk : tkk ≤ 6) (c_1 : ¬ (f = 0)) (hF_2_0 : (fn_2 = 0 → f = 0 ∧ bAt fb z k = 119)) (hF_2_1 : rB fb z 119 (fp, f, k) = (fpn_2, fn_2, kn_2)) (hF_3_0 : (fn_3 = 0 → fn_2 = 0)) (hF_3_1 : rN fb z 0 4 (fpn_2, fn_2, kn_2) = (fpn_3, fn_3, kn_3)) (h_3 : r_3 = (rV fb z 0 4 kn_2)) (hF_4_0 : (fn_4 = 0 → fn_3 = 0 ∧ bAt fb z kn_3 = 59)) (hF_4_1 : rB fb z 59 (fpn_3, fn_3, kn_3) = (fpn_4, fn_4, kn_4)) (c_5 : fn_4 = 0) (hw6 : tww < 6) (hu_6 : g_6 = upd tg1 tww r_3) : (tww + 1) ≤ 6 := by
  first
  | omega
  | (simp only [xW, xWb, xWa, xW0]; grind)
theorem lf_X6_readWind_5 {z : Nat} {fp : Int32} {f : Int32} {k : Int32} {fb : Nat → Int32} {tww : Nat} {tkk : Nat} {tg1 : Nat → Int32} {fpn_2 : Int32} {fn_2 : Int32} {kn_2 : Int32} {fpn_3 : Int32} {fn_3 : Int32} {kn_3 : Int32} {r_3 : Int32} {fpn_4 : Int32} {fn_4 : Int32} {kn_4 : Int32} {g_6 : Nat → Int32} (hz : z ≤ 120) (htww : tww ≤ 6) (htkk : tkk ≤ 6) (c_1 : ¬ (f = 0)) (hF_2_0 : (fn_2 = 0 → f = 0 ∧ bAt fb z k = 119)) (hF_2_1 : rB fb z 119 (fp, f, k) = (fpn_2, fn_2, kn_2)) (hF_3_0 : (fn_3 = 0 → fn_2 = 0)) (hF_3_1 : rN fb z 0 4 (fpn_2, fn_2, kn_2) = (fpn_3, fn_3, kn_3)) (h_3 : r_3 = (rV fb z 0 4 kn_2)) (hF_4_0 : (fn_4 = 0 → fn_3 = 0 ∧ bAt fb z kn_3 = 59)) (hF_4_1 : rB fb z 59 (fpn_3, fn_3, kn_3) = (fpn_4, fn_4, kn_4)) (c_5 : fn_4 = 0) (hw6 : tww < 6) (hu_6 : g_6 = upd tg1 tww r_3) : xW fb z ((fp, f, k), tww, tg1) = ((fpn_4, fn_4, kn_4), (tww + 1), g_6) := by
  first
  | omega
  | (simp only [xW, xWb, xWa, xW0]; grind)
theorem lf_X6_readWind_6 {z : Nat} {fp : Int32} {f : Int32} {k : Int32} {fb : Nat → Int32} {tww : Nat} {tkk : Nat} {r_8 : Int32} {fpn_10 : Int32} {fn_10 : Int32} {kn_10 : Int32} {fpn_11 : Int32} {fn_11 : Int32} {kn_11 : Int32} {r_11 : Int32} {fpn_12 : Int32} {fn_12 : Int32} {kn_12 : Int32} (hz : z ≤ 120) (htww : tww ≤ 6) (htkk : tkk ≤ 6) (c_1 : f = 0) (h_8 : r_8 = (bAt fb z k)) (c_9 : ¬ (r_8 = 119)) (hF_10_0 : (fn_10 = 0 → f = 0 ∧ bAt fb z k = 119)) (hF_10_1 : rB fb z 119 (fp, f, k) = (fpn_10, fn_10, kn_10)) (hF_11_0 : (fn_11 = 0 → fn_10 = 0)) (hF_11_1 : rN fb z 0 4 (fpn_10, fn_10, kn_10) = (fpn_11, fn_11, kn_11)) (h_11 : r_11 = (rV fb z 0 4 kn_10)) (hF_12_0 : (fn_12 = 0 → fn_11 = 0 ∧ bAt fb z kn_11 = 59)) (hF_12_1 : rB fb z 59 (fpn_11, fn_11, kn_11) = (fpn_12, fn_12, kn_12)) (c_13 : ¬ (fn_12 = 0)) : tww ≤ 6 := by
  first
  | omega
  | (simp only [xW, xWb, xWa, xW0]; grind)
theorem lf_X6_readWind_7 {z : Nat} {fp : Int32} {f : Int32} {k : Int32} {fb : Nat → Int32} {tww : Nat} {tkk : Nat} {tg1 : Nat → Int32} {r_8 : Int32} {fpn_10 : Int32} {fn_10 : Int32} {kn_10 : Int32} {fpn_11 : Int32} {fn_11 : Int32} {kn_11 : Int32} {r_11 : Int32} {fpn_12 : Int32} {fn_12 : Int32} {kn_12 : Int32} (hz : z ≤ 120) (htww : tww ≤ 6) (htkk : tkk ≤ 6) (c_1 : f = 0) (h_8 : r_8 = (bAt fb z k)) (c_9 : ¬ (r_8 = 119)) (hF_10_0 : (fn_10 = 0 → f = 0 ∧ bAt fb z k = 119)) (hF_10_1 : rB fb z 119 (fp, f, k) = (fpn_10, fn_10, kn_10)) (hF_11_0 : (fn_11 = 0 → fn_10 = 0)) (hF_11_1 : rN fb z 0 4 (fpn_10, fn_10, kn_10) = (fpn_11, fn_11, kn_11)) (h_11 : r_11 = (rV fb z 0 4 kn_10)) (hF_12_0 : (fn_12 = 0 → fn_11 = 0 ∧ bAt fb z kn_11 = 59)) (hF_12_1 : rB fb z 59 (fpn_11, fn_11, kn_11) = (fpn_12, fn_12, kn_12)) (c_13 : ¬ (fn_12 = 0)) : xW fb z ((fp, f, k), tww, tg1) = ((fpn_12, fn_12, kn_12), tww, tg1) := by
  first
  | omega
  | (simp only [xW, xWb, xWa, xW0]; grind)
theorem lf_X6_readWind_8 {z : Nat} {fp : Int32} {f : Int32} {k : Int32} {fb : Nat → Int32} {tww : Nat} {tkk : Nat} {r_8 : Int32} {fpn_10 : Int32} {fn_10 : Int32} {kn_10 : Int32} {fpn_11 : Int32} {fn_11 : Int32} {kn_11 : Int32} {r_11 : Int32} {fpn_12 : Int32} {fn_12 : Int32} {kn_12 : Int32} (hz : z ≤ 120) (htww : tww ≤ 6) (htkk : tkk ≤ 6) (c_1 : f = 0) (h_8 : r_8 = (bAt fb z k)) (c_9 : ¬ (r_8 = 119)) (hF_10_0 : (fn_10 = 0 → f = 0 ∧ bAt fb z k = 119)) (hF_10_1 : rB fb z 119 (fp, f, k) = (fpn_10, fn_10, kn_10)) (hF_11_0 : (fn_11 = 0 → fn_10 = 0)) (hF_11_1 : rN fb z 0 4 (fpn_10, fn_10, kn_10) = (fpn_11, fn_11, kn_11)) (h_11 : r_11 = (rV fb z 0 4 kn_10)) (hF_12_0 : (fn_12 = 0 → fn_11 = 0 ∧ bAt fb z kn_11 = 59)) (hF_12_1 : rB fb z 59 (fpn_11, fn_11, kn_11) = (fpn_12, fn_12, kn_12)) (c_13 : fn_12 = 0) : tww < 6 := by
  grind
theorem lf_X6_readWind_9 {z : Nat} {fp : Int32} {f : Int32} {k : Int32} {fb : Nat → Int32} {tww : Nat} {tkk : Nat} {tg1 : Nat → Int32} {r_8 : Int32} {fpn_10 : Int32} {fn_10 : Int32} {kn_10 : Int32} {fpn_11 : Int32} {fn_11 : Int32} {kn_11 : Int32} {r_11 : Int32} {fpn_12 : Int32} {fn_12 : Int32} {kn_12 : Int32} {g_14 : Nat → Int32} (hz : z ≤ 120) (htww : tww ≤ 6) (htkk : tkk ≤ 6) (c_1 : f = 0) (h_8 : r_8 = (bAt fb z k)) (c_9 : ¬ (r_8 = 119)) (hF_10_0 : (fn_10 = 0 → f = 0 ∧ bAt fb z k = 119)) (hF_10_1 : rB fb z 119 (fp, f, k) = (fpn_10, fn_10, kn_10)) (hF_11_0 : (fn_11 = 0 → fn_10 = 0)) (hF_11_1 : rN fb z 0 4 (fpn_10, fn_10, kn_10) = (fpn_11, fn_11, kn_11)) (h_11 : r_11 = (rV fb z 0 4 kn_10)) (hF_12_0 : (fn_12 = 0 → fn_11 = 0 ∧ bAt fb z kn_11 = 59)) (hF_12_1 : rB fb z 59 (fpn_11, fn_11, kn_11) = (fpn_12, fn_12, kn_12)) (c_13 : fn_12 = 0) (hw6 : tww < 6) (hu_14 : g_14 = upd tg1 tww r_11) : (tww + 1) ≤ 6 := by
  first
  | omega
  | (simp only [xW, xWb, xWa, xW0]; grind)
theorem lf_X6_readWind_10 {z : Nat} {fp : Int32} {f : Int32} {k : Int32} {fb : Nat → Int32} {tww : Nat} {tkk : Nat} {tg1 : Nat → Int32} {r_8 : Int32} {fpn_10 : Int32} {fn_10 : Int32} {kn_10 : Int32} {fpn_11 : Int32} {fn_11 : Int32} {kn_11 : Int32} {r_11 : Int32} {fpn_12 : Int32} {fn_12 : Int32} {kn_12 : Int32} {g_14 : Nat → Int32} (hz : z ≤ 120) (htww : tww ≤ 6) (htkk : tkk ≤ 6) (c_1 : f = 0) (h_8 : r_8 = (bAt fb z k)) (c_9 : ¬ (r_8 = 119)) (hF_10_0 : (fn_10 = 0 → f = 0 ∧ bAt fb z k = 119)) (hF_10_1 : rB fb z 119 (fp, f, k) = (fpn_10, fn_10, kn_10)) (hF_11_0 : (fn_11 = 0 → fn_10 = 0)) (hF_11_1 : rN fb z 0 4 (fpn_10, fn_10, kn_10) = (fpn_11, fn_11, kn_11)) (h_11 : r_11 = (rV fb z 0 4 kn_10)) (hF_12_0 : (fn_12 = 0 → fn_11 = 0 ∧ bAt fb z kn_11 = 59)) (hF_12_1 : rB fb z 59 (fpn_11, fn_11, kn_11) = (fpn_12, fn_12, kn_12)) (c_13 : fn_12 = 0) (hw6 : tww < 6) (hu_14 : g_14 = upd tg1 tww r_11) : xW fb z ((fp, f, k), tww, tg1) = ((fpn_12, fn_12, kn_12), (tww + 1), g_14) := by
  first
  | omega
  | (simp only [xW, xWb, xWa, xW0]; grind)
theorem lf_X6_readWind_11 {z : Nat} {fp : Int32} {f : Int32} {k : Int32} {fb : Nat → Int32} {tww : Nat} {tkk : Nat} {r_8 : Int32} {fpn_17 : Int32} {fn_17 : Int32} {kn_17 : Int32} {fpn_18 : Int32} {fn_18 : Int32} {kn_18 : Int32} {r_18 : Int32} {fpn_19 : Int32} {fn_19 : Int32} {kn_19 : Int32} (hz : z ≤ 120) (htww : tww ≤ 6) (htkk : tkk ≤ 6) (c_1 : f = 0) (h_8 : r_8 = (bAt fb z k)) (c_9 : r_8 = 119) (c_16 : tww < 6) (hF_17_0 : (fn_17 = 0 → f = 0 ∧ bAt fb z k = 119)) (hF_17_1 : rB fb z 119 (fp, f, k) = (fpn_17, fn_17, kn_17)) (hF_18_0 : (fn_18 = 0 → fn_17 = 0)) (hF_18_1 : rN fb z 0 4 (fpn_17, fn_17, kn_17) = (fpn_18, fn_18, kn_18)) (h_18 : r_18 = (rV fb z 0 4 kn_17)) (hF_19_0 : (fn_19 = 0 → fn_18 = 0 ∧ bAt fb z kn_18 = 59)) (hF_19_1 : rB fb z 59 (fpn_18, fn_18, kn_18) = (fpn_19, fn_19, kn_19)) (c_20 : ¬ (fn_19 = 0)) : tww ≤ 6 := by
  first
  | omega
  | (simp only [xW, xWb, xWa, xW0]; grind)
theorem lf_X6_readWind_12 {z : Nat} {fp : Int32} {f : Int32} {k : Int32} {fb : Nat → Int32} {tww : Nat} {tkk : Nat} {tg1 : Nat → Int32} {r_8 : Int32} {fpn_17 : Int32} {fn_17 : Int32} {kn_17 : Int32} {fpn_18 : Int32} {fn_18 : Int32} {kn_18 : Int32} {r_18 : Int32} {fpn_19 : Int32} {fn_19 : Int32} {kn_19 : Int32} (hz : z ≤ 120) (htww : tww ≤ 6) (htkk : tkk ≤ 6) (c_1 : f = 0) (h_8 : r_8 = (bAt fb z k)) (c_9 : r_8 = 119) (c_16 : tww < 6) (hF_17_0 : (fn_17 = 0 → f = 0 ∧ bAt fb z k = 119)) (hF_17_1 : rB fb z 119 (fp, f, k) = (fpn_17, fn_17, kn_17)) (hF_18_0 : (fn_18 = 0 → fn_17 = 0)) (hF_18_1 : rN fb z 0 4 (fpn_17, fn_17, kn_17) = (fpn_18, fn_18, kn_18)) (h_18 : r_18 = (rV fb z 0 4 kn_17)) (hF_19_0 : (fn_19 = 0 → fn_18 = 0 ∧ bAt fb z kn_18 = 59)) (hF_19_1 : rB fb z 59 (fpn_18, fn_18, kn_18) = (fpn_19, fn_19, kn_19)) (c_20 : ¬ (fn_19 = 0)) : xW fb z ((fp, f, k), tww, tg1) = ((fpn_19, fn_19, kn_19), tww, tg1) := by
  first
  | omega
  | (simp only [xW, xWb, xWa, xW0]; grind)
theorem lf_X6_readWind_13 {z : Nat} {fp : Int32} {f : Int32} {k : Int32} {fb : Nat → Int32} {tww : Nat} {tkk : Nat} {r_8 : Int32} {fpn_17 : Int32} {fn_17 : Int32} {kn_17 : Int32} {fpn_18 : Int32} {fn_18 : Int32} {kn_18 : Int32} {r_18 : Int32} {fpn_19 : Int32} {fn_19 : Int32} {kn_19 : Int32} (hz : z ≤ 120) (htww : tww ≤ 6) (htkk : tkk ≤ 6) (c_1 : f = 0) (h_8 : r_8 = (bAt fb z k)) (c_9 : r_8 = 119) (c_16 : tww < 6) (hF_17_0 : (fn_17 = 0 → f = 0 ∧ bAt fb z k = 119)) (hF_17_1 : rB fb z 119 (fp, f, k) = (fpn_17, fn_17, kn_17)) (hF_18_0 : (fn_18 = 0 → fn_17 = 0)) (hF_18_1 : rN fb z 0 4 (fpn_17, fn_17, kn_17) = (fpn_18, fn_18, kn_18)) (h_18 : r_18 = (rV fb z 0 4 kn_17)) (hF_19_0 : (fn_19 = 0 → fn_18 = 0 ∧ bAt fb z kn_18 = 59)) (hF_19_1 : rB fb z 59 (fpn_18, fn_18, kn_18) = (fpn_19, fn_19, kn_19)) (c_20 : fn_19 = 0) : tww < 6 := by
  grind
theorem lf_X6_readWind_14 {z : Nat} {fp : Int32} {f : Int32} {k : Int32} {fb : Nat → Int32} {tww : Nat} {tkk : Nat} {tg1 : Nat → Int32} {r_8 : Int32} {fpn_17 : Int32} {fn_17 : Int32} {kn_17 : Int32} {fpn_18 : Int32} {fn_18 : Int32} {kn_18 : Int32} {r_18 : Int32} {fpn_19 : Int32} {fn_19 : Int32} {kn_19 : Int32} {g_21 : Nat → Int32} (hz : z ≤ 120) (htww : tww ≤ 6) (htkk : tkk ≤ 6) (c_1 : f = 0) (h_8 : r_8 = (bAt fb z k)) (c_9 : r_8 = 119) (c_16 : tww < 6) (hF_17_0 : (fn_17 = 0 → f = 0 ∧ bAt fb z k = 119)) (hF_17_1 : rB fb z 119 (fp, f, k) = (fpn_17, fn_17, kn_17)) (hF_18_0 : (fn_18 = 0 → fn_17 = 0)) (hF_18_1 : rN fb z 0 4 (fpn_17, fn_17, kn_17) = (fpn_18, fn_18, kn_18)) (h_18 : r_18 = (rV fb z 0 4 kn_17)) (hF_19_0 : (fn_19 = 0 → fn_18 = 0 ∧ bAt fb z kn_18 = 59)) (hF_19_1 : rB fb z 59 (fpn_18, fn_18, kn_18) = (fpn_19, fn_19, kn_19)) (c_20 : fn_19 = 0) (hw6 : tww < 6) (hu_21 : g_21 = upd tg1 tww r_18) : (tww + 1) ≤ 6 := by
  first
  | omega
  | (simp only [xW, xWb, xWa, xW0]; grind)
theorem lf_X6_readWind_15 {z : Nat} {fp : Int32} {f : Int32} {k : Int32} {fb : Nat → Int32} {tww : Nat} {tkk : Nat} {tg1 : Nat → Int32} {r_8 : Int32} {fpn_17 : Int32} {fn_17 : Int32} {kn_17 : Int32} {fpn_18 : Int32} {fn_18 : Int32} {kn_18 : Int32} {r_18 : Int32} {fpn_19 : Int32} {fn_19 : Int32} {kn_19 : Int32} {g_21 : Nat → Int32} (hz : z ≤ 120) (htww : tww ≤ 6) (htkk : tkk ≤ 6) (c_1 : f = 0) (h_8 : r_8 = (bAt fb z k)) (c_9 : r_8 = 119) (c_16 : tww < 6) (hF_17_0 : (fn_17 = 0 → f = 0 ∧ bAt fb z k = 119)) (hF_17_1 : rB fb z 119 (fp, f, k) = (fpn_17, fn_17, kn_17)) (hF_18_0 : (fn_18 = 0 → fn_17 = 0)) (hF_18_1 : rN fb z 0 4 (fpn_17, fn_17, kn_17) = (fpn_18, fn_18, kn_18)) (h_18 : r_18 = (rV fb z 0 4 kn_17)) (hF_19_0 : (fn_19 = 0 → fn_18 = 0 ∧ bAt fb z kn_18 = 59)) (hF_19_1 : rB fb z 59 (fpn_18, fn_18, kn_18) = (fpn_19, fn_19, kn_19)) (c_20 : fn_19 = 0) (hw6 : tww < 6) (hu_21 : g_21 = upd tg1 tww r_18) : xW fb z ((fp, f, k), tww, tg1) = ((fpn_19, fn_19, kn_19), (tww + 1), g_21) := by
  first
  | omega
  | (simp only [xW, xWb, xWa, xW0]; grind)
theorem lf_X6_readWind_16 {z : Nat} {fp : Int32} {f : Int32} {k : Int32} {fb : Nat → Int32} {tww : Nat} {tkk : Nat} {r_8 : Int32} {fpn_23 : Int32} {fn_23 : Int32} {fpn_24 : Int32} {fn_24 : Int32} {kn_24 : Int32} {fpn_25 : Int32} {fn_25 : Int32} {kn_25 : Int32} {r_25 : Int32} {fpn_26 : Int32} {fn_26 : Int32} {kn_26 : Int32} (hz : z ≤ 120) (htww : tww ≤ 6) (htkk : tkk ≤ 6) (c_1 : f = 0) (h_8 : r_8 = (bAt fb z k)) (c_9 : r_8 = 119) (c_16 : ¬ (tww < 6)) (hF_23_0 : (¬ (3 : Int32) = 0 → ¬ fn_23 = 0)) (hF_23_1 : (¬ f = 0 → fn_23 = f)) (hF_23_2 : rF 3 (fp, f, k) = (fpn_23, fn_23, k)) (hF_24_0 : (fn_24 = 0 → fn_23 = 0 ∧ bAt fb z k = 119)) (hF_24_1 : rB fb z 119 (fpn_23, fn_23, k) = (fpn_24, fn_24, kn_24)) (hF_25_0 : (fn_25 = 0 → fn_24 = 0)) (hF_25_1 : rN fb z 0 4 (fpn_24, fn_24, kn_24) = (fpn_25, fn_25, kn_25)) (h_25 : r_25 = (rV fb z 0 4 kn_24)) (hF_26_0 : (fn_26 = 0 → fn_25 = 0 ∧ bAt fb z kn_25 = 59)) (hF_26_1 : rB fb z 59 (fpn_25, fn_25, kn_25) = (fpn_26, fn_26, kn_26)) (c_27 : ¬ (fn_26 = 0)) : tww ≤ 6 := by
  first
  | omega
  | (simp only [xW, xWb, xWa, xW0]; grind)
theorem lf_X6_readWind_17 {z : Nat} {fp : Int32} {f : Int32} {k : Int32} {fb : Nat → Int32} {tww : Nat} {tkk : Nat} {tg1 : Nat → Int32} {r_8 : Int32} {fpn_23 : Int32} {fn_23 : Int32} {fpn_24 : Int32} {fn_24 : Int32} {kn_24 : Int32} {fpn_25 : Int32} {fn_25 : Int32} {kn_25 : Int32} {r_25 : Int32} {fpn_26 : Int32} {fn_26 : Int32} {kn_26 : Int32} (hz : z ≤ 120) (htww : tww ≤ 6) (htkk : tkk ≤ 6) (c_1 : f = 0) (h_8 : r_8 = (bAt fb z k)) (c_9 : r_8 = 119) (c_16 : ¬ (tww < 6)) (hF_23_0 : (¬ (3 : Int32) = 0 → ¬ fn_23 = 0)) (hF_23_1 : (¬ f = 0 → fn_23 = f)) (hF_23_2 : rF 3 (fp, f, k) = (fpn_23, fn_23, k)) (hF_24_0 : (fn_24 = 0 → fn_23 = 0 ∧ bAt fb z k = 119)) (hF_24_1 : rB fb z 119 (fpn_23, fn_23, k) = (fpn_24, fn_24, kn_24)) (hF_25_0 : (fn_25 = 0 → fn_24 = 0)) (hF_25_1 : rN fb z 0 4 (fpn_24, fn_24, kn_24) = (fpn_25, fn_25, kn_25)) (h_25 : r_25 = (rV fb z 0 4 kn_24)) (hF_26_0 : (fn_26 = 0 → fn_25 = 0 ∧ bAt fb z kn_25 = 59)) (hF_26_1 : rB fb z 59 (fpn_25, fn_25, kn_25) = (fpn_26, fn_26, kn_26)) (c_27 : ¬ (fn_26 = 0)) : xW fb z ((fp, f, k), tww, tg1) = ((fpn_26, fn_26, kn_26), tww, tg1) := by
  first
  | omega
  | (simp only [xW, xWb, xWa, xW0]; grind)
theorem lf_X6_readWind_18 {z : Nat} {fp : Int32} {f : Int32} {k : Int32} {fb : Nat → Int32} {tww : Nat} {tkk : Nat} {r_8 : Int32} {fpn_23 : Int32} {fn_23 : Int32} {fpn_24 : Int32} {fn_24 : Int32} {kn_24 : Int32} {fpn_25 : Int32} {fn_25 : Int32} {kn_25 : Int32} {r_25 : Int32} {fpn_26 : Int32} {fn_26 : Int32} {kn_26 : Int32} (hz : z ≤ 120) (htww : tww ≤ 6) (htkk : tkk ≤ 6) (c_1 : f = 0) (h_8 : r_8 = (bAt fb z k)) (c_9 : r_8 = 119) (c_16 : ¬ (tww < 6)) (hF_23_0 : (¬ (3 : Int32) = 0 → ¬ fn_23 = 0)) (hF_23_1 : (¬ f = 0 → fn_23 = f)) (hF_23_2 : rF 3 (fp, f, k) = (fpn_23, fn_23, k)) (hF_24_0 : (fn_24 = 0 → fn_23 = 0 ∧ bAt fb z k = 119)) (hF_24_1 : rB fb z 119 (fpn_23, fn_23, k) = (fpn_24, fn_24, kn_24)) (hF_25_0 : (fn_25 = 0 → fn_24 = 0)) (hF_25_1 : rN fb z 0 4 (fpn_24, fn_24, kn_24) = (fpn_25, fn_25, kn_25)) (h_25 : r_25 = (rV fb z 0 4 kn_24)) (hF_26_0 : (fn_26 = 0 → fn_25 = 0 ∧ bAt fb z kn_25 = 59)) (hF_26_1 : rB fb z 59 (fpn_25, fn_25, kn_25) = (fpn_26, fn_26, kn_26)) (c_27 : fn_26 = 0) : tww < 6 := by
  grind
theorem lf_X6_readWind_19 {z : Nat} {fp : Int32} {f : Int32} {k : Int32} {fb : Nat → Int32} {tww : Nat} {tkk : Nat} {tg1 : Nat → Int32} {r_8 : Int32} {fpn_23 : Int32} {fn_23 : Int32} {fpn_24 : Int32} {fn_24 : Int32} {kn_24 : Int32} {fpn_25 : Int32} {fn_25 : Int32} {kn_25 : Int32} {r_25 : Int32} {fpn_26 : Int32} {fn_26 : Int32} {kn_26 : Int32} {g_28 : Nat → Int32} (hz : z ≤ 120) (htww : tww ≤ 6) (htkk : tkk ≤ 6) (c_1 : f = 0) (h_8 : r_8 = (bAt fb z k)) (c_9 : r_8 = 119) (c_16 : ¬ (tww < 6)) (hF_23_0 : (¬ (3 : Int32) = 0 → ¬ fn_23 = 0)) (hF_23_1 : (¬ f = 0 → fn_23 = f)) (hF_23_2 : rF 3 (fp, f, k) = (fpn_23, fn_23, k)) (hF_24_0 : (fn_24 = 0 → fn_23 = 0 ∧ bAt fb z k = 119)) (hF_24_1 : rB fb z 119 (fpn_23, fn_23, k) = (fpn_24, fn_24, kn_24)) (hF_25_0 : (fn_25 = 0 → fn_24 = 0)) (hF_25_1 : rN fb z 0 4 (fpn_24, fn_24, kn_24) = (fpn_25, fn_25, kn_25)) (h_25 : r_25 = (rV fb z 0 4 kn_24)) (hF_26_0 : (fn_26 = 0 → fn_25 = 0 ∧ bAt fb z kn_25 = 59)) (hF_26_1 : rB fb z 59 (fpn_25, fn_25, kn_25) = (fpn_26, fn_26, kn_26)) (c_27 : fn_26 = 0) (hw6 : tww < 6) (hu_28 : g_28 = upd tg1 tww r_25) : (tww + 1) ≤ 6 := by
  exact absurd hw6 c_16
theorem lf_X6_readWind_20 {z : Nat} {fp : Int32} {f : Int32} {k : Int32} {fb : Nat → Int32} {tww : Nat} {tkk : Nat} {tg1 : Nat → Int32} {r_8 : Int32} {fpn_23 : Int32} {fn_23 : Int32} {fpn_24 : Int32} {fn_24 : Int32} {kn_24 : Int32} {fpn_25 : Int32} {fn_25 : Int32} {kn_25 : Int32} {r_25 : Int32} {fpn_26 : Int32} {fn_26 : Int32} {kn_26 : Int32} {g_28 : Nat → Int32} (hz : z ≤ 120) (htww : tww ≤ 6) (htkk : tkk ≤ 6) (c_1 : f = 0) (h_8 : r_8 = (bAt fb z k)) (c_9 : r_8 = 119) (c_16 : ¬ (tww < 6)) (hF_23_0 : (¬ (3 : Int32) = 0 → ¬ fn_23 = 0)) (hF_23_1 : (¬ f = 0 → fn_23 = f)) (hF_23_2 : rF 3 (fp, f, k) = (fpn_23, fn_23, k)) (hF_24_0 : (fn_24 = 0 → fn_23 = 0 ∧ bAt fb z k = 119)) (hF_24_1 : rB fb z 119 (fpn_23, fn_23, k) = (fpn_24, fn_24, kn_24)) (hF_25_0 : (fn_25 = 0 → fn_24 = 0)) (hF_25_1 : rN fb z 0 4 (fpn_24, fn_24, kn_24) = (fpn_25, fn_25, kn_25)) (h_25 : r_25 = (rV fb z 0 4 kn_24)) (hF_26_0 : (fn_26 = 0 → fn_25 = 0 ∧ bAt fb z kn_25 = 59)) (hF_26_1 : rB fb z 59 (fpn_25, fn_25, kn_25) = (fpn_26, fn_26, kn_26)) (c_27 : fn_26 = 0) (hw6 : tww < 6) (hu_28 : g_28 = upd tg1 tww r_25) : xW fb z ((fp, f, k), tww, tg1) = ((fpn_26, fn_26, kn_26), (tww + 1), g_28) := by
  exact absurd hw6 c_16
set_option maxHeartbeats 4000000 in
set_option maxRecDepth 100000 in
theorem r_X6_readWind (l : Launch) (dC : Nat → ClassId) (dI : Nat → Nat → Nat) (cI cZ cL cJ : ClassId) (sz : Nat) (h : Nat) (bs : Nat) (td : Nat) (z : Nat) (fp : Int32) (f : Int32) (k : Int32) (fb : Nat → Int32) (tv0 : Int32) (tv1 : Int32) (tv2 : Int32) (tv3 : Int32) (tv5 : Int32) (thh : Nat) (tww : Nat) (tkk : Nat) (tb1 : Nat) (tb2 : Nat) (tb3 : Nat) (tb4 : Nat) (tb5 : Nat) (tg1 : Nat → Int32) (tg2 : Nat → Int32) (tg3 : Nat → Int32) (tg4 : Nat → Int32) (tg5 : Nat → Int32) (hz : z ≤ 120) (htww : tww ≤ 6) (htkk : tkk ≤ 6) : Met l yX6_readWind wsX6_readWind ({ frames := 3, cells := 0, slots := 0, locals := 67 }) (va_Pc [.ref h] (fun U => U.heap.size = sz ∧ va_P (dC, dI) vwCl [(xo_6_ririii h bs (nI z) td fp f k), (xI bs cI 120 fb), (xo_3_iiiiiiiirrrrr td tv0 tv1 tv2 tv3 (nI thh) tv5 (nI tww) (nI tkk) tb1 tb2 tb3 tb4 tb5), (xI tb1 cI 6 tg1), (xI tb2 cI 6 tg2), (xI tb3 cI 6 tg3), (xI tb4 cI 6 tg4), (xI tb5 cI 6 tg5)] U.heap ∧ va_K (dC, dI) vwCl [(cI, .int), (cZ, .boolean), (cL, .object RX3), (cJ, .array .int)] U ∧ va_D (fun _ => True) [(xo_6_ririii h bs (nI z) td fp f k), (xI bs cI 120 fb), (xo_3_iiiiiiiirrrrr td tv0 tv1 tv2 tv3 (nI thh) tv5 (nI tww) (nI tkk) tb1 tb2 tb3 tb4 tb5), (xI tb1 cI 6 tg1), (xI tb2 cI 6 tg2), (xI tb3 cI 6 tg3), (xI tb4 cI 6 tg4), (xI tb5 cI 6 tg5)])) (va_Qv (fun (_ : Unit) => True) (fun (_ : Unit) t => ∃ (fpn : Int32) (fn : Int32) (kn : Int32) (tn : Nat) (tg1n : Nat → Int32), va_P (dC, dI) vwCl [(xo_6_ririii h bs (nI z) td fpn fn kn), (xI bs cI 120 fb), (xo_3_iiiiiiiirrrrr td tv0 tv1 tv2 tv3 (nI thh) tv5 (nI tn) (nI tkk) tb1 tb2 tb3 tb4 tb5), (xI tb1 cI 6 tg1n), (xI tb2 cI 6 tg2), (xI tb3 cI 6 tg3), (xI tb4 cI 6 tg4), (xI tb5 cI 6 tg5)] t.heap ∧ va_D (va_A [(xo_6_ririii h bs (nI z) td fp f k), (xI bs cI 120 fb), (xo_3_iiiiiiiirrrrr td tv0 tv1 tv2 tv3 (nI thh) tv5 (nI tww) (nI tkk) tb1 tb2 tb3 tb4 tb5), (xI tb1 cI 6 tg1), (xI tb2 cI 6 tg2), (xI tb3 cI 6 tg3), (xI tb4 cI 6 tg4), (xI tb5 cI 6 tg5)] sz) [(xo_6_ririii h bs (nI z) td fpn fn kn), (xI bs cI 120 fb), (xo_3_iiiiiiiirrrrr td tv0 tv1 tv2 tv3 (nI thh) tv5 (nI tn) (nI tkk) tb1 tb2 tb3 tb4 tb5), (xI tb1 cI 6 tg1n), (xI tb2 cI 6 tg2), (xI tb3 cI 6 tg3), (xI tb4 cI 6 tg4), (xI tb5 cI 6 tg5)] ∧ tn ≤ 6 ∧ xW fb z ((fp, f, k), tww, tg1) = ((fpn, fn, kn), tn, tg1n)) (va_A [(xo_6_ririii h bs (nI z) td fp f k), (xI bs cI 120 fb), (xo_3_iiiiiiiirrrrr td tv0 tv1 tv2 tv3 (nI thh) tv5 (nI tww) (nI tkk) tb1 tb2 tb3 tb4 tb5), (xI tb1 cI 6 tg1), (xI tb2 cI 6 tg2), (xI tb3 cI 6 tg3), (xI tb4 cI 6 tg4), (xI tb5 cI 6 tg5)] sz)) 0 0 (va_A [(xo_6_ririii h bs (nI z) td fp f k), (xI bs cI 120 fb), (xo_3_iiiiiiiirrrrr td tv0 tv1 tv2 tv3 (nI thh) tv5 (nI tww) (nI tkk) tb1 tb2 tb3 tb4 tb5), (xI tb1 cI 6 tg1), (xI tb2 cI 6 tg2), (xI tb3 cI 6 tg3), (xI tb4 cI 6 tg4), (xI tb5 cI 6 tg5)] sz) := by
  refine Met.ofW (cc := cX6_readWind) (maxL := 2) (ret := none) (by decide) rfl ?_
  intro p e s m args below meth c s₁ B hml hv
  obtain ⟨rfl, hsz, hP, hK, hD0⟩ := hv
  have hx := B.exec
  have hb := B.bytes
  have hr := B.returns
  have hts := atoms_spec (ws := wsX6_readWind) B.pre
  have hown : s.vm.findClass RX6 = some m.cls := findClass_of_methodNamed B.named
  have hlocks := B.notSynchronized
  subst hsz
  have hD := hD0.self (sz := s.heap.size)
  generalize hAe : va_A [(xo_6_ririii h bs (nI z) td fp f k), (xI bs cI 120 fb), (xo_3_iiiiiiiirrrrr td tv0 tv1 tv2 tv3 (nI thh) tv5 (nI tww) (nI tkk) tb1 tb2 tb3 tb4 tb5), (xI tb1 cI 6 tg1), (xI tb2 cI 6 tg2), (xI tb3 cI 6 tg3), (xI tb4 cI 6 tg4), (xI tb5 cI 6 tg5)] s.heap.size = A at hD ⊢
  have hA : ∀ q : Nat, s.heap.size ≤ q → A q := fun q h => by rw [← hAe]; exact Or.inr h
  have hS : va_S A s.heap s.heap [] := va_S.rf
  have hP : va_P (dC, dI) vwCl [(xo_6_ririii h bs (nI z) td fp f k), (xI bs cI 120 fb), (xo_3_iiiiiiiirrrrr td tv0 tv1 tv2 tv3 (nI thh) tv5 (nI tww) (nI tkk) tb1 tb2 tb3 tb4 tb5), (xI tb1 cI 6 tg1), (xI tb2 cI 6 tg2), (xI tb3 cI 6 tg3), (xI tb4 cI 6 tg4), (xI tb5 cI 6 tg5)] s.heap := hP
  have hl := lv_entry ([.ref h]) (n := 2) (Nat.le_of_ble_eq_true rfl)
  rw [lg_entry_eq]
  generalize (lg_sl ([.ref h]) ++ List.replicate (2 - (lg_sl ([.ref h])).length) Slot.unset).toArray = ls at hl ⊢
  have hl : lv_has ls 2 [(0, .ref h)] := hl
  refine lv_aload_n hx hb dX6_readWind_0 rfl (lv_at hl 0 rfl) ?_
  refine va_get (D := (dC, dI)) (ci := 6) (v := .int f) (C := RX6) (T := TX6) (N := 6) hx hb hts i_X6_readWind_X6 hown hK hP 0 rfl rfl 4 (by decide) (hts _ mx_X6_readWind_1) (fun _ h9 => h9) rfl dX6_readWind_1 ?_
  refine lv_if_ne (tgt := 37) hx hb dX6_readWind_4 (by decide) (fun c_1 => ?_) (fun c_1 => ?_)
  · skip
    refine lv_aload_n hx hb dX6_readWind_37 rfl (lv_at hl 0 rfl) ?_
    refine lv_bipush (v := 119) hx hb dX6_readWind_38 (by decide) ?_
    have hc_2 := cutW (wc := [(xo_6_ririii h bs (nI z) td fp f k), (xI bs cI 120 fb)]) hP hD hS hA [0, 1] (by decide +kernel) rfl
    refine va_callv (va_runV (As := [.int 119]) (rest := []) ⟨hx, hb, hml, hown, hts⟩ (r_X6_readByte l dC dI cI cZ cL cJ s.heap.size h bs td z fp f k fb 119 (hz)) (cwV 1 hts gX6_readWind_X6_readByte rfl rfl rfl (by decide +kernel) ⟨Nat.le_of_ble_eq_true rfl, Nat.le_of_ble_eq_true rfl⟩) (pvW 6 0 hK hP rfl rfl hc_2) rfl rfl hl.1 rfl (lv_room (Nat.le_of_ble_eq_true rfl)) dX6_readWind_40 ⟨Nat.le_of_ble_eq_true rfl, Nat.le_of_ble_eq_true rfl⟩) hS (fun q _ h => hc_2.2.2 q h) hc_2.2.2 (fun u_2 t_2 H1 locs ht hvm h_2 hB hz1 hk1 hS => ?_)
    refine xl_3_4 hB (fun fpn_2 fn_2 kn_2 hP1 hD1 hF_2_0 hF_2_1 => ?_)
    clear hB
    rw [ht] at hP1
    obtain ⟨hP, hD⟩ := va_join (wr := [(xo_3_iiiiiiiirrrrr td tv0 tv1 tv2 tv3 (nI thh) tv5 (nI tww) (nI tkk) tb1 tb2 tb3 tb4 tb5), (xI tb1 cI 6 tg1), (xI tb2 cI 6 tg2), (xI tb3 cI 6 tg3), (xI tb4 cI 6 tg4), (xI tb5 cI 6 tg5)]) (w1 := [(xo_6_ririii h bs (nI z) td fpn_2 fn_2 kn_2), (xI bs cI 120 fb)]) hP hD [0, 1] [2, 3, 4, 5, 6, 7] rfl rfl (by decide +kernel) (by decide +kernel) hk1 hc_2.2.2 hP1 hD1
    generalize H1 = H at hP hS ⊢
    have hP : va_P (dC, dI) vwCl [(xo_3_iiiiiiiirrrrr td tv0 tv1 tv2 tv3 (nI thh) tv5 (nI tww) (nI tkk) tb1 tb2 tb3 tb4 tb5), (xI tb1 cI 6 tg1), (xI tb2 cI 6 tg2), (xI tb3 cI 6 tg3), (xI tb4 cI 6 tg4), (xI tb5 cI 6 tg5), (xo_6_ririii h bs (nI z) td fpn_2 fn_2 kn_2), (xI bs cI 120 fb)] H := hP
    have hD := dto hP hD
    refine lv_aload_n hx hb dX6_readWind_43 rfl (lv_at hl 0 rfl) ?_
    refine lv_iconst (v := 0) hx hb dX6_readWind_44 (by decide) ?_
    refine lv_iconst (v := 4) hx hb dX6_readWind_45 (by decide) ?_
    have hc_3 := cutW (wc := [(xo_6_ririii h bs (nI z) td fpn_2 fn_2 kn_2), (xI bs cI 120 fb)]) hP hD hS hA [6, 7] (by decide +kernel) rfl
    refine va_calli (va_runV (As := [.int 0, .int 4]) (rest := []) ⟨hx, hb, hml, hown, hts⟩ (r_X6_readNumber l dC dI cI cZ cL cJ H.size h bs td z fpn_2 fn_2 kn_2 fb 0 4 (hz)) (cwV 2 hts gX6_readWind_X6_readNumber rfl rfl rfl (by decide +kernel) ⟨Nat.le_of_ble_eq_true rfl, Nat.le_of_ble_eq_true rfl⟩) (pvW 6 6 hK hP rfl rfl hc_3) rfl rfl hl.1 rfl (lv_room (Nat.le_of_ble_eq_true rfl)) dX6_readWind_46 ⟨Nat.le_of_ble_eq_true rfl, Nat.le_of_ble_eq_true rfl⟩) hS (fun q _ h => hc_3.2.2 q h) hc_3.2.2 (fun r_3 u_3 t_3 H1 locs ht hvm h_3 hB hz1 hk1 hS => ?_)
    refine xl_3_4 hB (fun fpn_3 fn_3 kn_3 hP1 hD1 hF_3_0 hF_3_1 => ?_)
    clear hB
    rw [ht] at hP1
    obtain ⟨hP, hD⟩ := va_join (wr := [(xo_3_iiiiiiiirrrrr td tv0 tv1 tv2 tv3 (nI thh) tv5 (nI tww) (nI tkk) tb1 tb2 tb3 tb4 tb5), (xI tb1 cI 6 tg1), (xI tb2 cI 6 tg2), (xI tb3 cI 6 tg3), (xI tb4 cI 6 tg4), (xI tb5 cI 6 tg5)]) (w1 := [(xo_6_ririii h bs (nI z) td fpn_3 fn_3 kn_3), (xI bs cI 120 fb)]) hP hD [6, 7] [0, 1, 2, 3, 4, 5] rfl rfl (by decide +kernel) (by decide +kernel) hk1 hc_3.2.2 hP1 hD1
    generalize H1 = H at hP hS ⊢
    have hP : va_P (dC, dI) vwCl [(xo_3_iiiiiiiirrrrr td tv0 tv1 tv2 tv3 (nI thh) tv5 (nI tww) (nI tkk) tb1 tb2 tb3 tb4 tb5), (xI tb1 cI 6 tg1), (xI tb2 cI 6 tg2), (xI tb3 cI 6 tg3), (xI tb4 cI 6 tg4), (xI tb5 cI 6 tg5), (xo_6_ririii h bs (nI z) td fpn_3 fn_3 kn_3), (xI bs cI 120 fb)] H := hP
    have hD := dto hP hD
    refine lv_istore_n (lv' := [(1, .int r_3), (0, .ref h)]) hx hb dX6_readWind_49 rfl hl (by decide) rfl (fun ls hl => ?_)
    refine lv_aload_n hx hb dX6_readWind_50 rfl (lv_at hl 1 rfl) ?_
    refine lv_bipush (v := 59) hx hb dX6_readWind_51 (by decide) ?_
    have hc_4 := cutW (wc := [(xo_6_ririii h bs (nI z) td fpn_3 fn_3 kn_3), (xI bs cI 120 fb)]) hP hD hS hA [6, 7] (by decide +kernel) rfl
    refine va_callv (va_runV (As := [.int 59]) (rest := []) ⟨hx, hb, hml, hown, hts⟩ (r_X6_readByte l dC dI cI cZ cL cJ H.size h bs td z fpn_3 fn_3 kn_3 fb 59 (hz)) (cwV 1 hts gX6_readWind_X6_readByte rfl rfl rfl (by decide +kernel) ⟨Nat.le_of_ble_eq_true rfl, Nat.le_of_ble_eq_true rfl⟩) (pvW 6 6 hK hP rfl rfl hc_4) rfl rfl hl.1 rfl (lv_room (Nat.le_of_ble_eq_true rfl)) dX6_readWind_53 ⟨Nat.le_of_ble_eq_true rfl, Nat.le_of_ble_eq_true rfl⟩) hS (fun q _ h => hc_4.2.2 q h) hc_4.2.2 (fun u_4 t_4 H1 locs ht hvm h_4 hB hz1 hk1 hS => ?_)
    refine xl_3_4 hB (fun fpn_4 fn_4 kn_4 hP1 hD1 hF_4_0 hF_4_1 => ?_)
    clear hB
    rw [ht] at hP1
    obtain ⟨hP, hD⟩ := va_join (wr := [(xo_3_iiiiiiiirrrrr td tv0 tv1 tv2 tv3 (nI thh) tv5 (nI tww) (nI tkk) tb1 tb2 tb3 tb4 tb5), (xI tb1 cI 6 tg1), (xI tb2 cI 6 tg2), (xI tb3 cI 6 tg3), (xI tb4 cI 6 tg4), (xI tb5 cI 6 tg5)]) (w1 := [(xo_6_ririii h bs (nI z) td fpn_4 fn_4 kn_4), (xI bs cI 120 fb)]) hP hD [6, 7] [0, 1, 2, 3, 4, 5] rfl rfl (by decide +kernel) (by decide +kernel) hk1 hc_4.2.2 hP1 hD1
    generalize H1 = H at hP hS ⊢
    have hP : va_P (dC, dI) vwCl [(xo_3_iiiiiiiirrrrr td tv0 tv1 tv2 tv3 (nI thh) tv5 (nI tww) (nI tkk) tb1 tb2 tb3 tb4 tb5), (xI tb1 cI 6 tg1), (xI tb2 cI 6 tg2), (xI tb3 cI 6 tg3), (xI tb4 cI 6 tg4), (xI tb5 cI 6 tg5), (xo_6_ririii h bs (nI z) td fpn_4 fn_4 kn_4), (xI bs cI 120 fb)] H := hP
    have hD := dto hP hD
    refine lv_aload_n hx hb dX6_readWind_56 rfl (lv_at hl 1 rfl) ?_
    refine va_get (D := (dC, dI)) (ci := 6) (v := .int fn_4) (C := RX6) (T := TX6) (N := 6) hx hb hts i_X6_readWind_X6 hown hK hP 6 rfl rfl 4 (by decide) (hts _ mx_X6_readWind_1) (fun _ h9 => h9) rfl dX6_readWind_57 ?_
    refine lv_if_ne (tgt := 92) hx hb dX6_readWind_60 (by decide) (fun c_5 => ?_) (fun c_5 => ?_)
    · skip
      have hX9 := cut2 (wc := [(xo_6_ririii h bs (nI z) td fpn_4 fn_4 kn_4), (xI bs cI 120 fb), (xo_3_iiiiiiiirrrrr td tv0 tv1 tv2 tv3 (nI thh) tv5 (nI tww) (nI tkk) tb1 tb2 tb3 tb4 tb5), (xI tb1 cI 6 tg1), (xI tb2 cI 6 tg2), (xI tb3 cI 6 tg3), (xI tb4 cI 6 tg4), (xI tb5 cI 6 tg5)]) hP hD [6, 7, 0, 1, 2, 3, 4, 5] (by decide +kernel) rfl
      exact W.vret hx hb hr (fun t ht hW => ⟨⟨(), rfl, trivial, ⟨fpn_4, fn_4, kn_4, tww, tg1, va_Ht ht hX9.1, hX9.2, (lf_X6_readWind_1 hz htww htkk c_1 hF_2_0 hF_2_1 hF_3_0 hF_3_1 h_3 hF_4_0 hF_4_1 c_5), (lf_X6_readWind_2 hz htww htkk c_1 hF_2_0 hF_2_1 hF_3_0 hF_3_1 h_3 hF_4_0 hF_4_1 c_5)⟩⟩, hS.F ht⟩) hS.2.2 dX6_readWind_92
    · skip
      have hw6 : tww < 6 := (lf_X6_readWind_3 hz htww htkk c_1 hF_2_0 hF_2_1 hF_3_0 hF_3_1 h_3 hF_4_0 hF_4_1 c_5)
      refine lv_aload_n hx hb dX6_readWind_63 rfl (lv_at hl 1 rfl) ?_
      refine va_get (D := (dC, dI)) (ci := 6) (v := .ref td) (C := RX6) (T := TX6) (N := 6) hx hb hts i_X6_readWind_X6 hown hK hP 6 rfl rfl 2 (by decide) (hts _ mx_X6_readWind_3) (fun _ h9 => h9) rfl dX6_readWind_64 ?_
      refine va_get (D := (dC, dI)) (ci := 3) (v := .ref tb1) (C := RX3) (T := TX3) (N := 13) hx hb hts i_X6_readWind_X3 hown hK hP 0 rfl rfl 8 (by decide) (hts _ mx_X6_readWind_5) (fun _ h9 => h9) rfl dX6_readWind_67 ?_
      refine lv_aload_n hx hb dX6_readWind_70 rfl (lv_at hl 1 rfl) ?_
      refine va_get (D := (dC, dI)) (ci := 6) (v := .ref td) (C := RX6) (T := TX6) (N := 6) hx hb hts i_X6_readWind_X6 hown hK hP 6 rfl rfl 2 (by decide) (hts _ mx_X6_readWind_3) (fun _ h9 => h9) rfl dX6_readWind_71 ?_
      refine va_get (D := (dC, dI)) (ci := 3) (v := .int (nI tww)) (C := RX3) (T := TX3) (N := 13) hx hb hts i_X6_readWind_X3 hown hK hP 0 rfl rfl 6 (by decide) (hts _ mx_X6_readWind_4) (fun _ h9 => h9) rfl dX6_readWind_74 ?_
      refine lv_iload_n hx hb dX6_readWind_77 rfl (lv_at hl 0 rfl) ?_
      refine va_iast hx hb hK hP hD hS 1 0 rfl rfl (vp_in_nI (by omega) (by omega)) dX6_readWind_78 (fun H locs hP hD hS => ?_)
      generalize hg_6 : upd tg1 ((nI tww) : Int32).toNatClampNeg r_3 = g_6 at hP hD
      have hu_6 : g_6 = upd tg1 tww r_3 := (by rw [← hg_6, nI_clamp (by omega)])
      have hP : va_P (dC, dI) vwCl [(xo_3_iiiiiiiirrrrr td tv0 tv1 tv2 tv3 (nI thh) tv5 (nI tww) (nI tkk) tb1 tb2 tb3 tb4 tb5), (xI tb1 cI 6 g_6), (xI tb2 cI 6 tg2), (xI tb3 cI 6 tg3), (xI tb4 cI 6 tg4), (xI tb5 cI 6 tg5), (xo_6_ririii h bs (nI z) td fpn_4 fn_4 kn_4), (xI bs cI 120 fb)] H := hP
      have hD := dto hP hD
      refine lv_aload_n hx hb dX6_readWind_79 rfl (lv_at hl 1 rfl) ?_
      refine va_get (D := (dC, dI)) (ci := 6) (v := .ref td) (C := RX6) (T := TX6) (N := 6) hx hb hts i_X6_readWind_X6 hown hK hP 6 rfl rfl 2 (by decide) (hts _ mx_X6_readWind_3) (fun _ h9 => h9) rfl dX6_readWind_80 ?_
      refine lv_dup hx hb dX6_readWind_83 rfl ?_
      refine va_get (D := (dC, dI)) (ci := 3) (v := .int (nI tww)) (C := RX3) (T := TX3) (N := 13) hx hb hts i_X6_readWind_X3 hown hK hP 0 rfl rfl 6 (by decide) (hts _ mx_X6_readWind_4) (fun _ h9 => h9) rfl dX6_readWind_84 ?_
      refine lv_iconst (v := 1) hx hb dX6_readWind_87 (by decide) ?_
      refine lv_iadd hx hb dX6_readWind_88 ?_
      refine lv_topi (fun v_7 e_7 => ?_)
      obtain rfl : v_7 = (nI (tww + 1)) := (e_7).trans (nI_add tww 1)
      refine va_put (D := (dC, dI)) (ci := 3) (v := .int (nI (tww + 1))) (ty := .int) (C := RX3) (T := TX3) (N := 13) hx hb hts i_X6_readWind_X3 tyX3 tyX3_ok nmX3 hown hK hP hD hS 0 rfl rfl 6 (by decide) (hts _ mx_X6_readWind_4) (fun _ h9 => h9) rfl (by decide +kernel) rfl rfl (Nat.le_of_ble_eq_true rfl) dX6_readWind_89 (fun H locs hP hD hS => ?_)
      have hP : va_P (dC, dI) vwCl [(xo_3_iiiiiiiirrrrr td tv0 tv1 tv2 tv3 (nI thh) tv5 (nI (tww + 1)) (nI tkk) tb1 tb2 tb3 tb4 tb5), (xI tb1 cI 6 g_6), (xI tb2 cI 6 tg2), (xI tb3 cI 6 tg3), (xI tb4 cI 6 tg4), (xI tb5 cI 6 tg5), (xo_6_ririii h bs (nI z) td fpn_4 fn_4 kn_4), (xI bs cI 120 fb)] H := hP
      have hD := dto hP hD
      have hX9 := cut2 (wc := [(xo_6_ririii h bs (nI z) td fpn_4 fn_4 kn_4), (xI bs cI 120 fb), (xo_3_iiiiiiiirrrrr td tv0 tv1 tv2 tv3 (nI thh) tv5 (nI (tww + 1)) (nI tkk) tb1 tb2 tb3 tb4 tb5), (xI tb1 cI 6 g_6), (xI tb2 cI 6 tg2), (xI tb3 cI 6 tg3), (xI tb4 cI 6 tg4), (xI tb5 cI 6 tg5)]) hP hD [6, 7, 0, 1, 2, 3, 4, 5] (by decide +kernel) rfl
      exact W.vret hx hb hr (fun t ht hW => ⟨⟨(), rfl, trivial, ⟨fpn_4, fn_4, kn_4, (tww + 1), g_6, va_Ht ht hX9.1, hX9.2, (lf_X6_readWind_4 hz htww htkk c_1 hF_2_0 hF_2_1 hF_3_0 hF_3_1 h_3 hF_4_0 hF_4_1 c_5 hw6 hu_6), (lf_X6_readWind_5 hz htww htkk c_1 hF_2_0 hF_2_1 hF_3_0 hF_3_1 h_3 hF_4_0 hF_4_1 c_5 hw6 hu_6)⟩⟩, hS.F ht⟩) hS.2.2 dX6_readWind_92
  · skip
    refine lv_aload_n hx hb dX6_readWind_7 rfl (lv_at hl 0 rfl) ?_
    refine lv_aload_n hx hb dX6_readWind_8 rfl (lv_at hl 0 rfl) ?_
    refine va_get (D := (dC, dI)) (ci := 6) (v := .int k) (C := RX6) (T := TX6) (N := 6) hx hb hts i_X6_readWind_X6 hown hK hP 0 rfl rfl 5 (by decide) (hts _ mx_X6_readWind_2) (fun _ h9 => h9) rfl dX6_readWind_9 ?_
    have hPc_8 := hP.sub (ws' := [(xo_6_ririii h bs (nI z) td fp f k), (xI bs cI 120 fb)]) [0, 1] rfl
    refine vp_callSi (W.runV (As := [.int k]) (rest := []) ⟨hx, hb, hml, hown, hts⟩ (r_X6_byteAt l dC dI cI cZ cL cJ h bs td z fp f k fb k (hz)) (cwV 1 hts gX6_readWind_X6_byteAt rfl rfl rfl (by decide +kernel) ⟨Nat.le_of_ble_eq_true rfl, Nat.le_of_ble_eq_true rfl⟩) (pvP 6 0 hK hP rfl rfl hPc_8) rfl rfl hl.1 rfl (lv_room (Nat.le_of_ble_eq_true rfl)) dX6_readWind_12 ⟨Nat.le_of_ble_eq_true rfl, Nat.le_of_ble_eq_true rfl⟩) (fun r_8 h_8 => ?_)
    refine lv_bipush (v := 119) hx hb dX6_readWind_15 (by decide) ?_
    refine lv_icmp_ne (tgt := 37) hx hb dX6_readWind_17 (by decide) (fun c_9 => ?_) (fun c_9 => ?_)
    · skip
      refine lv_aload_n hx hb dX6_readWind_37 rfl (lv_at hl 0 rfl) ?_
      refine lv_bipush (v := 119) hx hb dX6_readWind_38 (by decide) ?_
      have hc_10 := cutW (wc := [(xo_6_ririii h bs (nI z) td fp f k), (xI bs cI 120 fb)]) hP hD hS hA [0, 1] (by decide +kernel) rfl
      refine va_callv (va_runV (As := [.int 119]) (rest := []) ⟨hx, hb, hml, hown, hts⟩ (r_X6_readByte l dC dI cI cZ cL cJ s.heap.size h bs td z fp f k fb 119 (hz)) (cwV 1 hts gX6_readWind_X6_readByte rfl rfl rfl (by decide +kernel) ⟨Nat.le_of_ble_eq_true rfl, Nat.le_of_ble_eq_true rfl⟩) (pvW 6 0 hK hP rfl rfl hc_10) rfl rfl hl.1 rfl (lv_room (Nat.le_of_ble_eq_true rfl)) dX6_readWind_40 ⟨Nat.le_of_ble_eq_true rfl, Nat.le_of_ble_eq_true rfl⟩) hS (fun q _ h => hc_10.2.2 q h) hc_10.2.2 (fun u_10 t_10 H1 locs ht hvm h_10 hB hz1 hk1 hS => ?_)
      refine xl_3_4 hB (fun fpn_10 fn_10 kn_10 hP1 hD1 hF_10_0 hF_10_1 => ?_)
      clear hB
      rw [ht] at hP1
      obtain ⟨hP, hD⟩ := va_join (wr := [(xo_3_iiiiiiiirrrrr td tv0 tv1 tv2 tv3 (nI thh) tv5 (nI tww) (nI tkk) tb1 tb2 tb3 tb4 tb5), (xI tb1 cI 6 tg1), (xI tb2 cI 6 tg2), (xI tb3 cI 6 tg3), (xI tb4 cI 6 tg4), (xI tb5 cI 6 tg5)]) (w1 := [(xo_6_ririii h bs (nI z) td fpn_10 fn_10 kn_10), (xI bs cI 120 fb)]) hP hD [0, 1] [2, 3, 4, 5, 6, 7] rfl rfl (by decide +kernel) (by decide +kernel) hk1 hc_10.2.2 hP1 hD1
      generalize H1 = H at hP hS ⊢
      have hP : va_P (dC, dI) vwCl [(xo_3_iiiiiiiirrrrr td tv0 tv1 tv2 tv3 (nI thh) tv5 (nI tww) (nI tkk) tb1 tb2 tb3 tb4 tb5), (xI tb1 cI 6 tg1), (xI tb2 cI 6 tg2), (xI tb3 cI 6 tg3), (xI tb4 cI 6 tg4), (xI tb5 cI 6 tg5), (xo_6_ririii h bs (nI z) td fpn_10 fn_10 kn_10), (xI bs cI 120 fb)] H := hP
      have hD := dto hP hD
      refine lv_aload_n hx hb dX6_readWind_43 rfl (lv_at hl 0 rfl) ?_
      refine lv_iconst (v := 0) hx hb dX6_readWind_44 (by decide) ?_
      refine lv_iconst (v := 4) hx hb dX6_readWind_45 (by decide) ?_
      have hc_11 := cutW (wc := [(xo_6_ririii h bs (nI z) td fpn_10 fn_10 kn_10), (xI bs cI 120 fb)]) hP hD hS hA [6, 7] (by decide +kernel) rfl
      refine va_calli (va_runV (As := [.int 0, .int 4]) (rest := []) ⟨hx, hb, hml, hown, hts⟩ (r_X6_readNumber l dC dI cI cZ cL cJ H.size h bs td z fpn_10 fn_10 kn_10 fb 0 4 (hz)) (cwV 2 hts gX6_readWind_X6_readNumber rfl rfl rfl (by decide +kernel) ⟨Nat.le_of_ble_eq_true rfl, Nat.le_of_ble_eq_true rfl⟩) (pvW 6 6 hK hP rfl rfl hc_11) rfl rfl hl.1 rfl (lv_room (Nat.le_of_ble_eq_true rfl)) dX6_readWind_46 ⟨Nat.le_of_ble_eq_true rfl, Nat.le_of_ble_eq_true rfl⟩) hS (fun q _ h => hc_11.2.2 q h) hc_11.2.2 (fun r_11 u_11 t_11 H1 locs ht hvm h_11 hB hz1 hk1 hS => ?_)
      refine xl_3_4 hB (fun fpn_11 fn_11 kn_11 hP1 hD1 hF_11_0 hF_11_1 => ?_)
      clear hB
      rw [ht] at hP1
      obtain ⟨hP, hD⟩ := va_join (wr := [(xo_3_iiiiiiiirrrrr td tv0 tv1 tv2 tv3 (nI thh) tv5 (nI tww) (nI tkk) tb1 tb2 tb3 tb4 tb5), (xI tb1 cI 6 tg1), (xI tb2 cI 6 tg2), (xI tb3 cI 6 tg3), (xI tb4 cI 6 tg4), (xI tb5 cI 6 tg5)]) (w1 := [(xo_6_ririii h bs (nI z) td fpn_11 fn_11 kn_11), (xI bs cI 120 fb)]) hP hD [6, 7] [0, 1, 2, 3, 4, 5] rfl rfl (by decide +kernel) (by decide +kernel) hk1 hc_11.2.2 hP1 hD1
      generalize H1 = H at hP hS ⊢
      have hP : va_P (dC, dI) vwCl [(xo_3_iiiiiiiirrrrr td tv0 tv1 tv2 tv3 (nI thh) tv5 (nI tww) (nI tkk) tb1 tb2 tb3 tb4 tb5), (xI tb1 cI 6 tg1), (xI tb2 cI 6 tg2), (xI tb3 cI 6 tg3), (xI tb4 cI 6 tg4), (xI tb5 cI 6 tg5), (xo_6_ririii h bs (nI z) td fpn_11 fn_11 kn_11), (xI bs cI 120 fb)] H := hP
      have hD := dto hP hD
      refine lv_istore_n (lv' := [(1, .int r_11), (0, .ref h)]) hx hb dX6_readWind_49 rfl hl (by decide) rfl (fun ls hl => ?_)
      refine lv_aload_n hx hb dX6_readWind_50 rfl (lv_at hl 1 rfl) ?_
      refine lv_bipush (v := 59) hx hb dX6_readWind_51 (by decide) ?_
      have hc_12 := cutW (wc := [(xo_6_ririii h bs (nI z) td fpn_11 fn_11 kn_11), (xI bs cI 120 fb)]) hP hD hS hA [6, 7] (by decide +kernel) rfl
      refine va_callv (va_runV (As := [.int 59]) (rest := []) ⟨hx, hb, hml, hown, hts⟩ (r_X6_readByte l dC dI cI cZ cL cJ H.size h bs td z fpn_11 fn_11 kn_11 fb 59 (hz)) (cwV 1 hts gX6_readWind_X6_readByte rfl rfl rfl (by decide +kernel) ⟨Nat.le_of_ble_eq_true rfl, Nat.le_of_ble_eq_true rfl⟩) (pvW 6 6 hK hP rfl rfl hc_12) rfl rfl hl.1 rfl (lv_room (Nat.le_of_ble_eq_true rfl)) dX6_readWind_53 ⟨Nat.le_of_ble_eq_true rfl, Nat.le_of_ble_eq_true rfl⟩) hS (fun q _ h => hc_12.2.2 q h) hc_12.2.2 (fun u_12 t_12 H1 locs ht hvm h_12 hB hz1 hk1 hS => ?_)
      refine xl_3_4 hB (fun fpn_12 fn_12 kn_12 hP1 hD1 hF_12_0 hF_12_1 => ?_)
      clear hB
      rw [ht] at hP1
      obtain ⟨hP, hD⟩ := va_join (wr := [(xo_3_iiiiiiiirrrrr td tv0 tv1 tv2 tv3 (nI thh) tv5 (nI tww) (nI tkk) tb1 tb2 tb3 tb4 tb5), (xI tb1 cI 6 tg1), (xI tb2 cI 6 tg2), (xI tb3 cI 6 tg3), (xI tb4 cI 6 tg4), (xI tb5 cI 6 tg5)]) (w1 := [(xo_6_ririii h bs (nI z) td fpn_12 fn_12 kn_12), (xI bs cI 120 fb)]) hP hD [6, 7] [0, 1, 2, 3, 4, 5] rfl rfl (by decide +kernel) (by decide +kernel) hk1 hc_12.2.2 hP1 hD1
      generalize H1 = H at hP hS ⊢
      have hP : va_P (dC, dI) vwCl [(xo_3_iiiiiiiirrrrr td tv0 tv1 tv2 tv3 (nI thh) tv5 (nI tww) (nI tkk) tb1 tb2 tb3 tb4 tb5), (xI tb1 cI 6 tg1), (xI tb2 cI 6 tg2), (xI tb3 cI 6 tg3), (xI tb4 cI 6 tg4), (xI tb5 cI 6 tg5), (xo_6_ririii h bs (nI z) td fpn_12 fn_12 kn_12), (xI bs cI 120 fb)] H := hP
      have hD := dto hP hD
      refine lv_aload_n hx hb dX6_readWind_56 rfl (lv_at hl 1 rfl) ?_
      refine va_get (D := (dC, dI)) (ci := 6) (v := .int fn_12) (C := RX6) (T := TX6) (N := 6) hx hb hts i_X6_readWind_X6 hown hK hP 6 rfl rfl 4 (by decide) (hts _ mx_X6_readWind_1) (fun _ h9 => h9) rfl dX6_readWind_57 ?_
      refine lv_if_ne (tgt := 92) hx hb dX6_readWind_60 (by decide) (fun c_13 => ?_) (fun c_13 => ?_)
      · skip
        have hX9 := cut2 (wc := [(xo_6_ririii h bs (nI z) td fpn_12 fn_12 kn_12), (xI bs cI 120 fb), (xo_3_iiiiiiiirrrrr td tv0 tv1 tv2 tv3 (nI thh) tv5 (nI tww) (nI tkk) tb1 tb2 tb3 tb4 tb5), (xI tb1 cI 6 tg1), (xI tb2 cI 6 tg2), (xI tb3 cI 6 tg3), (xI tb4 cI 6 tg4), (xI tb5 cI 6 tg5)]) hP hD [6, 7, 0, 1, 2, 3, 4, 5] (by decide +kernel) rfl
        exact W.vret hx hb hr (fun t ht hW => ⟨⟨(), rfl, trivial, ⟨fpn_12, fn_12, kn_12, tww, tg1, va_Ht ht hX9.1, hX9.2, (lf_X6_readWind_6 hz htww htkk c_1 h_8 c_9 hF_10_0 hF_10_1 hF_11_0 hF_11_1 h_11 hF_12_0 hF_12_1 c_13), (lf_X6_readWind_7 hz htww htkk c_1 h_8 c_9 hF_10_0 hF_10_1 hF_11_0 hF_11_1 h_11 hF_12_0 hF_12_1 c_13)⟩⟩, hS.F ht⟩) hS.2.2 dX6_readWind_92
      · skip
        have hw6 : tww < 6 := (lf_X6_readWind_8 hz htww htkk c_1 h_8 c_9 hF_10_0 hF_10_1 hF_11_0 hF_11_1 h_11 hF_12_0 hF_12_1 c_13)
        refine lv_aload_n hx hb dX6_readWind_63 rfl (lv_at hl 1 rfl) ?_
        refine va_get (D := (dC, dI)) (ci := 6) (v := .ref td) (C := RX6) (T := TX6) (N := 6) hx hb hts i_X6_readWind_X6 hown hK hP 6 rfl rfl 2 (by decide) (hts _ mx_X6_readWind_3) (fun _ h9 => h9) rfl dX6_readWind_64 ?_
        refine va_get (D := (dC, dI)) (ci := 3) (v := .ref tb1) (C := RX3) (T := TX3) (N := 13) hx hb hts i_X6_readWind_X3 hown hK hP 0 rfl rfl 8 (by decide) (hts _ mx_X6_readWind_5) (fun _ h9 => h9) rfl dX6_readWind_67 ?_
        refine lv_aload_n hx hb dX6_readWind_70 rfl (lv_at hl 1 rfl) ?_
        refine va_get (D := (dC, dI)) (ci := 6) (v := .ref td) (C := RX6) (T := TX6) (N := 6) hx hb hts i_X6_readWind_X6 hown hK hP 6 rfl rfl 2 (by decide) (hts _ mx_X6_readWind_3) (fun _ h9 => h9) rfl dX6_readWind_71 ?_
        refine va_get (D := (dC, dI)) (ci := 3) (v := .int (nI tww)) (C := RX3) (T := TX3) (N := 13) hx hb hts i_X6_readWind_X3 hown hK hP 0 rfl rfl 6 (by decide) (hts _ mx_X6_readWind_4) (fun _ h9 => h9) rfl dX6_readWind_74 ?_
        refine lv_iload_n hx hb dX6_readWind_77 rfl (lv_at hl 0 rfl) ?_
        refine va_iast hx hb hK hP hD hS 1 0 rfl rfl (vp_in_nI (by omega) (by omega)) dX6_readWind_78 (fun H locs hP hD hS => ?_)
        generalize hg_14 : upd tg1 ((nI tww) : Int32).toNatClampNeg r_11 = g_14 at hP hD
        have hu_14 : g_14 = upd tg1 tww r_11 := (by rw [← hg_14, nI_clamp (by omega)])
        have hP : va_P (dC, dI) vwCl [(xo_3_iiiiiiiirrrrr td tv0 tv1 tv2 tv3 (nI thh) tv5 (nI tww) (nI tkk) tb1 tb2 tb3 tb4 tb5), (xI tb1 cI 6 g_14), (xI tb2 cI 6 tg2), (xI tb3 cI 6 tg3), (xI tb4 cI 6 tg4), (xI tb5 cI 6 tg5), (xo_6_ririii h bs (nI z) td fpn_12 fn_12 kn_12), (xI bs cI 120 fb)] H := hP
        have hD := dto hP hD
        refine lv_aload_n hx hb dX6_readWind_79 rfl (lv_at hl 1 rfl) ?_
        refine va_get (D := (dC, dI)) (ci := 6) (v := .ref td) (C := RX6) (T := TX6) (N := 6) hx hb hts i_X6_readWind_X6 hown hK hP 6 rfl rfl 2 (by decide) (hts _ mx_X6_readWind_3) (fun _ h9 => h9) rfl dX6_readWind_80 ?_
        refine lv_dup hx hb dX6_readWind_83 rfl ?_
        refine va_get (D := (dC, dI)) (ci := 3) (v := .int (nI tww)) (C := RX3) (T := TX3) (N := 13) hx hb hts i_X6_readWind_X3 hown hK hP 0 rfl rfl 6 (by decide) (hts _ mx_X6_readWind_4) (fun _ h9 => h9) rfl dX6_readWind_84 ?_
        refine lv_iconst (v := 1) hx hb dX6_readWind_87 (by decide) ?_
        refine lv_iadd hx hb dX6_readWind_88 ?_
        refine lv_topi (fun v_15 e_15 => ?_)
        obtain rfl : v_15 = (nI (tww + 1)) := (e_15).trans (nI_add tww 1)
        refine va_put (D := (dC, dI)) (ci := 3) (v := .int (nI (tww + 1))) (ty := .int) (C := RX3) (T := TX3) (N := 13) hx hb hts i_X6_readWind_X3 tyX3 tyX3_ok nmX3 hown hK hP hD hS 0 rfl rfl 6 (by decide) (hts _ mx_X6_readWind_4) (fun _ h9 => h9) rfl (by decide +kernel) rfl rfl (Nat.le_of_ble_eq_true rfl) dX6_readWind_89 (fun H locs hP hD hS => ?_)
        have hP : va_P (dC, dI) vwCl [(xo_3_iiiiiiiirrrrr td tv0 tv1 tv2 tv3 (nI thh) tv5 (nI (tww + 1)) (nI tkk) tb1 tb2 tb3 tb4 tb5), (xI tb1 cI 6 g_14), (xI tb2 cI 6 tg2), (xI tb3 cI 6 tg3), (xI tb4 cI 6 tg4), (xI tb5 cI 6 tg5), (xo_6_ririii h bs (nI z) td fpn_12 fn_12 kn_12), (xI bs cI 120 fb)] H := hP
        have hD := dto hP hD
        have hX9 := cut2 (wc := [(xo_6_ririii h bs (nI z) td fpn_12 fn_12 kn_12), (xI bs cI 120 fb), (xo_3_iiiiiiiirrrrr td tv0 tv1 tv2 tv3 (nI thh) tv5 (nI (tww + 1)) (nI tkk) tb1 tb2 tb3 tb4 tb5), (xI tb1 cI 6 g_14), (xI tb2 cI 6 tg2), (xI tb3 cI 6 tg3), (xI tb4 cI 6 tg4), (xI tb5 cI 6 tg5)]) hP hD [6, 7, 0, 1, 2, 3, 4, 5] (by decide +kernel) rfl
        exact W.vret hx hb hr (fun t ht hW => ⟨⟨(), rfl, trivial, ⟨fpn_12, fn_12, kn_12, (tww + 1), g_14, va_Ht ht hX9.1, hX9.2, (lf_X6_readWind_9 hz htww htkk c_1 h_8 c_9 hF_10_0 hF_10_1 hF_11_0 hF_11_1 h_11 hF_12_0 hF_12_1 c_13 hw6 hu_14), (lf_X6_readWind_10 hz htww htkk c_1 h_8 c_9 hF_10_0 hF_10_1 hF_11_0 hF_11_1 h_11 hF_12_0 hF_12_1 c_13 hw6 hu_14)⟩⟩, hS.F ht⟩) hS.2.2 dX6_readWind_92
    · skip
      refine lv_aload_n hx hb dX6_readWind_20 rfl (lv_at hl 0 rfl) ?_
      refine va_get (D := (dC, dI)) (ci := 6) (v := .ref td) (C := RX6) (T := TX6) (N := 6) hx hb hts i_X6_readWind_X6 hown hK hP 0 rfl rfl 2 (by decide) (hts _ mx_X6_readWind_3) (fun _ h9 => h9) rfl dX6_readWind_21 ?_
      refine va_get (D := (dC, dI)) (ci := 3) (v := .int (nI tww)) (C := RX3) (T := TX3) (N := 13) hx hb hts i_X6_readWind_X3 hown hK hP 2 rfl rfl 6 (by decide) (hts _ mx_X6_readWind_4) (fun _ h9 => h9) rfl dX6_readWind_24 ?_
      refine lv_bipush (v := 6) hx hb dX6_readWind_27 (by decide) ?_
      refine lv_icmp_lt (tgt := 37) hx hb dX6_readWind_29 (by decide) (fun c_16 => ?_) (fun c_16 => ?_)
      · have c_16 : tww < 6 := (nI_ltI (a := tww) (b := 6) (by omega) (by omega)).mp c_16
        refine lv_aload_n hx hb dX6_readWind_37 rfl (lv_at hl 0 rfl) ?_
        refine lv_bipush (v := 119) hx hb dX6_readWind_38 (by decide) ?_
        have hc_17 := cutW (wc := [(xo_6_ririii h bs (nI z) td fp f k), (xI bs cI 120 fb)]) hP hD hS hA [0, 1] (by decide +kernel) rfl
        refine va_callv (va_runV (As := [.int 119]) (rest := []) ⟨hx, hb, hml, hown, hts⟩ (r_X6_readByte l dC dI cI cZ cL cJ s.heap.size h bs td z fp f k fb 119 (hz)) (cwV 1 hts gX6_readWind_X6_readByte rfl rfl rfl (by decide +kernel) ⟨Nat.le_of_ble_eq_true rfl, Nat.le_of_ble_eq_true rfl⟩) (pvW 6 0 hK hP rfl rfl hc_17) rfl rfl hl.1 rfl (lv_room (Nat.le_of_ble_eq_true rfl)) dX6_readWind_40 ⟨Nat.le_of_ble_eq_true rfl, Nat.le_of_ble_eq_true rfl⟩) hS (fun q _ h => hc_17.2.2 q h) hc_17.2.2 (fun u_17 t_17 H1 locs ht hvm h_17 hB hz1 hk1 hS => ?_)
        refine xl_3_4 hB (fun fpn_17 fn_17 kn_17 hP1 hD1 hF_17_0 hF_17_1 => ?_)
        clear hB
        rw [ht] at hP1
        obtain ⟨hP, hD⟩ := va_join (wr := [(xo_3_iiiiiiiirrrrr td tv0 tv1 tv2 tv3 (nI thh) tv5 (nI tww) (nI tkk) tb1 tb2 tb3 tb4 tb5), (xI tb1 cI 6 tg1), (xI tb2 cI 6 tg2), (xI tb3 cI 6 tg3), (xI tb4 cI 6 tg4), (xI tb5 cI 6 tg5)]) (w1 := [(xo_6_ririii h bs (nI z) td fpn_17 fn_17 kn_17), (xI bs cI 120 fb)]) hP hD [0, 1] [2, 3, 4, 5, 6, 7] rfl rfl (by decide +kernel) (by decide +kernel) hk1 hc_17.2.2 hP1 hD1
        generalize H1 = H at hP hS ⊢
        have hP : va_P (dC, dI) vwCl [(xo_3_iiiiiiiirrrrr td tv0 tv1 tv2 tv3 (nI thh) tv5 (nI tww) (nI tkk) tb1 tb2 tb3 tb4 tb5), (xI tb1 cI 6 tg1), (xI tb2 cI 6 tg2), (xI tb3 cI 6 tg3), (xI tb4 cI 6 tg4), (xI tb5 cI 6 tg5), (xo_6_ririii h bs (nI z) td fpn_17 fn_17 kn_17), (xI bs cI 120 fb)] H := hP
        have hD := dto hP hD
        refine lv_aload_n hx hb dX6_readWind_43 rfl (lv_at hl 0 rfl) ?_
        refine lv_iconst (v := 0) hx hb dX6_readWind_44 (by decide) ?_
        refine lv_iconst (v := 4) hx hb dX6_readWind_45 (by decide) ?_
        have hc_18 := cutW (wc := [(xo_6_ririii h bs (nI z) td fpn_17 fn_17 kn_17), (xI bs cI 120 fb)]) hP hD hS hA [6, 7] (by decide +kernel) rfl
        refine va_calli (va_runV (As := [.int 0, .int 4]) (rest := []) ⟨hx, hb, hml, hown, hts⟩ (r_X6_readNumber l dC dI cI cZ cL cJ H.size h bs td z fpn_17 fn_17 kn_17 fb 0 4 (hz)) (cwV 2 hts gX6_readWind_X6_readNumber rfl rfl rfl (by decide +kernel) ⟨Nat.le_of_ble_eq_true rfl, Nat.le_of_ble_eq_true rfl⟩) (pvW 6 6 hK hP rfl rfl hc_18) rfl rfl hl.1 rfl (lv_room (Nat.le_of_ble_eq_true rfl)) dX6_readWind_46 ⟨Nat.le_of_ble_eq_true rfl, Nat.le_of_ble_eq_true rfl⟩) hS (fun q _ h => hc_18.2.2 q h) hc_18.2.2 (fun r_18 u_18 t_18 H1 locs ht hvm h_18 hB hz1 hk1 hS => ?_)
        refine xl_3_4 hB (fun fpn_18 fn_18 kn_18 hP1 hD1 hF_18_0 hF_18_1 => ?_)
        clear hB
        rw [ht] at hP1
        obtain ⟨hP, hD⟩ := va_join (wr := [(xo_3_iiiiiiiirrrrr td tv0 tv1 tv2 tv3 (nI thh) tv5 (nI tww) (nI tkk) tb1 tb2 tb3 tb4 tb5), (xI tb1 cI 6 tg1), (xI tb2 cI 6 tg2), (xI tb3 cI 6 tg3), (xI tb4 cI 6 tg4), (xI tb5 cI 6 tg5)]) (w1 := [(xo_6_ririii h bs (nI z) td fpn_18 fn_18 kn_18), (xI bs cI 120 fb)]) hP hD [6, 7] [0, 1, 2, 3, 4, 5] rfl rfl (by decide +kernel) (by decide +kernel) hk1 hc_18.2.2 hP1 hD1
        generalize H1 = H at hP hS ⊢
        have hP : va_P (dC, dI) vwCl [(xo_3_iiiiiiiirrrrr td tv0 tv1 tv2 tv3 (nI thh) tv5 (nI tww) (nI tkk) tb1 tb2 tb3 tb4 tb5), (xI tb1 cI 6 tg1), (xI tb2 cI 6 tg2), (xI tb3 cI 6 tg3), (xI tb4 cI 6 tg4), (xI tb5 cI 6 tg5), (xo_6_ririii h bs (nI z) td fpn_18 fn_18 kn_18), (xI bs cI 120 fb)] H := hP
        have hD := dto hP hD
        refine lv_istore_n (lv' := [(1, .int r_18), (0, .ref h)]) hx hb dX6_readWind_49 rfl hl (by decide) rfl (fun ls hl => ?_)
        refine lv_aload_n hx hb dX6_readWind_50 rfl (lv_at hl 1 rfl) ?_
        refine lv_bipush (v := 59) hx hb dX6_readWind_51 (by decide) ?_
        have hc_19 := cutW (wc := [(xo_6_ririii h bs (nI z) td fpn_18 fn_18 kn_18), (xI bs cI 120 fb)]) hP hD hS hA [6, 7] (by decide +kernel) rfl
        refine va_callv (va_runV (As := [.int 59]) (rest := []) ⟨hx, hb, hml, hown, hts⟩ (r_X6_readByte l dC dI cI cZ cL cJ H.size h bs td z fpn_18 fn_18 kn_18 fb 59 (hz)) (cwV 1 hts gX6_readWind_X6_readByte rfl rfl rfl (by decide +kernel) ⟨Nat.le_of_ble_eq_true rfl, Nat.le_of_ble_eq_true rfl⟩) (pvW 6 6 hK hP rfl rfl hc_19) rfl rfl hl.1 rfl (lv_room (Nat.le_of_ble_eq_true rfl)) dX6_readWind_53 ⟨Nat.le_of_ble_eq_true rfl, Nat.le_of_ble_eq_true rfl⟩) hS (fun q _ h => hc_19.2.2 q h) hc_19.2.2 (fun u_19 t_19 H1 locs ht hvm h_19 hB hz1 hk1 hS => ?_)
        refine xl_3_4 hB (fun fpn_19 fn_19 kn_19 hP1 hD1 hF_19_0 hF_19_1 => ?_)
        clear hB
        rw [ht] at hP1
        obtain ⟨hP, hD⟩ := va_join (wr := [(xo_3_iiiiiiiirrrrr td tv0 tv1 tv2 tv3 (nI thh) tv5 (nI tww) (nI tkk) tb1 tb2 tb3 tb4 tb5), (xI tb1 cI 6 tg1), (xI tb2 cI 6 tg2), (xI tb3 cI 6 tg3), (xI tb4 cI 6 tg4), (xI tb5 cI 6 tg5)]) (w1 := [(xo_6_ririii h bs (nI z) td fpn_19 fn_19 kn_19), (xI bs cI 120 fb)]) hP hD [6, 7] [0, 1, 2, 3, 4, 5] rfl rfl (by decide +kernel) (by decide +kernel) hk1 hc_19.2.2 hP1 hD1
        generalize H1 = H at hP hS ⊢
        have hP : va_P (dC, dI) vwCl [(xo_3_iiiiiiiirrrrr td tv0 tv1 tv2 tv3 (nI thh) tv5 (nI tww) (nI tkk) tb1 tb2 tb3 tb4 tb5), (xI tb1 cI 6 tg1), (xI tb2 cI 6 tg2), (xI tb3 cI 6 tg3), (xI tb4 cI 6 tg4), (xI tb5 cI 6 tg5), (xo_6_ririii h bs (nI z) td fpn_19 fn_19 kn_19), (xI bs cI 120 fb)] H := hP
        have hD := dto hP hD
        refine lv_aload_n hx hb dX6_readWind_56 rfl (lv_at hl 1 rfl) ?_
        refine va_get (D := (dC, dI)) (ci := 6) (v := .int fn_19) (C := RX6) (T := TX6) (N := 6) hx hb hts i_X6_readWind_X6 hown hK hP 6 rfl rfl 4 (by decide) (hts _ mx_X6_readWind_1) (fun _ h9 => h9) rfl dX6_readWind_57 ?_
        refine lv_if_ne (tgt := 92) hx hb dX6_readWind_60 (by decide) (fun c_20 => ?_) (fun c_20 => ?_)
        · skip
          have hX9 := cut2 (wc := [(xo_6_ririii h bs (nI z) td fpn_19 fn_19 kn_19), (xI bs cI 120 fb), (xo_3_iiiiiiiirrrrr td tv0 tv1 tv2 tv3 (nI thh) tv5 (nI tww) (nI tkk) tb1 tb2 tb3 tb4 tb5), (xI tb1 cI 6 tg1), (xI tb2 cI 6 tg2), (xI tb3 cI 6 tg3), (xI tb4 cI 6 tg4), (xI tb5 cI 6 tg5)]) hP hD [6, 7, 0, 1, 2, 3, 4, 5] (by decide +kernel) rfl
          exact W.vret hx hb hr (fun t ht hW => ⟨⟨(), rfl, trivial, ⟨fpn_19, fn_19, kn_19, tww, tg1, va_Ht ht hX9.1, hX9.2, (lf_X6_readWind_11 hz htww htkk c_1 h_8 c_9 c_16 hF_17_0 hF_17_1 hF_18_0 hF_18_1 h_18 hF_19_0 hF_19_1 c_20), (lf_X6_readWind_12 hz htww htkk c_1 h_8 c_9 c_16 hF_17_0 hF_17_1 hF_18_0 hF_18_1 h_18 hF_19_0 hF_19_1 c_20)⟩⟩, hS.F ht⟩) hS.2.2 dX6_readWind_92
        · skip
          have hw6 : tww < 6 := (lf_X6_readWind_13 hz htww htkk c_1 h_8 c_9 c_16 hF_17_0 hF_17_1 hF_18_0 hF_18_1 h_18 hF_19_0 hF_19_1 c_20)
          refine lv_aload_n hx hb dX6_readWind_63 rfl (lv_at hl 1 rfl) ?_
          refine va_get (D := (dC, dI)) (ci := 6) (v := .ref td) (C := RX6) (T := TX6) (N := 6) hx hb hts i_X6_readWind_X6 hown hK hP 6 rfl rfl 2 (by decide) (hts _ mx_X6_readWind_3) (fun _ h9 => h9) rfl dX6_readWind_64 ?_
          refine va_get (D := (dC, dI)) (ci := 3) (v := .ref tb1) (C := RX3) (T := TX3) (N := 13) hx hb hts i_X6_readWind_X3 hown hK hP 0 rfl rfl 8 (by decide) (hts _ mx_X6_readWind_5) (fun _ h9 => h9) rfl dX6_readWind_67 ?_
          refine lv_aload_n hx hb dX6_readWind_70 rfl (lv_at hl 1 rfl) ?_
          refine va_get (D := (dC, dI)) (ci := 6) (v := .ref td) (C := RX6) (T := TX6) (N := 6) hx hb hts i_X6_readWind_X6 hown hK hP 6 rfl rfl 2 (by decide) (hts _ mx_X6_readWind_3) (fun _ h9 => h9) rfl dX6_readWind_71 ?_
          refine va_get (D := (dC, dI)) (ci := 3) (v := .int (nI tww)) (C := RX3) (T := TX3) (N := 13) hx hb hts i_X6_readWind_X3 hown hK hP 0 rfl rfl 6 (by decide) (hts _ mx_X6_readWind_4) (fun _ h9 => h9) rfl dX6_readWind_74 ?_
          refine lv_iload_n hx hb dX6_readWind_77 rfl (lv_at hl 0 rfl) ?_
          refine va_iast hx hb hK hP hD hS 1 0 rfl rfl (vp_in_nI (by omega) (by omega)) dX6_readWind_78 (fun H locs hP hD hS => ?_)
          generalize hg_21 : upd tg1 ((nI tww) : Int32).toNatClampNeg r_18 = g_21 at hP hD
          have hu_21 : g_21 = upd tg1 tww r_18 := (by rw [← hg_21, nI_clamp (by omega)])
          have hP : va_P (dC, dI) vwCl [(xo_3_iiiiiiiirrrrr td tv0 tv1 tv2 tv3 (nI thh) tv5 (nI tww) (nI tkk) tb1 tb2 tb3 tb4 tb5), (xI tb1 cI 6 g_21), (xI tb2 cI 6 tg2), (xI tb3 cI 6 tg3), (xI tb4 cI 6 tg4), (xI tb5 cI 6 tg5), (xo_6_ririii h bs (nI z) td fpn_19 fn_19 kn_19), (xI bs cI 120 fb)] H := hP
          have hD := dto hP hD
          refine lv_aload_n hx hb dX6_readWind_79 rfl (lv_at hl 1 rfl) ?_
          refine va_get (D := (dC, dI)) (ci := 6) (v := .ref td) (C := RX6) (T := TX6) (N := 6) hx hb hts i_X6_readWind_X6 hown hK hP 6 rfl rfl 2 (by decide) (hts _ mx_X6_readWind_3) (fun _ h9 => h9) rfl dX6_readWind_80 ?_
          refine lv_dup hx hb dX6_readWind_83 rfl ?_
          refine va_get (D := (dC, dI)) (ci := 3) (v := .int (nI tww)) (C := RX3) (T := TX3) (N := 13) hx hb hts i_X6_readWind_X3 hown hK hP 0 rfl rfl 6 (by decide) (hts _ mx_X6_readWind_4) (fun _ h9 => h9) rfl dX6_readWind_84 ?_
          refine lv_iconst (v := 1) hx hb dX6_readWind_87 (by decide) ?_
          refine lv_iadd hx hb dX6_readWind_88 ?_
          refine lv_topi (fun v_22 e_22 => ?_)
          obtain rfl : v_22 = (nI (tww + 1)) := (e_22).trans (nI_add tww 1)
          refine va_put (D := (dC, dI)) (ci := 3) (v := .int (nI (tww + 1))) (ty := .int) (C := RX3) (T := TX3) (N := 13) hx hb hts i_X6_readWind_X3 tyX3 tyX3_ok nmX3 hown hK hP hD hS 0 rfl rfl 6 (by decide) (hts _ mx_X6_readWind_4) (fun _ h9 => h9) rfl (by decide +kernel) rfl rfl (Nat.le_of_ble_eq_true rfl) dX6_readWind_89 (fun H locs hP hD hS => ?_)
          have hP : va_P (dC, dI) vwCl [(xo_3_iiiiiiiirrrrr td tv0 tv1 tv2 tv3 (nI thh) tv5 (nI (tww + 1)) (nI tkk) tb1 tb2 tb3 tb4 tb5), (xI tb1 cI 6 g_21), (xI tb2 cI 6 tg2), (xI tb3 cI 6 tg3), (xI tb4 cI 6 tg4), (xI tb5 cI 6 tg5), (xo_6_ririii h bs (nI z) td fpn_19 fn_19 kn_19), (xI bs cI 120 fb)] H := hP
          have hD := dto hP hD
          have hX9 := cut2 (wc := [(xo_6_ririii h bs (nI z) td fpn_19 fn_19 kn_19), (xI bs cI 120 fb), (xo_3_iiiiiiiirrrrr td tv0 tv1 tv2 tv3 (nI thh) tv5 (nI (tww + 1)) (nI tkk) tb1 tb2 tb3 tb4 tb5), (xI tb1 cI 6 g_21), (xI tb2 cI 6 tg2), (xI tb3 cI 6 tg3), (xI tb4 cI 6 tg4), (xI tb5 cI 6 tg5)]) hP hD [6, 7, 0, 1, 2, 3, 4, 5] (by decide +kernel) rfl
          exact W.vret hx hb hr (fun t ht hW => ⟨⟨(), rfl, trivial, ⟨fpn_19, fn_19, kn_19, (tww + 1), g_21, va_Ht ht hX9.1, hX9.2, (lf_X6_readWind_14 hz htww htkk c_1 h_8 c_9 c_16 hF_17_0 hF_17_1 hF_18_0 hF_18_1 h_18 hF_19_0 hF_19_1 c_20 hw6 hu_21), (lf_X6_readWind_15 hz htww htkk c_1 h_8 c_9 c_16 hF_17_0 hF_17_1 hF_18_0 hF_18_1 h_18 hF_19_0 hF_19_1 c_20 hw6 hu_21)⟩⟩, hS.F ht⟩) hS.2.2 dX6_readWind_92
      · have c_16 : ¬ (tww < 6) := fun q_ => c_16 ((nI_ltI (a := tww) (b := 6) (by omega) (by omega)).mpr q_)
        refine lv_aload_n hx hb dX6_readWind_32 rfl (lv_at hl 0 rfl) ?_
        refine lv_iconst (v := 3) hx hb dX6_readWind_33 (by decide) ?_
        have hc_23 := cutW (wc := [(xo_6_ririii h bs (nI z) td fp f k)]) hP hD hS hA [0] (by decide +kernel) rfl
        refine va_callv (va_runV (As := [.int 3]) (rest := []) ⟨hx, hb, hml, hown, hts⟩ (r_X6_fail l dC dI cI cZ cL cJ s.heap.size h bs td z fp f k 3 ) (cwV 1 hts gX6_readWind_X6_fail rfl rfl rfl (by decide +kernel) ⟨Nat.le_of_ble_eq_true rfl, Nat.le_of_ble_eq_true rfl⟩) (pvW 6 0 hK hP rfl rfl hc_23) rfl rfl hl.1 rfl (lv_room (Nat.le_of_ble_eq_true rfl)) dX6_readWind_34 ⟨Nat.le_of_ble_eq_true rfl, Nat.le_of_ble_eq_true rfl⟩) hS (fun q _ h => hc_23.2.2 q h) hc_23.2.2 (fun u_23 t_23 H1 locs ht hvm h_23 hB hz1 hk1 hS => ?_)
        refine xl_2_5 hB (fun fpn_23 fn_23 hP1 hD1 hF_23_0 hF_23_1 hF_23_2 => ?_)
        clear hB
        rw [ht] at hP1
        obtain ⟨hP, hD⟩ := va_join (wr := [(xI bs cI 120 fb), (xo_3_iiiiiiiirrrrr td tv0 tv1 tv2 tv3 (nI thh) tv5 (nI tww) (nI tkk) tb1 tb2 tb3 tb4 tb5), (xI tb1 cI 6 tg1), (xI tb2 cI 6 tg2), (xI tb3 cI 6 tg3), (xI tb4 cI 6 tg4), (xI tb5 cI 6 tg5)]) (w1 := [(xo_6_ririii h bs (nI z) td fpn_23 fn_23 k)]) hP hD [0] [1, 2, 3, 4, 5, 6, 7] rfl rfl (by decide +kernel) (by decide +kernel) hk1 hc_23.2.2 hP1 hD1
        generalize H1 = H at hP hS ⊢
        have hP : va_P (dC, dI) vwCl [(xI bs cI 120 fb), (xo_3_iiiiiiiirrrrr td tv0 tv1 tv2 tv3 (nI thh) tv5 (nI tww) (nI tkk) tb1 tb2 tb3 tb4 tb5), (xI tb1 cI 6 tg1), (xI tb2 cI 6 tg2), (xI tb3 cI 6 tg3), (xI tb4 cI 6 tg4), (xI tb5 cI 6 tg5), (xo_6_ririii h bs (nI z) td fpn_23 fn_23 k)] H := hP
        have hD := dto hP hD
        refine lv_aload_n hx hb dX6_readWind_37 rfl (lv_at hl 0 rfl) ?_
        refine lv_bipush (v := 119) hx hb dX6_readWind_38 (by decide) ?_
        have hc_24 := cutW (wc := [(xo_6_ririii h bs (nI z) td fpn_23 fn_23 k), (xI bs cI 120 fb)]) hP hD hS hA [7, 0] (by decide +kernel) rfl
        refine va_callv (va_runV (As := [.int 119]) (rest := []) ⟨hx, hb, hml, hown, hts⟩ (r_X6_readByte l dC dI cI cZ cL cJ H.size h bs td z fpn_23 fn_23 k fb 119 (hz)) (cwV 1 hts gX6_readWind_X6_readByte rfl rfl rfl (by decide +kernel) ⟨Nat.le_of_ble_eq_true rfl, Nat.le_of_ble_eq_true rfl⟩) (pvW 6 7 hK hP rfl rfl hc_24) rfl rfl hl.1 rfl (lv_room (Nat.le_of_ble_eq_true rfl)) dX6_readWind_40 ⟨Nat.le_of_ble_eq_true rfl, Nat.le_of_ble_eq_true rfl⟩) hS (fun q _ h => hc_24.2.2 q h) hc_24.2.2 (fun u_24 t_24 H1 locs ht hvm h_24 hB hz1 hk1 hS => ?_)
        refine xl_3_4 hB (fun fpn_24 fn_24 kn_24 hP1 hD1 hF_24_0 hF_24_1 => ?_)
        clear hB
        rw [ht] at hP1
        obtain ⟨hP, hD⟩ := va_join (wr := [(xo_3_iiiiiiiirrrrr td tv0 tv1 tv2 tv3 (nI thh) tv5 (nI tww) (nI tkk) tb1 tb2 tb3 tb4 tb5), (xI tb1 cI 6 tg1), (xI tb2 cI 6 tg2), (xI tb3 cI 6 tg3), (xI tb4 cI 6 tg4), (xI tb5 cI 6 tg5)]) (w1 := [(xo_6_ririii h bs (nI z) td fpn_24 fn_24 kn_24), (xI bs cI 120 fb)]) hP hD [7, 0] [1, 2, 3, 4, 5, 6] rfl rfl (by decide +kernel) (by decide +kernel) hk1 hc_24.2.2 hP1 hD1
        generalize H1 = H at hP hS ⊢
        have hP : va_P (dC, dI) vwCl [(xo_3_iiiiiiiirrrrr td tv0 tv1 tv2 tv3 (nI thh) tv5 (nI tww) (nI tkk) tb1 tb2 tb3 tb4 tb5), (xI tb1 cI 6 tg1), (xI tb2 cI 6 tg2), (xI tb3 cI 6 tg3), (xI tb4 cI 6 tg4), (xI tb5 cI 6 tg5), (xo_6_ririii h bs (nI z) td fpn_24 fn_24 kn_24), (xI bs cI 120 fb)] H := hP
        have hD := dto hP hD
        refine lv_aload_n hx hb dX6_readWind_43 rfl (lv_at hl 0 rfl) ?_
        refine lv_iconst (v := 0) hx hb dX6_readWind_44 (by decide) ?_
        refine lv_iconst (v := 4) hx hb dX6_readWind_45 (by decide) ?_
        have hc_25 := cutW (wc := [(xo_6_ririii h bs (nI z) td fpn_24 fn_24 kn_24), (xI bs cI 120 fb)]) hP hD hS hA [6, 7] (by decide +kernel) rfl
        refine va_calli (va_runV (As := [.int 0, .int 4]) (rest := []) ⟨hx, hb, hml, hown, hts⟩ (r_X6_readNumber l dC dI cI cZ cL cJ H.size h bs td z fpn_24 fn_24 kn_24 fb 0 4 (hz)) (cwV 2 hts gX6_readWind_X6_readNumber rfl rfl rfl (by decide +kernel) ⟨Nat.le_of_ble_eq_true rfl, Nat.le_of_ble_eq_true rfl⟩) (pvW 6 6 hK hP rfl rfl hc_25) rfl rfl hl.1 rfl (lv_room (Nat.le_of_ble_eq_true rfl)) dX6_readWind_46 ⟨Nat.le_of_ble_eq_true rfl, Nat.le_of_ble_eq_true rfl⟩) hS (fun q _ h => hc_25.2.2 q h) hc_25.2.2 (fun r_25 u_25 t_25 H1 locs ht hvm h_25 hB hz1 hk1 hS => ?_)
        refine xl_3_4 hB (fun fpn_25 fn_25 kn_25 hP1 hD1 hF_25_0 hF_25_1 => ?_)
        clear hB
        rw [ht] at hP1
        obtain ⟨hP, hD⟩ := va_join (wr := [(xo_3_iiiiiiiirrrrr td tv0 tv1 tv2 tv3 (nI thh) tv5 (nI tww) (nI tkk) tb1 tb2 tb3 tb4 tb5), (xI tb1 cI 6 tg1), (xI tb2 cI 6 tg2), (xI tb3 cI 6 tg3), (xI tb4 cI 6 tg4), (xI tb5 cI 6 tg5)]) (w1 := [(xo_6_ririii h bs (nI z) td fpn_25 fn_25 kn_25), (xI bs cI 120 fb)]) hP hD [6, 7] [0, 1, 2, 3, 4, 5] rfl rfl (by decide +kernel) (by decide +kernel) hk1 hc_25.2.2 hP1 hD1
        generalize H1 = H at hP hS ⊢
        have hP : va_P (dC, dI) vwCl [(xo_3_iiiiiiiirrrrr td tv0 tv1 tv2 tv3 (nI thh) tv5 (nI tww) (nI tkk) tb1 tb2 tb3 tb4 tb5), (xI tb1 cI 6 tg1), (xI tb2 cI 6 tg2), (xI tb3 cI 6 tg3), (xI tb4 cI 6 tg4), (xI tb5 cI 6 tg5), (xo_6_ririii h bs (nI z) td fpn_25 fn_25 kn_25), (xI bs cI 120 fb)] H := hP
        have hD := dto hP hD
        refine lv_istore_n (lv' := [(1, .int r_25), (0, .ref h)]) hx hb dX6_readWind_49 rfl hl (by decide) rfl (fun ls hl => ?_)
        refine lv_aload_n hx hb dX6_readWind_50 rfl (lv_at hl 1 rfl) ?_
        refine lv_bipush (v := 59) hx hb dX6_readWind_51 (by decide) ?_
        have hc_26 := cutW (wc := [(xo_6_ririii h bs (nI z) td fpn_25 fn_25 kn_25), (xI bs cI 120 fb)]) hP hD hS hA [6, 7] (by decide +kernel) rfl
        refine va_callv (va_runV (As := [.int 59]) (rest := []) ⟨hx, hb, hml, hown, hts⟩ (r_X6_readByte l dC dI cI cZ cL cJ H.size h bs td z fpn_25 fn_25 kn_25 fb 59 (hz)) (cwV 1 hts gX6_readWind_X6_readByte rfl rfl rfl (by decide +kernel) ⟨Nat.le_of_ble_eq_true rfl, Nat.le_of_ble_eq_true rfl⟩) (pvW 6 6 hK hP rfl rfl hc_26) rfl rfl hl.1 rfl (lv_room (Nat.le_of_ble_eq_true rfl)) dX6_readWind_53 ⟨Nat.le_of_ble_eq_true rfl, Nat.le_of_ble_eq_true rfl⟩) hS (fun q _ h => hc_26.2.2 q h) hc_26.2.2 (fun u_26 t_26 H1 locs ht hvm h_26 hB hz1 hk1 hS => ?_)
        refine xl_3_4 hB (fun fpn_26 fn_26 kn_26 hP1 hD1 hF_26_0 hF_26_1 => ?_)
        clear hB
        rw [ht] at hP1
        obtain ⟨hP, hD⟩ := va_join (wr := [(xo_3_iiiiiiiirrrrr td tv0 tv1 tv2 tv3 (nI thh) tv5 (nI tww) (nI tkk) tb1 tb2 tb3 tb4 tb5), (xI tb1 cI 6 tg1), (xI tb2 cI 6 tg2), (xI tb3 cI 6 tg3), (xI tb4 cI 6 tg4), (xI tb5 cI 6 tg5)]) (w1 := [(xo_6_ririii h bs (nI z) td fpn_26 fn_26 kn_26), (xI bs cI 120 fb)]) hP hD [6, 7] [0, 1, 2, 3, 4, 5] rfl rfl (by decide +kernel) (by decide +kernel) hk1 hc_26.2.2 hP1 hD1
        generalize H1 = H at hP hS ⊢
        have hP : va_P (dC, dI) vwCl [(xo_3_iiiiiiiirrrrr td tv0 tv1 tv2 tv3 (nI thh) tv5 (nI tww) (nI tkk) tb1 tb2 tb3 tb4 tb5), (xI tb1 cI 6 tg1), (xI tb2 cI 6 tg2), (xI tb3 cI 6 tg3), (xI tb4 cI 6 tg4), (xI tb5 cI 6 tg5), (xo_6_ririii h bs (nI z) td fpn_26 fn_26 kn_26), (xI bs cI 120 fb)] H := hP
        have hD := dto hP hD
        refine lv_aload_n hx hb dX6_readWind_56 rfl (lv_at hl 1 rfl) ?_
        refine va_get (D := (dC, dI)) (ci := 6) (v := .int fn_26) (C := RX6) (T := TX6) (N := 6) hx hb hts i_X6_readWind_X6 hown hK hP 6 rfl rfl 4 (by decide) (hts _ mx_X6_readWind_1) (fun _ h9 => h9) rfl dX6_readWind_57 ?_
        refine lv_if_ne (tgt := 92) hx hb dX6_readWind_60 (by decide) (fun c_27 => ?_) (fun c_27 => ?_)
        · skip
          have hX9 := cut2 (wc := [(xo_6_ririii h bs (nI z) td fpn_26 fn_26 kn_26), (xI bs cI 120 fb), (xo_3_iiiiiiiirrrrr td tv0 tv1 tv2 tv3 (nI thh) tv5 (nI tww) (nI tkk) tb1 tb2 tb3 tb4 tb5), (xI tb1 cI 6 tg1), (xI tb2 cI 6 tg2), (xI tb3 cI 6 tg3), (xI tb4 cI 6 tg4), (xI tb5 cI 6 tg5)]) hP hD [6, 7, 0, 1, 2, 3, 4, 5] (by decide +kernel) rfl
          exact W.vret hx hb hr (fun t ht hW => ⟨⟨(), rfl, trivial, ⟨fpn_26, fn_26, kn_26, tww, tg1, va_Ht ht hX9.1, hX9.2, (lf_X6_readWind_16 hz htww htkk c_1 h_8 c_9 c_16 hF_23_0 hF_23_1 hF_23_2 hF_24_0 hF_24_1 hF_25_0 hF_25_1 h_25 hF_26_0 hF_26_1 c_27), (lf_X6_readWind_17 hz htww htkk c_1 h_8 c_9 c_16 hF_23_0 hF_23_1 hF_23_2 hF_24_0 hF_24_1 hF_25_0 hF_25_1 h_25 hF_26_0 hF_26_1 c_27)⟩⟩, hS.F ht⟩) hS.2.2 dX6_readWind_92
        · skip
          have hw6 : tww < 6 := (lf_X6_readWind_18 hz htww htkk c_1 h_8 c_9 c_16 hF_23_0 hF_23_1 hF_23_2 hF_24_0 hF_24_1 hF_25_0 hF_25_1 h_25 hF_26_0 hF_26_1 c_27)
          refine lv_aload_n hx hb dX6_readWind_63 rfl (lv_at hl 1 rfl) ?_
          refine va_get (D := (dC, dI)) (ci := 6) (v := .ref td) (C := RX6) (T := TX6) (N := 6) hx hb hts i_X6_readWind_X6 hown hK hP 6 rfl rfl 2 (by decide) (hts _ mx_X6_readWind_3) (fun _ h9 => h9) rfl dX6_readWind_64 ?_
          refine va_get (D := (dC, dI)) (ci := 3) (v := .ref tb1) (C := RX3) (T := TX3) (N := 13) hx hb hts i_X6_readWind_X3 hown hK hP 0 rfl rfl 8 (by decide) (hts _ mx_X6_readWind_5) (fun _ h9 => h9) rfl dX6_readWind_67 ?_
          refine lv_aload_n hx hb dX6_readWind_70 rfl (lv_at hl 1 rfl) ?_
          refine va_get (D := (dC, dI)) (ci := 6) (v := .ref td) (C := RX6) (T := TX6) (N := 6) hx hb hts i_X6_readWind_X6 hown hK hP 6 rfl rfl 2 (by decide) (hts _ mx_X6_readWind_3) (fun _ h9 => h9) rfl dX6_readWind_71 ?_
          refine va_get (D := (dC, dI)) (ci := 3) (v := .int (nI tww)) (C := RX3) (T := TX3) (N := 13) hx hb hts i_X6_readWind_X3 hown hK hP 0 rfl rfl 6 (by decide) (hts _ mx_X6_readWind_4) (fun _ h9 => h9) rfl dX6_readWind_74 ?_
          refine lv_iload_n hx hb dX6_readWind_77 rfl (lv_at hl 0 rfl) ?_
          refine va_iast hx hb hK hP hD hS 1 0 rfl rfl (vp_in_nI (by omega) (by omega)) dX6_readWind_78 (fun H locs hP hD hS => ?_)
          generalize hg_28 : upd tg1 ((nI tww) : Int32).toNatClampNeg r_25 = g_28 at hP hD
          have hu_28 : g_28 = upd tg1 tww r_25 := (by rw [← hg_28, nI_clamp (by omega)])
          have hP : va_P (dC, dI) vwCl [(xo_3_iiiiiiiirrrrr td tv0 tv1 tv2 tv3 (nI thh) tv5 (nI tww) (nI tkk) tb1 tb2 tb3 tb4 tb5), (xI tb1 cI 6 g_28), (xI tb2 cI 6 tg2), (xI tb3 cI 6 tg3), (xI tb4 cI 6 tg4), (xI tb5 cI 6 tg5), (xo_6_ririii h bs (nI z) td fpn_26 fn_26 kn_26), (xI bs cI 120 fb)] H := hP
          have hD := dto hP hD
          refine lv_aload_n hx hb dX6_readWind_79 rfl (lv_at hl 1 rfl) ?_
          refine va_get (D := (dC, dI)) (ci := 6) (v := .ref td) (C := RX6) (T := TX6) (N := 6) hx hb hts i_X6_readWind_X6 hown hK hP 6 rfl rfl 2 (by decide) (hts _ mx_X6_readWind_3) (fun _ h9 => h9) rfl dX6_readWind_80 ?_
          refine lv_dup hx hb dX6_readWind_83 rfl ?_
          refine va_get (D := (dC, dI)) (ci := 3) (v := .int (nI tww)) (C := RX3) (T := TX3) (N := 13) hx hb hts i_X6_readWind_X3 hown hK hP 0 rfl rfl 6 (by decide) (hts _ mx_X6_readWind_4) (fun _ h9 => h9) rfl dX6_readWind_84 ?_
          refine lv_iconst (v := 1) hx hb dX6_readWind_87 (by decide) ?_
          refine lv_iadd hx hb dX6_readWind_88 ?_
          refine lv_topi (fun v_29 e_29 => ?_)
          obtain rfl : v_29 = (nI (tww + 1)) := (e_29).trans (nI_add tww 1)
          refine va_put (D := (dC, dI)) (ci := 3) (v := .int (nI (tww + 1))) (ty := .int) (C := RX3) (T := TX3) (N := 13) hx hb hts i_X6_readWind_X3 tyX3 tyX3_ok nmX3 hown hK hP hD hS 0 rfl rfl 6 (by decide) (hts _ mx_X6_readWind_4) (fun _ h9 => h9) rfl (by decide +kernel) rfl rfl (Nat.le_of_ble_eq_true rfl) dX6_readWind_89 (fun H locs hP hD hS => ?_)
          have hP : va_P (dC, dI) vwCl [(xo_3_iiiiiiiirrrrr td tv0 tv1 tv2 tv3 (nI thh) tv5 (nI (tww + 1)) (nI tkk) tb1 tb2 tb3 tb4 tb5), (xI tb1 cI 6 g_28), (xI tb2 cI 6 tg2), (xI tb3 cI 6 tg3), (xI tb4 cI 6 tg4), (xI tb5 cI 6 tg5), (xo_6_ririii h bs (nI z) td fpn_26 fn_26 kn_26), (xI bs cI 120 fb)] H := hP
          have hD := dto hP hD
          have hX9 := cut2 (wc := [(xo_6_ririii h bs (nI z) td fpn_26 fn_26 kn_26), (xI bs cI 120 fb), (xo_3_iiiiiiiirrrrr td tv0 tv1 tv2 tv3 (nI thh) tv5 (nI (tww + 1)) (nI tkk) tb1 tb2 tb3 tb4 tb5), (xI tb1 cI 6 g_28), (xI tb2 cI 6 tg2), (xI tb3 cI 6 tg3), (xI tb4 cI 6 tg4), (xI tb5 cI 6 tg5)]) hP hD [6, 7, 0, 1, 2, 3, 4, 5] (by decide +kernel) rfl
          exact W.vret hx hb hr (fun t ht hW => ⟨⟨(), rfl, trivial, ⟨fpn_26, fn_26, kn_26, (tww + 1), g_28, va_Ht ht hX9.1, hX9.2, (lf_X6_readWind_19 hz htww htkk c_1 h_8 c_9 c_16 hF_23_0 hF_23_1 hF_23_2 hF_24_0 hF_24_1 hF_25_0 hF_25_1 h_25 hF_26_0 hF_26_1 c_27 hw6 hu_28), (lf_X6_readWind_20 hz htww htkk c_1 h_8 c_9 c_16 hF_23_0 hF_23_1 hF_23_2 hF_24_0 hF_24_1 hF_25_0 hF_25_1 h_25 hF_26_0 hF_26_1 c_27 hw6 hu_28)⟩⟩, hS.F ht⟩) hS.2.2 dX6_readWind_92
theorem lf_X6_readWinds_1 {z : Nat} {fp : Int32} {f : Int32} {k : Int32} {fb : Nat → Int32} {tww : Nat} {tkk : Nat} {tg1 : Nat → Int32} {fpn_1 : Int32} {fn_1 : Int32} {kn_1 : Int32} {tn_1 : Nat} {tg1n_1 : Nat → Int32} {w_7 : Int32} {w_8 : Int32} {w_9 : Int32} {w_10 : Nat} {w_11 : Nat → Int32} {ii : Nat} (hz : z ≤ 120) (htww : tww ≤ 6) (htkk : tkk ≤ 6) (hF_1_0 : tn_1 ≤ 6) (hF_1_1 : xW fb z ((fp, f, k), tww, tg1) = ((fpn_1, fn_1, kn_1), tn_1, tg1n_1)) (hii : ii < 6) (haf_0 : (xWs fb z (6 - ii) ((w_7, w_8, w_9), w_10, w_11) = xWs fb z 6 ((fpn_1, fn_1, kn_1), tn_1, tg1n_1))) (hnb_w_10 : w_10 ≤ 6) (c_23 : ¬ (w_8 = 0)) : w_10 ≤ 6 := by
  first
  | omega
  | (rw [xWs_stop (s := ((w_7, w_8, w_9), w_10, w_11)) (by grind)] at haf_0; grind)
  | (have h7 : xWs fb z (6 - 6) ((w_7, w_8, w_9), w_10, w_11) = ((w_7, w_8, w_9), w_10, w_11) := rfl
     rw [h7] at haf_0
     grind)
theorem lf_X6_readWinds_2 {z : Nat} {fp : Int32} {f : Int32} {k : Int32} {fb : Nat → Int32} {tww : Nat} {tkk : Nat} {tg1 : Nat → Int32} {fpn_1 : Int32} {fn_1 : Int32} {kn_1 : Int32} {tn_1 : Nat} {tg1n_1 : Nat → Int32} {w_7 : Int32} {w_8 : Int32} {w_9 : Int32} {w_10 : Nat} {w_11 : Nat → Int32} {ii : Nat} (hz : z ≤ 120) (htww : tww ≤ 6) (htkk : tkk ≤ 6) (hF_1_0 : tn_1 ≤ 6) (hF_1_1 : xW fb z ((fp, f, k), tww, tg1) = ((fpn_1, fn_1, kn_1), tn_1, tg1n_1)) (hii : ii < 6) (haf_0 : (xWs fb z (6 - ii) ((w_7, w_8, w_9), w_10, w_11) = xWs fb z 6 ((fpn_1, fn_1, kn_1), tn_1, tg1n_1))) (hnb_w_10 : w_10 ≤ 6) (c_23 : ¬ (w_8 = 0)) : xWs fb z 6 (xW fb z ((fp, f, k), tww, tg1)) = ((w_7, w_8, w_9), w_10, w_11) := by
  first
  | omega
  | (rw [xWs_stop (s := ((w_7, w_8, w_9), w_10, w_11)) (by grind)] at haf_0; grind)
  | (have h7 : xWs fb z (6 - 6) ((w_7, w_8, w_9), w_10, w_11) = ((w_7, w_8, w_9), w_10, w_11) := rfl
     rw [h7] at haf_0
     grind)
theorem lf_X6_readWinds_3 {z : Nat} {fp : Int32} {f : Int32} {k : Int32} {fb : Nat → Int32} {tww : Nat} {tkk : Nat} {tg1 : Nat → Int32} {fpn_1 : Int32} {fn_1 : Int32} {kn_1 : Int32} {tn_1 : Nat} {tg1n_1 : Nat → Int32} {w_7 : Int32} {w_8 : Int32} {w_9 : Int32} {w_10 : Nat} {w_11 : Nat → Int32} {ii : Nat} {r_24 : Int32} (hz : z ≤ 120) (htww : tww ≤ 6) (htkk : tkk ≤ 6) (hF_1_0 : tn_1 ≤ 6) (hF_1_1 : xW fb z ((fp, f, k), tww, tg1) = ((fpn_1, fn_1, kn_1), tn_1, tg1n_1)) (hii : ii < 6) (haf_0 : (xWs fb z (6 - ii) ((w_7, w_8, w_9), w_10, w_11) = xWs fb z 6 ((fpn_1, fn_1, kn_1), tn_1, tg1n_1))) (hnb_w_10 : w_10 ≤ 6) (c_23 : w_8 = 0) (h_24 : r_24 = (bAt fb z w_9)) (c_25 : ¬ (r_24 = 119)) : w_10 ≤ 6 := by
  first
  | omega
  | (rw [xWs_stop (s := ((w_7, w_8, w_9), w_10, w_11)) (by grind)] at haf_0; grind)
  | (have h7 : xWs fb z (6 - 6) ((w_7, w_8, w_9), w_10, w_11) = ((w_7, w_8, w_9), w_10, w_11) := rfl
     rw [h7] at haf_0
     grind)
theorem lf_X6_readWinds_4 {z : Nat} {fp : Int32} {f : Int32} {k : Int32} {fb : Nat → Int32} {tww : Nat} {tkk : Nat} {tg1 : Nat → Int32} {fpn_1 : Int32} {fn_1 : Int32} {kn_1 : Int32} {tn_1 : Nat} {tg1n_1 : Nat → Int32} {w_7 : Int32} {w_8 : Int32} {w_9 : Int32} {w_10 : Nat} {w_11 : Nat → Int32} {ii : Nat} {r_24 : Int32} (hz : z ≤ 120) (htww : tww ≤ 6) (htkk : tkk ≤ 6) (hF_1_0 : tn_1 ≤ 6) (hF_1_1 : xW fb z ((fp, f, k), tww, tg1) = ((fpn_1, fn_1, kn_1), tn_1, tg1n_1)) (hii : ii < 6) (haf_0 : (xWs fb z (6 - ii) ((w_7, w_8, w_9), w_10, w_11) = xWs fb z 6 ((fpn_1, fn_1, kn_1), tn_1, tg1n_1))) (hnb_w_10 : w_10 ≤ 6) (c_23 : w_8 = 0) (h_24 : r_24 = (bAt fb z w_9)) (c_25 : ¬ (r_24 = 119)) : xWs fb z 6 (xW fb z ((fp, f, k), tww, tg1)) = ((w_7, w_8, w_9), w_10, w_11) := by
  first
  | omega
  | (rw [xWs_stop (s := ((w_7, w_8, w_9), w_10, w_11)) (by grind)] at haf_0; grind)
  | (have h7 : xWs fb z (6 - 6) ((w_7, w_8, w_9), w_10, w_11) = ((w_7, w_8, w_9), w_10, w_11) := rfl
     rw [h7] at haf_0
     grind)
theorem lf_X6_readWinds_5 {z : Nat} {fp : Int32} {f : Int32} {k : Int32} {fb : Nat → Int32} {tww : Nat} {tkk : Nat} {tg1 : Nat → Int32} {fpn_1 : Int32} {fn_1 : Int32} {kn_1 : Int32} {tn_1 : Nat} {tg1n_1 : Nat → Int32} {w_7 : Int32} {w_8 : Int32} {w_9 : Int32} {w_10 : Nat} {w_11 : Nat → Int32} {ii : Nat} {r_24 : Int32} {fpn_26 : Int32} {fn_26 : Int32} {kn_26 : Int32} {tn_26 : Nat} {tg1n_26 : Nat → Int32} (hz : z ≤ 120) (htww : tww ≤ 6) (htkk : tkk ≤ 6) (hF_1_0 : tn_1 ≤ 6) (hF_1_1 : xW fb z ((fp, f, k), tww, tg1) = ((fpn_1, fn_1, kn_1), tn_1, tg1n_1)) (hii : ii < 6) (haf_0 : (xWs fb z (6 - ii) ((w_7, w_8, w_9), w_10, w_11) = xWs fb z 6 ((fpn_1, fn_1, kn_1), tn_1, tg1n_1))) (hnb_w_10 : w_10 ≤ 6) (c_23 : w_8 = 0) (h_24 : r_24 = (bAt fb z w_9)) (c_25 : r_24 = 119) (hF_26_0 : tn_26 ≤ 6) (hF_26_1 : xW fb z ((w_7, w_8, w_9), w_10, w_11) = ((fpn_26, fn_26, kn_26), tn_26, tg1n_26)) : xWs fb z (6 - (ii + 1)) ((fpn_26, fn_26, kn_26), tn_26, tg1n_26) = xWs fb z 6 ((fpn_1, fn_1, kn_1), tn_1, tg1n_1) := by
  rw [xWs_go (s := ((w_7, w_8, w_9), w_10, w_11)) (by omega) (by grind)] at haf_0
  rw [show 6 - (ii + 1) = 6 - ii - 1 by omega, ← haf_0]
  exact congrArg _ (by grind)
theorem lf_X6_readWinds_6 {z : Nat} {fp : Int32} {f : Int32} {k : Int32} {fb : Nat → Int32} {tww : Nat} {tkk : Nat} {tg1 : Nat → Int32} {fpn_1 : Int32} {fn_1 : Int32} {kn_1 : Int32} {tn_1 : Nat} {tg1n_1 : Nat → Int32} {w_7 : Int32} {w_8 : Int32} {w_9 : Int32} {w_10 : Nat} {w_11 : Nat → Int32} (hz : z ≤ 120) (htww : tww ≤ 6) (htkk : tkk ≤ 6) (hF_1_0 : tn_1 ≤ 6) (hF_1_1 : xW fb z ((fp, f, k), tww, tg1) = ((fpn_1, fn_1, kn_1), tn_1, tg1n_1)) (haf_0 : (xWs fb z (6 - 6) ((w_7, w_8, w_9), w_10, w_11) = xWs fb z 6 ((fpn_1, fn_1, kn_1), tn_1, tg1n_1))) (hnb_w_10 : w_10 ≤ 6) : w_10 ≤ 6 := by
  first
  | omega
  | (rw [xWs_stop (s := ((w_7, w_8, w_9), w_10, w_11)) (by grind)] at haf_0; grind)
  | (have h7 : xWs fb z (6 - 6) ((w_7, w_8, w_9), w_10, w_11) = ((w_7, w_8, w_9), w_10, w_11) := rfl
     rw [h7] at haf_0
     grind)
theorem lf_X6_readWinds_7 {z : Nat} {fp : Int32} {f : Int32} {k : Int32} {fb : Nat → Int32} {tww : Nat} {tkk : Nat} {tg1 : Nat → Int32} {fpn_1 : Int32} {fn_1 : Int32} {kn_1 : Int32} {tn_1 : Nat} {tg1n_1 : Nat → Int32} {w_7 : Int32} {w_8 : Int32} {w_9 : Int32} {w_10 : Nat} {w_11 : Nat → Int32} (hz : z ≤ 120) (htww : tww ≤ 6) (htkk : tkk ≤ 6) (hF_1_0 : tn_1 ≤ 6) (hF_1_1 : xW fb z ((fp, f, k), tww, tg1) = ((fpn_1, fn_1, kn_1), tn_1, tg1n_1)) (haf_0 : (xWs fb z (6 - 6) ((w_7, w_8, w_9), w_10, w_11) = xWs fb z 6 ((fpn_1, fn_1, kn_1), tn_1, tg1n_1))) (hnb_w_10 : w_10 ≤ 6) : xWs fb z 6 (xW fb z ((fp, f, k), tww, tg1)) = ((w_7, w_8, w_9), w_10, w_11) := by
  first
  | omega
  | (rw [xWs_stop (s := ((w_7, w_8, w_9), w_10, w_11)) (by grind)] at haf_0; grind)
  | (have h7 : xWs fb z (6 - 6) ((w_7, w_8, w_9), w_10, w_11) = ((w_7, w_8, w_9), w_10, w_11) := rfl
     rw [h7] at haf_0
     grind)
set_option maxHeartbeats 4000000 in
set_option maxRecDepth 100000 in
theorem r_X6_readWinds (l : Launch) (dC : Nat → ClassId) (dI : Nat → Nat → Nat) (cI cZ cL cJ : ClassId) (sz : Nat) (h : Nat) (bs : Nat) (td : Nat) (z : Nat) (fp : Int32) (f : Int32) (k : Int32) (fb : Nat → Int32) (tv0 : Int32) (tv1 : Int32) (tv2 : Int32) (tv3 : Int32) (tv5 : Int32) (thh : Nat) (tww : Nat) (tkk : Nat) (tb1 : Nat) (tb2 : Nat) (tb3 : Nat) (tb4 : Nat) (tb5 : Nat) (tg1 : Nat → Int32) (tg2 : Nat → Int32) (tg3 : Nat → Int32) (tg4 : Nat → Int32) (tg5 : Nat → Int32) (hz : z ≤ 120) (htww : tww ≤ 6) (htkk : tkk ≤ 6) : Met l yX6_readWinds wsX6_readWinds ({ frames := 4, cells := 0, slots := 0, locals := 88 }) (va_Pc [.ref h] (fun U => U.heap.size = sz ∧ va_P (dC, dI) vwCl [(xo_6_ririii h bs (nI z) td fp f k), (xI bs cI 120 fb), (xo_3_iiiiiiiirrrrr td tv0 tv1 tv2 tv3 (nI thh) tv5 (nI tww) (nI tkk) tb1 tb2 tb3 tb4 tb5), (xI tb1 cI 6 tg1), (xI tb2 cI 6 tg2), (xI tb3 cI 6 tg3), (xI tb4 cI 6 tg4), (xI tb5 cI 6 tg5)] U.heap ∧ va_K (dC, dI) vwCl [(cI, .int), (cZ, .boolean), (cL, .object RX3), (cJ, .array .int)] U ∧ va_D (fun _ => True) [(xo_6_ririii h bs (nI z) td fp f k), (xI bs cI 120 fb), (xo_3_iiiiiiiirrrrr td tv0 tv1 tv2 tv3 (nI thh) tv5 (nI tww) (nI tkk) tb1 tb2 tb3 tb4 tb5), (xI tb1 cI 6 tg1), (xI tb2 cI 6 tg2), (xI tb3 cI 6 tg3), (xI tb4 cI 6 tg4), (xI tb5 cI 6 tg5)])) (va_Qv (fun (_ : Unit) => True) (fun (_ : Unit) t => ∃ (fpn : Int32) (fn : Int32) (kn : Int32) (tn : Nat) (tg1n : Nat → Int32), va_P (dC, dI) vwCl [(xo_6_ririii h bs (nI z) td fpn fn kn), (xI bs cI 120 fb), (xo_3_iiiiiiiirrrrr td tv0 tv1 tv2 tv3 (nI thh) tv5 (nI tn) (nI tkk) tb1 tb2 tb3 tb4 tb5), (xI tb1 cI 6 tg1n), (xI tb2 cI 6 tg2), (xI tb3 cI 6 tg3), (xI tb4 cI 6 tg4), (xI tb5 cI 6 tg5)] t.heap ∧ va_D (va_A [(xo_6_ririii h bs (nI z) td fp f k), (xI bs cI 120 fb), (xo_3_iiiiiiiirrrrr td tv0 tv1 tv2 tv3 (nI thh) tv5 (nI tww) (nI tkk) tb1 tb2 tb3 tb4 tb5), (xI tb1 cI 6 tg1), (xI tb2 cI 6 tg2), (xI tb3 cI 6 tg3), (xI tb4 cI 6 tg4), (xI tb5 cI 6 tg5)] sz) [(xo_6_ririii h bs (nI z) td fpn fn kn), (xI bs cI 120 fb), (xo_3_iiiiiiiirrrrr td tv0 tv1 tv2 tv3 (nI thh) tv5 (nI tn) (nI tkk) tb1 tb2 tb3 tb4 tb5), (xI tb1 cI 6 tg1n), (xI tb2 cI 6 tg2), (xI tb3 cI 6 tg3), (xI tb4 cI 6 tg4), (xI tb5 cI 6 tg5)] ∧ tn ≤ 6 ∧ xWs fb z 6 (xW fb z ((fp, f, k), tww, tg1)) = ((fpn, fn, kn), tn, tg1n)) (va_A [(xo_6_ririii h bs (nI z) td fp f k), (xI bs cI 120 fb), (xo_3_iiiiiiiirrrrr td tv0 tv1 tv2 tv3 (nI thh) tv5 (nI tww) (nI tkk) tb1 tb2 tb3 tb4 tb5), (xI tb1 cI 6 tg1), (xI tb2 cI 6 tg2), (xI tb3 cI 6 tg3), (xI tb4 cI 6 tg4), (xI tb5 cI 6 tg5)] sz)) 0 0 (va_A [(xo_6_ririii h bs (nI z) td fp f k), (xI bs cI 120 fb), (xo_3_iiiiiiiirrrrr td tv0 tv1 tv2 tv3 (nI thh) tv5 (nI tww) (nI tkk) tb1 tb2 tb3 tb4 tb5), (xI tb1 cI 6 tg1), (xI tb2 cI 6 tg2), (xI tb3 cI 6 tg3), (xI tb4 cI 6 tg4), (xI tb5 cI 6 tg5)] sz) := by
  refine Met.ofW (cc := cX6_readWinds) (maxL := 2) (ret := none) (by decide) rfl ?_
  intro p e s m args below meth c s₁ B hml hv
  obtain ⟨rfl, hsz, hP, hK, hD0⟩ := hv
  have hx := B.exec
  have hb := B.bytes
  have hr := B.returns
  have hts := atoms_spec (ws := wsX6_readWinds) B.pre
  have hown : s.vm.findClass RX6 = some m.cls := findClass_of_methodNamed B.named
  have hlocks := B.notSynchronized
  subst hsz
  have hD := hD0.self (sz := s.heap.size)
  generalize hAe : va_A [(xo_6_ririii h bs (nI z) td fp f k), (xI bs cI 120 fb), (xo_3_iiiiiiiirrrrr td tv0 tv1 tv2 tv3 (nI thh) tv5 (nI tww) (nI tkk) tb1 tb2 tb3 tb4 tb5), (xI tb1 cI 6 tg1), (xI tb2 cI 6 tg2), (xI tb3 cI 6 tg3), (xI tb4 cI 6 tg4), (xI tb5 cI 6 tg5)] s.heap.size = A at hD ⊢
  have hA : ∀ q : Nat, s.heap.size ≤ q → A q := fun q h => by rw [← hAe]; exact Or.inr h
  have hS : va_S A s.heap s.heap [] := va_S.rf
  have hP : va_P (dC, dI) vwCl [(xo_6_ririii h bs (nI z) td fp f k), (xI bs cI 120 fb), (xo_3_iiiiiiiirrrrr td tv0 tv1 tv2 tv3 (nI thh) tv5 (nI tww) (nI tkk) tb1 tb2 tb3 tb4 tb5), (xI tb1 cI 6 tg1), (xI tb2 cI 6 tg2), (xI tb3 cI 6 tg3), (xI tb4 cI 6 tg4), (xI tb5 cI 6 tg5)] s.heap := hP
  have hl := lv_entry ([.ref h]) (n := 2) (Nat.le_of_ble_eq_true rfl)
  rw [lg_entry_eq]
  generalize (lg_sl ([.ref h]) ++ List.replicate (2 - (lg_sl ([.ref h])).length) Slot.unset).toArray = ls at hl ⊢
  have hl : lv_has ls 2 [(0, .ref h)] := hl
  refine lv_aload_n hx hb dX6_readWinds_0 rfl (lv_at hl 0 rfl) ?_
  have hc_1 := cutW (wc := [(xo_6_ririii h bs (nI z) td fp f k), (xI bs cI 120 fb), (xo_3_iiiiiiiirrrrr td tv0 tv1 tv2 tv3 (nI thh) tv5 (nI tww) (nI tkk) tb1 tb2 tb3 tb4 tb5), (xI tb1 cI 6 tg1), (xI tb2 cI 6 tg2), (xI tb3 cI 6 tg3), (xI tb4 cI 6 tg4), (xI tb5 cI 6 tg5)]) hP hD hS hA [0, 1, 2, 3, 4, 5, 6, 7] (by decide +kernel) rfl
  refine va_callv (va_runV (As := []) (rest := []) ⟨hx, hb, hml, hown, hts⟩ (r_X6_readWind l dC dI cI cZ cL cJ s.heap.size h bs td z fp f k fb tv0 tv1 tv2 tv3 tv5 thh tww tkk tb1 tb2 tb3 tb4 tb5 tg1 tg2 tg3 tg4 tg5 (hz) (by omega) (htkk)) (cwV 0 hts gX6_readWinds_X6_readWind rfl rfl rfl (by decide +kernel) ⟨Nat.le_of_ble_eq_true rfl, Nat.le_of_ble_eq_true rfl⟩) (pvW 6 0 hK hP rfl rfl hc_1) rfl rfl hl.1 rfl (lv_room (Nat.le_of_ble_eq_true rfl)) dX6_readWinds_1 ⟨Nat.le_of_ble_eq_true rfl, Nat.le_of_ble_eq_true rfl⟩) hS (fun q _ h => hc_1.2.2 q h) hc_1.2.2 (fun u_1 t_1 H1 locs ht hvm h_1 hB hz1 hk1 hS => ?_)
  refine xl_5_4 hB (fun fpn_1 fn_1 kn_1 tn_1 tg1n_1 hP1 hD1 hF_1_0 hF_1_1 => ?_)
  clear hB
  rw [ht] at hP1
  obtain ⟨hP, hD⟩ := va_join (wr := []) (w1 := [(xo_6_ririii h bs (nI z) td fpn_1 fn_1 kn_1), (xI bs cI 120 fb), (xo_3_iiiiiiiirrrrr td tv0 tv1 tv2 tv3 (nI thh) tv5 (nI tn_1) (nI tkk) tb1 tb2 tb3 tb4 tb5), (xI tb1 cI 6 tg1n_1), (xI tb2 cI 6 tg2), (xI tb3 cI 6 tg3), (xI tb4 cI 6 tg4), (xI tb5 cI 6 tg5)]) hP hD [0, 1, 2, 3, 4, 5, 6, 7] [] rfl rfl (by decide +kernel) (by decide +kernel) hk1 hc_1.2.2 hP1 hD1
  generalize H1 = H at hP hS ⊢
  have hP : va_P (dC, dI) vwCl [(xo_6_ririii h bs (nI z) td fpn_1 fn_1 kn_1), (xI bs cI 120 fb), (xo_3_iiiiiiiirrrrr td tv0 tv1 tv2 tv3 (nI thh) tv5 (nI tn_1) (nI tkk) tb1 tb2 tb3 tb4 tb5), (xI tb1 cI 6 tg1n_1), (xI tb2 cI 6 tg2), (xI tb3 cI 6 tg3), (xI tb4 cI 6 tg4), (xI tb5 cI 6 tg5)] H := hP
  have hD := dto hP hD
  refine lv_iconst (v := 0) hx hb dX6_readWinds_4 (by decide) ?_
  refine lv_istore_n (lv' := [(1, .int 0), (0, .ref h)]) hx hb dX6_readWinds_5 rfl hl (by decide) rfl (fun ls hl => ?_)
  refine lp_go (σ := (Int32) × (Int32) × (Int32) × (Nat) × (Nat → Int32)) (fun ii (st : (Int32) × (Int32) × (Int32) × (Nat) × (Nat → Int32)) H locs ls => match st with | (w_7, w_8, w_9, w_10, w_11) => lv_has ls 2 [(1, .int (nI ii)), (0, .ref h)] ∧ va_P (dC, dI) vwCl [(xo_6_ririii h bs (nI z) td w_7 w_8 w_9), (xI bs cI 120 fb), (xo_3_iiiiiiiirrrrr td tv0 tv1 tv2 tv3 (nI thh) tv5 (nI w_10) (nI tkk) tb1 tb2 tb3 tb4 tb5), (xI tb1 cI 6 w_11), (xI tb2 cI 6 tg2), (xI tb3 cI 6 tg3), (xI tb4 cI 6 tg4), (xI tb5 cI 6 tg5)] H ∧ va_D A [(xo_6_ririii h bs (nI z) td w_7 w_8 w_9), (xI bs cI 120 fb), (xo_3_iiiiiiiirrrrr td tv0 tv1 tv2 tv3 (nI thh) tv5 (nI w_10) (nI tkk) tb1 tb2 tb3 tb4 tb5), (xI tb1 cI 6 w_11), (xI tb2 cI 6 tg2), (xI tb3 cI 6 tg3), (xI tb4 cI 6 tg4), (xI tb5 cI 6 tg5)] ∧ va_S A s.heap H locs ∧ (xWs fb z (6 - ii) ((w_7, w_8, w_9), w_10, w_11) = xWs fb z 6 ((fpn_1, fn_1, kn_1), tn_1, tg1n_1)) ∧ w_10 ≤ 6) 6 ?_ ?_ 0 (by omega) (fpn_1, fn_1, kn_1, tn_1, tg1n_1) ⟨lv_sub hl [0, 1] rfl, hP.sub (ws' := [(xo_6_ririii h bs (nI z) td fpn_1 fn_1 kn_1), (xI bs cI 120 fb), (xo_3_iiiiiiiirrrrr td tv0 tv1 tv2 tv3 (nI thh) tv5 (nI tn_1) (nI tkk) tb1 tb2 tb3 tb4 tb5), (xI tb1 cI 6 tg1n_1), (xI tb2 cI 6 tg2), (xI tb3 cI 6 tg3), (xI tb4 cI 6 tg4), (xI tb5 cI 6 tg5)]) [0, 1, 2, 3, 4, 5, 6, 7] rfl, hD.sub (ws' := [(xo_6_ririii h bs (nI z) td fpn_1 fn_1 kn_1), (xI bs cI 120 fb), (xo_3_iiiiiiiirrrrr td tv0 tv1 tv2 tv3 (nI thh) tv5 (nI tn_1) (nI tkk) tb1 tb2 tb3 tb4 tb5), (xI tb1 cI 6 tg1n_1), (xI tb2 cI 6 tg2), (xI tb3 cI 6 tg3), (xI tb4 cI 6 tg4), (xI tb5 cI 6 tg5)]) [0, 1, 2, 3, 4, 5, 6, 7] (by decide +kernel) rfl, hS, rfl, (by omega)⟩
  · rintro ii ⟨w_7, w_8, w_9, w_10, w_11⟩ H locs ls hii ⟨hl, hP, hD, hS, haf_0, hnb_w_10⟩ ih
    refine lv_iload_n hx hb dX6_readWinds_6 rfl (lv_at hl 0 rfl) ?_
    refine lv_bipush (v := 6) hx hb dX6_readWinds_7 (by decide) ?_
    refine lv_icmp_ge (tgt := 42) hx hb dX6_readWinds_9 (by decide) (fun c_ => absurd c_ (fun q_ => absurd ((nI_leI (a := 6) (b := ii) (by omega) (by omega)).mp q_) (by omega))) (fun _ => ?_)
    refine lv_aload_n hx hb dX6_readWinds_12 rfl (lv_at hl 1 rfl) ?_
    refine va_get (D := (dC, dI)) (ci := 6) (v := .int w_8) (C := RX6) (T := TX6) (N := 6) hx hb hts i_X6_readWinds_X6 hown hK hP 0 rfl rfl 4 (by decide) (hts _ mx_X6_readWinds_1) (fun _ h9 => h9) rfl dX6_readWinds_13 ?_
    refine lv_if_ne (tgt := 42) hx hb dX6_readWinds_16 (by decide) (fun c_23 => ?_) (fun c_23 => ?_)
    · skip
      have hX9 := cut2 (wc := [(xo_6_ririii h bs (nI z) td w_7 w_8 w_9), (xI bs cI 120 fb), (xo_3_iiiiiiiirrrrr td tv0 tv1 tv2 tv3 (nI thh) tv5 (nI w_10) (nI tkk) tb1 tb2 tb3 tb4 tb5), (xI tb1 cI 6 w_11), (xI tb2 cI 6 tg2), (xI tb3 cI 6 tg3), (xI tb4 cI 6 tg4), (xI tb5 cI 6 tg5)]) hP hD [0, 1, 2, 3, 4, 5, 6, 7] (by decide +kernel) rfl
      exact W.vret hx hb hr (fun t ht hW => ⟨⟨(), rfl, trivial, ⟨w_7, w_8, w_9, w_10, w_11, va_Ht ht hX9.1, hX9.2, (lf_X6_readWinds_1 hz htww htkk hF_1_0 hF_1_1 hii haf_0 hnb_w_10 c_23), (lf_X6_readWinds_2 hz htww htkk hF_1_0 hF_1_1 hii haf_0 hnb_w_10 c_23)⟩⟩, hS.F ht⟩) hS.2.2 dX6_readWinds_42
    · skip
      refine lv_aload_n hx hb dX6_readWinds_19 rfl (lv_at hl 1 rfl) ?_
      refine lv_aload_n hx hb dX6_readWinds_20 rfl (lv_at hl 1 rfl) ?_
      refine va_get (D := (dC, dI)) (ci := 6) (v := .int w_9) (C := RX6) (T := TX6) (N := 6) hx hb hts i_X6_readWinds_X6 hown hK hP 0 rfl rfl 5 (by decide) (hts _ mx_X6_readWinds_2) (fun _ h9 => h9) rfl dX6_readWinds_21 ?_
      have hPc_24 := hP.sub (ws' := [(xo_6_ririii h bs (nI z) td w_7 w_8 w_9), (xI bs cI 120 fb)]) [0, 1] rfl
      refine vp_callSi (W.runV (As := [.int w_9]) (rest := []) ⟨hx, hb, hml, hown, hts⟩ (r_X6_byteAt l dC dI cI cZ cL cJ h bs td z w_7 w_8 w_9 fb w_9 (hz)) (cwV 1 hts gX6_readWinds_X6_byteAt rfl rfl rfl (by decide +kernel) ⟨Nat.le_of_ble_eq_true rfl, Nat.le_of_ble_eq_true rfl⟩) (pvP 6 0 hK hP rfl rfl hPc_24) rfl rfl hl.1 rfl (lv_room (Nat.le_of_ble_eq_true rfl)) dX6_readWinds_24 ⟨Nat.le_of_ble_eq_true rfl, Nat.le_of_ble_eq_true rfl⟩) (fun r_24 h_24 => ?_)
      refine lv_bipush (v := 119) hx hb dX6_readWinds_27 (by decide) ?_
      refine lv_icmp_ne (tgt := 42) hx hb dX6_readWinds_29 (by decide) (fun c_25 => ?_) (fun c_25 => ?_)
      · skip
        have hX9 := cut2 (wc := [(xo_6_ririii h bs (nI z) td w_7 w_8 w_9), (xI bs cI 120 fb), (xo_3_iiiiiiiirrrrr td tv0 tv1 tv2 tv3 (nI thh) tv5 (nI w_10) (nI tkk) tb1 tb2 tb3 tb4 tb5), (xI tb1 cI 6 w_11), (xI tb2 cI 6 tg2), (xI tb3 cI 6 tg3), (xI tb4 cI 6 tg4), (xI tb5 cI 6 tg5)]) hP hD [0, 1, 2, 3, 4, 5, 6, 7] (by decide +kernel) rfl
        exact W.vret hx hb hr (fun t ht hW => ⟨⟨(), rfl, trivial, ⟨w_7, w_8, w_9, w_10, w_11, va_Ht ht hX9.1, hX9.2, (lf_X6_readWinds_3 hz htww htkk hF_1_0 hF_1_1 hii haf_0 hnb_w_10 c_23 h_24 c_25), (lf_X6_readWinds_4 hz htww htkk hF_1_0 hF_1_1 hii haf_0 hnb_w_10 c_23 h_24 c_25)⟩⟩, hS.F ht⟩) hS.2.2 dX6_readWinds_42
      · skip
        refine lv_aload_n hx hb dX6_readWinds_32 rfl (lv_at hl 1 rfl) ?_
        have hc_26 := cutW (wc := [(xo_6_ririii h bs (nI z) td w_7 w_8 w_9), (xI bs cI 120 fb), (xo_3_iiiiiiiirrrrr td tv0 tv1 tv2 tv3 (nI thh) tv5 (nI w_10) (nI tkk) tb1 tb2 tb3 tb4 tb5), (xI tb1 cI 6 w_11), (xI tb2 cI 6 tg2), (xI tb3 cI 6 tg3), (xI tb4 cI 6 tg4), (xI tb5 cI 6 tg5)]) hP hD hS hA [0, 1, 2, 3, 4, 5, 6, 7] (by decide +kernel) rfl
        refine va_callv (va_runV (As := []) (rest := []) ⟨hx, hb, hml, hown, hts⟩ (r_X6_readWind l dC dI cI cZ cL cJ H.size h bs td z w_7 w_8 w_9 fb tv0 tv1 tv2 tv3 tv5 thh w_10 tkk tb1 tb2 tb3 tb4 tb5 w_11 tg2 tg3 tg4 tg5 (hz) (by omega) (htkk)) (cwV 0 hts gX6_readWinds_X6_readWind rfl rfl rfl (by decide +kernel) ⟨Nat.le_of_ble_eq_true rfl, Nat.le_of_ble_eq_true rfl⟩) (pvW 6 0 hK hP rfl rfl hc_26) rfl rfl hl.1 rfl (lv_room (Nat.le_of_ble_eq_true rfl)) dX6_readWinds_33 ⟨Nat.le_of_ble_eq_true rfl, Nat.le_of_ble_eq_true rfl⟩) hS (fun q _ h => hc_26.2.2 q h) hc_26.2.2 (fun u_26 t_26 H1 locs ht hvm h_26 hB hz1 hk1 hS => ?_)
        refine xl_5_4 hB (fun fpn_26 fn_26 kn_26 tn_26 tg1n_26 hP1 hD1 hF_26_0 hF_26_1 => ?_)
        clear hB
        rw [ht] at hP1
        obtain ⟨hP, hD⟩ := va_join (wr := []) (w1 := [(xo_6_ririii h bs (nI z) td fpn_26 fn_26 kn_26), (xI bs cI 120 fb), (xo_3_iiiiiiiirrrrr td tv0 tv1 tv2 tv3 (nI thh) tv5 (nI tn_26) (nI tkk) tb1 tb2 tb3 tb4 tb5), (xI tb1 cI 6 tg1n_26), (xI tb2 cI 6 tg2), (xI tb3 cI 6 tg3), (xI tb4 cI 6 tg4), (xI tb5 cI 6 tg5)]) hP hD [0, 1, 2, 3, 4, 5, 6, 7] [] rfl rfl (by decide +kernel) (by decide +kernel) hk1 hc_26.2.2 hP1 hD1
        generalize H1 = H at hP hS ⊢
        have hP : va_P (dC, dI) vwCl [(xo_6_ririii h bs (nI z) td fpn_26 fn_26 kn_26), (xI bs cI 120 fb), (xo_3_iiiiiiiirrrrr td tv0 tv1 tv2 tv3 (nI thh) tv5 (nI tn_26) (nI tkk) tb1 tb2 tb3 tb4 tb5), (xI tb1 cI 6 tg1n_26), (xI tb2 cI 6 tg2), (xI tb3 cI 6 tg3), (xI tb4 cI 6 tg4), (xI tb5 cI 6 tg5)] H := hP
        have hD := dto hP hD
        refine lv_iinc (v := (nI (ii + 1))) (lv' := [(1, .int (nI (ii + 1))), (0, .ref h)]) hx hb dX6_readWinds_36 hl (k := 0) rfl (nI_add ii 1) (by decide) rfl (fun ls hl => ?_)
        refine lv_goto (tgt := 6) hx hb dX6_readWinds_39 (by decide) ?_
        exact ih (fpn_26, fn_26, kn_26, tn_26, tg1n_26) _ _ _ ⟨lv_sub hl [0, 1] rfl, hP.sub (ws' := [(xo_6_ririii h bs (nI z) td fpn_26 fn_26 kn_26), (xI bs cI 120 fb), (xo_3_iiiiiiiirrrrr td tv0 tv1 tv2 tv3 (nI thh) tv5 (nI tn_26) (nI tkk) tb1 tb2 tb3 tb4 tb5), (xI tb1 cI 6 tg1n_26), (xI tb2 cI 6 tg2), (xI tb3 cI 6 tg3), (xI tb4 cI 6 tg4), (xI tb5 cI 6 tg5)]) [0, 1, 2, 3, 4, 5, 6, 7] rfl, hD.sub (ws' := [(xo_6_ririii h bs (nI z) td fpn_26 fn_26 kn_26), (xI bs cI 120 fb), (xo_3_iiiiiiiirrrrr td tv0 tv1 tv2 tv3 (nI thh) tv5 (nI tn_26) (nI tkk) tb1 tb2 tb3 tb4 tb5), (xI tb1 cI 6 tg1n_26), (xI tb2 cI 6 tg2), (xI tb3 cI 6 tg3), (xI tb4 cI 6 tg4), (xI tb5 cI 6 tg5)]) [0, 1, 2, 3, 4, 5, 6, 7] (by decide +kernel) rfl, hS, (lf_X6_readWinds_5 hz htww htkk hF_1_0 hF_1_1 hii haf_0 hnb_w_10 c_23 h_24 c_25 hF_26_0 hF_26_1), (by omega)⟩
  · rintro ⟨w_7, w_8, w_9, w_10, w_11⟩ H locs ls ⟨hl, hP, hD, hS, haf_0, hnb_w_10⟩
    refine lv_iload_n hx hb dX6_readWinds_6 rfl (lv_at hl 0 rfl) ?_
    refine lv_bipush (v := 6) hx hb dX6_readWinds_7 (by decide) ?_
    refine lv_icmp_ge (tgt := 42) hx hb dX6_readWinds_9 (by decide) (fun _ => ?_) (fun c_ => absurd ((nI_leI (a := 6) (b := 6) (by omega) (by omega)).mpr (by omega)) c_)
    have hX9 := cut2 (wc := [(xo_6_ririii h bs (nI z) td w_7 w_8 w_9), (xI bs cI 120 fb), (xo_3_iiiiiiiirrrrr td tv0 tv1 tv2 tv3 (nI thh) tv5 (nI w_10) (nI tkk) tb1 tb2 tb3 tb4 tb5), (xI tb1 cI 6 w_11), (xI tb2 cI 6 tg2), (xI tb3 cI 6 tg3), (xI tb4 cI 6 tg4), (xI tb5 cI 6 tg5)]) hP hD [0, 1, 2, 3, 4, 5, 6, 7] (by decide +kernel) rfl
    exact W.vret hx hb hr (fun t ht hW => ⟨⟨(), rfl, trivial, ⟨w_7, w_8, w_9, w_10, w_11, va_Ht ht hX9.1, hX9.2, (lf_X6_readWinds_6 hz htww htkk hF_1_0 hF_1_1 haf_0 hnb_w_10), (lf_X6_readWinds_7 hz htww htkk hF_1_0 hF_1_1 haf_0 hnb_w_10)⟩⟩, hS.F ht⟩) hS.2.2 dX6_readWinds_42
theorem lf_X6_readSound_1 {z : Nat} {fp : Int32} {f : Int32} {k : Int32} {fb : Nat → Int32} {tv0 : Int32} {thh : Nat} {tww : Nat} {tkk : Nat} {r_1 : Int32} {r_2 : Int32} {v_5 : Int32} {v_6 : Int32} {fpn_7 : Int32} {fn_7 : Int32} {kn_7 : Int32} {r_7 : Int32} {fpn_8 : Int32} {fn_8 : Int32} {kn_8 : Int32} {fpn_9 : Int32} {fn_9 : Int32} {kn_9 : Int32} {r_9 : Int32} {fpn_10 : Int32} {fn_10 : Int32} {kn_10 : Int32} (thb : thh ≤ 999) (hz : z ≤ 120) (htww : tww ≤ 6) (htkk : tkk ≤ 6) (h_1 : r_1 = (bAt fb z k)) (h_2 : r_2 = (kindX r_1)) (c_3 : ¬ (r_2 = 0)) (c_4 : tkk < 6) (e_5 : v_5 = (k + 1)) (e_6 : v_6 = (tv0 - 1)) (hF_7_0 : (fn_7 = 0 → f = 0)) (hF_7_1 : rN fb z 0 v_6 (fp, f, v_5) = (fpn_7, fn_7, kn_7)) (h_7 : r_7 = (rV fb z 0 v_6 v_5)) (hF_8_0 : (fn_8 = 0 → fn_7 = 0 ∧ bAt fb z kn_7 = 44)) (hF_8_1 : rB fb z 44 (fpn_7, fn_7, kn_7) = (fpn_8, fn_8, kn_8)) (hF_9_0 : (fn_9 = 0 → fn_8 = 0)) (hF_9_1 : rN fb z 1 20 (fpn_8, fn_8, kn_8) = (fpn_9, fn_9, kn_9)) (h_9 : r_9 = (rV fb z 1 20 kn_8)) (hF_10_0 : (fn_10 = 0 → fn_9 = 0 ∧ bAt fb z kn_9 = 59)) (hF_10_1 : rB fb z 59 (fpn_9, fn_9, kn_9) = (fpn_10, fn_10, kn_10)) (c_11 : ¬ (fn_10 = 0)) : tkk ≤ 6 := by
  first
  | omega
  | (simp only [xS, xSc, xSb, xSa, xS0]; grind)
theorem lf_X6_readSound_2 {z : Nat} {fp : Int32} {f : Int32} {k : Int32} {fb : Nat → Int32} {tv0 : Int32} {thh : Nat} {tww : Nat} {tkk : Nat} {tg2 : Nat → Int32} {tg3 : Nat → Int32} {tg4 : Nat → Int32} {tg5 : Nat → Int32} {r_1 : Int32} {r_2 : Int32} {v_5 : Int32} {v_6 : Int32} {fpn_7 : Int32} {fn_7 : Int32} {kn_7 : Int32} {r_7 : Int32} {fpn_8 : Int32} {fn_8 : Int32} {kn_8 : Int32} {fpn_9 : Int32} {fn_9 : Int32} {kn_9 : Int32} {r_9 : Int32} {fpn_10 : Int32} {fn_10 : Int32} {kn_10 : Int32} (thb : thh ≤ 999) (hz : z ≤ 120) (htww : tww ≤ 6) (htkk : tkk ≤ 6) (h_1 : r_1 = (bAt fb z k)) (h_2 : r_2 = (kindX r_1)) (c_3 : ¬ (r_2 = 0)) (c_4 : tkk < 6) (e_5 : v_5 = (k + 1)) (e_6 : v_6 = (tv0 - 1)) (hF_7_0 : (fn_7 = 0 → f = 0)) (hF_7_1 : rN fb z 0 v_6 (fp, f, v_5) = (fpn_7, fn_7, kn_7)) (h_7 : r_7 = (rV fb z 0 v_6 v_5)) (hF_8_0 : (fn_8 = 0 → fn_7 = 0 ∧ bAt fb z kn_7 = 44)) (hF_8_1 : rB fb z 44 (fpn_7, fn_7, kn_7) = (fpn_8, fn_8, kn_8)) (hF_9_0 : (fn_9 = 0 → fn_8 = 0)) (hF_9_1 : rN fb z 1 20 (fpn_8, fn_8, kn_8) = (fpn_9, fn_9, kn_9)) (h_9 : r_9 = (rV fb z 1 20 kn_8)) (hF_10_0 : (fn_10 = 0 → fn_9 = 0 ∧ bAt fb z kn_9 = 59)) (hF_10_1 : rB fb z 59 (fpn_9, fn_9, kn_9) = (fpn_10, fn_10, kn_10)) (c_11 : ¬ (fn_10 = 0)) : xS fb z tv0 ((fp, f, k), tkk, tg2, tg3, tg4, tg5) = ((fpn_10, fn_10, kn_10), tkk, tg2, tg3, tg4, tg5) := by
  first
  | omega
  | (simp only [xS, xSc, xSb, xSa, xS0]; grind)
theorem lf_X6_readSound_3 {z : Nat} {fp : Int32} {f : Int32} {k : Int32} {fb : Nat → Int32} {tv0 : Int32} {thh : Nat} {tww : Nat} {tkk : Nat} {r_1 : Int32} {r_2 : Int32} {v_5 : Int32} {v_6 : Int32} {fpn_7 : Int32} {fn_7 : Int32} {kn_7 : Int32} {r_7 : Int32} {fpn_8 : Int32} {fn_8 : Int32} {kn_8 : Int32} {fpn_9 : Int32} {fn_9 : Int32} {kn_9 : Int32} {r_9 : Int32} {fpn_10 : Int32} {fn_10 : Int32} {kn_10 : Int32} (thb : thh ≤ 999) (hz : z ≤ 120) (htww : tww ≤ 6) (htkk : tkk ≤ 6) (h_1 : r_1 = (bAt fb z k)) (h_2 : r_2 = (kindX r_1)) (c_3 : ¬ (r_2 = 0)) (c_4 : tkk < 6) (e_5 : v_5 = (k + 1)) (e_6 : v_6 = (tv0 - 1)) (hF_7_0 : (fn_7 = 0 → f = 0)) (hF_7_1 : rN fb z 0 v_6 (fp, f, v_5) = (fpn_7, fn_7, kn_7)) (h_7 : r_7 = (rV fb z 0 v_6 v_5)) (hF_8_0 : (fn_8 = 0 → fn_7 = 0 ∧ bAt fb z kn_7 = 44)) (hF_8_1 : rB fb z 44 (fpn_7, fn_7, kn_7) = (fpn_8, fn_8, kn_8)) (hF_9_0 : (fn_9 = 0 → fn_8 = 0)) (hF_9_1 : rN fb z 1 20 (fpn_8, fn_8, kn_8) = (fpn_9, fn_9, kn_9)) (h_9 : r_9 = (rV fb z 1 20 kn_8)) (hF_10_0 : (fn_10 = 0 → fn_9 = 0 ∧ bAt fb z kn_9 = 59)) (hF_10_1 : rB fb z 59 (fpn_9, fn_9, kn_9) = (fpn_10, fn_10, kn_10)) (c_11 : fn_10 = 0) : tkk < 6 := by
  grind
theorem lf_X6_readSound_4 {z : Nat} {fp : Int32} {f : Int32} {k : Int32} {fb : Nat → Int32} {tv0 : Int32} {thh : Nat} {tww : Nat} {tkk : Nat} {tg2 : Nat → Int32} {tg3 : Nat → Int32} {tg4 : Nat → Int32} {tg5 : Nat → Int32} {r_1 : Int32} {r_2 : Int32} {v_5 : Int32} {v_6 : Int32} {fpn_7 : Int32} {fn_7 : Int32} {kn_7 : Int32} {r_7 : Int32} {fpn_8 : Int32} {fn_8 : Int32} {kn_8 : Int32} {fpn_9 : Int32} {fn_9 : Int32} {kn_9 : Int32} {r_9 : Int32} {fpn_10 : Int32} {fn_10 : Int32} {kn_10 : Int32} {g_12 : Nat → Int32} {g3n_13 : Nat → Int32} {g4n_13 : Nat → Int32} {g5n_13 : Nat → Int32} (thb : thh ≤ 999) (hz : z ≤ 120) (htww : tww ≤ 6) (htkk : tkk ≤ 6) (h_1 : r_1 = (bAt fb z k)) (h_2 : r_2 = (kindX r_1)) (c_3 : ¬ (r_2 = 0)) (c_4 : tkk < 6) (e_5 : v_5 = (k + 1)) (e_6 : v_6 = (tv0 - 1)) (hF_7_0 : (fn_7 = 0 → f = 0)) (hF_7_1 : rN fb z 0 v_6 (fp, f, v_5) = (fpn_7, fn_7, kn_7)) (h_7 : r_7 = (rV fb z 0 v_6 v_5)) (hF_8_0 : (fn_8 = 0 → fn_7 = 0 ∧ bAt fb z kn_7 = 44)) (hF_8_1 : rB fb z 44 (fpn_7, fn_7, kn_7) = (fpn_8, fn_8, kn_8)) (hF_9_0 : (fn_9 = 0 → fn_8 = 0)) (hF_9_1 : rN fb z 1 20 (fpn_8, fn_8, kn_8) = (fpn_9, fn_9, kn_9)) (h_9 : r_9 = (rV fb z 1 20 kn_8)) (hF_10_0 : (fn_10 = 0 → fn_9 = 0 ∧ bAt fb z kn_9 = 59)) (hF_10_1 : rB fb z 59 (fpn_9, fn_9, kn_9) = (fpn_10, fn_10, kn_10)) (c_11 : fn_10 = 0) (hw6 : tkk < 6) (hu_12 : g_12 = upd tg2 tkk r_2) (hF_13_0 : g3n_13 = upd tg3 tkk r_7) (hF_13_1 : g4n_13 = upd tg4 tkk r_9) (hF_13_2 : g5n_13 = upd tg5 tkk 0) : (tkk + 1) ≤ 6 := by
  first
  | omega
  | (simp only [xS, xSc, xSb, xSa, xS0]; grind)
theorem lf_X6_readSound_5 {z : Nat} {fp : Int32} {f : Int32} {k : Int32} {fb : Nat → Int32} {tv0 : Int32} {thh : Nat} {tww : Nat} {tkk : Nat} {tg2 : Nat → Int32} {tg3 : Nat → Int32} {tg4 : Nat → Int32} {tg5 : Nat → Int32} {r_1 : Int32} {r_2 : Int32} {v_5 : Int32} {v_6 : Int32} {fpn_7 : Int32} {fn_7 : Int32} {kn_7 : Int32} {r_7 : Int32} {fpn_8 : Int32} {fn_8 : Int32} {kn_8 : Int32} {fpn_9 : Int32} {fn_9 : Int32} {kn_9 : Int32} {r_9 : Int32} {fpn_10 : Int32} {fn_10 : Int32} {kn_10 : Int32} {g_12 : Nat → Int32} {g3n_13 : Nat → Int32} {g4n_13 : Nat → Int32} {g5n_13 : Nat → Int32} (thb : thh ≤ 999) (hz : z ≤ 120) (htww : tww ≤ 6) (htkk : tkk ≤ 6) (h_1 : r_1 = (bAt fb z k)) (h_2 : r_2 = (kindX r_1)) (c_3 : ¬ (r_2 = 0)) (c_4 : tkk < 6) (e_5 : v_5 = (k + 1)) (e_6 : v_6 = (tv0 - 1)) (hF_7_0 : (fn_7 = 0 → f = 0)) (hF_7_1 : rN fb z 0 v_6 (fp, f, v_5) = (fpn_7, fn_7, kn_7)) (h_7 : r_7 = (rV fb z 0 v_6 v_5)) (hF_8_0 : (fn_8 = 0 → fn_7 = 0 ∧ bAt fb z kn_7 = 44)) (hF_8_1 : rB fb z 44 (fpn_7, fn_7, kn_7) = (fpn_8, fn_8, kn_8)) (hF_9_0 : (fn_9 = 0 → fn_8 = 0)) (hF_9_1 : rN fb z 1 20 (fpn_8, fn_8, kn_8) = (fpn_9, fn_9, kn_9)) (h_9 : r_9 = (rV fb z 1 20 kn_8)) (hF_10_0 : (fn_10 = 0 → fn_9 = 0 ∧ bAt fb z kn_9 = 59)) (hF_10_1 : rB fb z 59 (fpn_9, fn_9, kn_9) = (fpn_10, fn_10, kn_10)) (c_11 : fn_10 = 0) (hw6 : tkk < 6) (hu_12 : g_12 = upd tg2 tkk r_2) (hF_13_0 : g3n_13 = upd tg3 tkk r_7) (hF_13_1 : g4n_13 = upd tg4 tkk r_9) (hF_13_2 : g5n_13 = upd tg5 tkk 0) : xS fb z tv0 ((fp, f, k), tkk, tg2, tg3, tg4, tg5) = ((fpn_10, fn_10, kn_10), (tkk + 1), g_12, g3n_13, g4n_13, g5n_13) := by
  first
  | omega
  | (simp only [xS, xSc, xSb, xSa, xS0]; grind)
theorem lf_X6_readSound_6 {z : Nat} {fp : Int32} {f : Int32} {k : Int32} {fb : Nat → Int32} {tv0 : Int32} {thh : Nat} {tww : Nat} {tkk : Nat} {r_1 : Int32} {r_2 : Int32} {fpn_15 : Int32} {fn_15 : Int32} {v_16 : Int32} {v_17 : Int32} {fpn_18 : Int32} {fn_18 : Int32} {kn_18 : Int32} {r_18 : Int32} {fpn_19 : Int32} {fn_19 : Int32} {kn_19 : Int32} {fpn_20 : Int32} {fn_20 : Int32} {kn_20 : Int32} {r_20 : Int32} {fpn_21 : Int32} {fn_21 : Int32} {kn_21 : Int32} (thb : thh ≤ 999) (hz : z ≤ 120) (htww : tww ≤ 6) (htkk : tkk ≤ 6) (h_1 : r_1 = (bAt fb z k)) (h_2 : r_2 = (kindX r_1)) (c_3 : ¬ (r_2 = 0)) (c_4 : ¬ (tkk < 6)) (hF_15_0 : (¬ (3 : Int32) = 0 → ¬ fn_15 = 0)) (hF_15_1 : (¬ f = 0 → fn_15 = f)) (hF_15_2 : rF 3 (fp, f, k) = (fpn_15, fn_15, k)) (e_16 : v_16 = (k + 1)) (e_17 : v_17 = (tv0 - 1)) (hF_18_0 : (fn_18 = 0 → fn_15 = 0)) (hF_18_1 : rN fb z 0 v_17 (fpn_15, fn_15, v_16) = (fpn_18, fn_18, kn_18)) (h_18 : r_18 = (rV fb z 0 v_17 v_16)) (hF_19_0 : (fn_19 = 0 → fn_18 = 0 ∧ bAt fb z kn_18 = 44)) (hF_19_1 : rB fb z 44 (fpn_18, fn_18, kn_18) = (fpn_19, fn_19, kn_19)) (hF_20_0 : (fn_20 = 0 → fn_19 = 0)) (hF_20_1 : rN fb z 1 20 (fpn_19, fn_19, kn_19) = (fpn_20, fn_20, kn_20)) (h_20 : r_20 = (rV fb z 1 20 kn_19)) (hF_21_0 : (fn_21 = 0 → fn_20 = 0 ∧ bAt fb z kn_20 = 59)) (hF_21_1 : rB fb z 59 (fpn_20, fn_20, kn_20) = (fpn_21, fn_21, kn_21)) (c_22 : ¬ (fn_21 = 0)) : tkk ≤ 6 := by
  first
  | omega
  | (simp only [xS, xSc, xSb, xSa, xS0]; grind)
theorem lf_X6_readSound_7 {z : Nat} {fp : Int32} {f : Int32} {k : Int32} {fb : Nat → Int32} {tv0 : Int32} {thh : Nat} {tww : Nat} {tkk : Nat} {tg2 : Nat → Int32} {tg3 : Nat → Int32} {tg4 : Nat → Int32} {tg5 : Nat → Int32} {r_1 : Int32} {r_2 : Int32} {fpn_15 : Int32} {fn_15 : Int32} {v_16 : Int32} {v_17 : Int32} {fpn_18 : Int32} {fn_18 : Int32} {kn_18 : Int32} {r_18 : Int32} {fpn_19 : Int32} {fn_19 : Int32} {kn_19 : Int32} {fpn_20 : Int32} {fn_20 : Int32} {kn_20 : Int32} {r_20 : Int32} {fpn_21 : Int32} {fn_21 : Int32} {kn_21 : Int32} (thb : thh ≤ 999) (hz : z ≤ 120) (htww : tww ≤ 6) (htkk : tkk ≤ 6) (h_1 : r_1 = (bAt fb z k)) (h_2 : r_2 = (kindX r_1)) (c_3 : ¬ (r_2 = 0)) (c_4 : ¬ (tkk < 6)) (hF_15_0 : (¬ (3 : Int32) = 0 → ¬ fn_15 = 0)) (hF_15_1 : (¬ f = 0 → fn_15 = f)) (hF_15_2 : rF 3 (fp, f, k) = (fpn_15, fn_15, k)) (e_16 : v_16 = (k + 1)) (e_17 : v_17 = (tv0 - 1)) (hF_18_0 : (fn_18 = 0 → fn_15 = 0)) (hF_18_1 : rN fb z 0 v_17 (fpn_15, fn_15, v_16) = (fpn_18, fn_18, kn_18)) (h_18 : r_18 = (rV fb z 0 v_17 v_16)) (hF_19_0 : (fn_19 = 0 → fn_18 = 0 ∧ bAt fb z kn_18 = 44)) (hF_19_1 : rB fb z 44 (fpn_18, fn_18, kn_18) = (fpn_19, fn_19, kn_19)) (hF_20_0 : (fn_20 = 0 → fn_19 = 0)) (hF_20_1 : rN fb z 1 20 (fpn_19, fn_19, kn_19) = (fpn_20, fn_20, kn_20)) (h_20 : r_20 = (rV fb z 1 20 kn_19)) (hF_21_0 : (fn_21 = 0 → fn_20 = 0 ∧ bAt fb z kn_20 = 59)) (hF_21_1 : rB fb z 59 (fpn_20, fn_20, kn_20) = (fpn_21, fn_21, kn_21)) (c_22 : ¬ (fn_21 = 0)) : xS fb z tv0 ((fp, f, k), tkk, tg2, tg3, tg4, tg5) = ((fpn_21, fn_21, kn_21), tkk, tg2, tg3, tg4, tg5) := by
  first
  | omega
  | (simp only [xS, xSc, xSb, xSa, xS0]; grind)
theorem lf_X6_readSound_8 {z : Nat} {fp : Int32} {f : Int32} {k : Int32} {fb : Nat → Int32} {tv0 : Int32} {thh : Nat} {tww : Nat} {tkk : Nat} {r_1 : Int32} {r_2 : Int32} {fpn_15 : Int32} {fn_15 : Int32} {v_16 : Int32} {v_17 : Int32} {fpn_18 : Int32} {fn_18 : Int32} {kn_18 : Int32} {r_18 : Int32} {fpn_19 : Int32} {fn_19 : Int32} {kn_19 : Int32} {fpn_20 : Int32} {fn_20 : Int32} {kn_20 : Int32} {r_20 : Int32} {fpn_21 : Int32} {fn_21 : Int32} {kn_21 : Int32} (thb : thh ≤ 999) (hz : z ≤ 120) (htww : tww ≤ 6) (htkk : tkk ≤ 6) (h_1 : r_1 = (bAt fb z k)) (h_2 : r_2 = (kindX r_1)) (c_3 : ¬ (r_2 = 0)) (c_4 : ¬ (tkk < 6)) (hF_15_0 : (¬ (3 : Int32) = 0 → ¬ fn_15 = 0)) (hF_15_1 : (¬ f = 0 → fn_15 = f)) (hF_15_2 : rF 3 (fp, f, k) = (fpn_15, fn_15, k)) (e_16 : v_16 = (k + 1)) (e_17 : v_17 = (tv0 - 1)) (hF_18_0 : (fn_18 = 0 → fn_15 = 0)) (hF_18_1 : rN fb z 0 v_17 (fpn_15, fn_15, v_16) = (fpn_18, fn_18, kn_18)) (h_18 : r_18 = (rV fb z 0 v_17 v_16)) (hF_19_0 : (fn_19 = 0 → fn_18 = 0 ∧ bAt fb z kn_18 = 44)) (hF_19_1 : rB fb z 44 (fpn_18, fn_18, kn_18) = (fpn_19, fn_19, kn_19)) (hF_20_0 : (fn_20 = 0 → fn_19 = 0)) (hF_20_1 : rN fb z 1 20 (fpn_19, fn_19, kn_19) = (fpn_20, fn_20, kn_20)) (h_20 : r_20 = (rV fb z 1 20 kn_19)) (hF_21_0 : (fn_21 = 0 → fn_20 = 0 ∧ bAt fb z kn_20 = 59)) (hF_21_1 : rB fb z 59 (fpn_20, fn_20, kn_20) = (fpn_21, fn_21, kn_21)) (c_22 : fn_21 = 0) : tkk < 6 := by
  grind
theorem lf_X6_readSound_9 {z : Nat} {fp : Int32} {f : Int32} {k : Int32} {fb : Nat → Int32} {tv0 : Int32} {thh : Nat} {tww : Nat} {tkk : Nat} {tg2 : Nat → Int32} {tg3 : Nat → Int32} {tg4 : Nat → Int32} {tg5 : Nat → Int32} {r_1 : Int32} {r_2 : Int32} {fpn_15 : Int32} {fn_15 : Int32} {v_16 : Int32} {v_17 : Int32} {fpn_18 : Int32} {fn_18 : Int32} {kn_18 : Int32} {r_18 : Int32} {fpn_19 : Int32} {fn_19 : Int32} {kn_19 : Int32} {fpn_20 : Int32} {fn_20 : Int32} {kn_20 : Int32} {r_20 : Int32} {fpn_21 : Int32} {fn_21 : Int32} {kn_21 : Int32} {g_23 : Nat → Int32} {g3n_24 : Nat → Int32} {g4n_24 : Nat → Int32} {g5n_24 : Nat → Int32} (thb : thh ≤ 999) (hz : z ≤ 120) (htww : tww ≤ 6) (htkk : tkk ≤ 6) (h_1 : r_1 = (bAt fb z k)) (h_2 : r_2 = (kindX r_1)) (c_3 : ¬ (r_2 = 0)) (c_4 : ¬ (tkk < 6)) (hF_15_0 : (¬ (3 : Int32) = 0 → ¬ fn_15 = 0)) (hF_15_1 : (¬ f = 0 → fn_15 = f)) (hF_15_2 : rF 3 (fp, f, k) = (fpn_15, fn_15, k)) (e_16 : v_16 = (k + 1)) (e_17 : v_17 = (tv0 - 1)) (hF_18_0 : (fn_18 = 0 → fn_15 = 0)) (hF_18_1 : rN fb z 0 v_17 (fpn_15, fn_15, v_16) = (fpn_18, fn_18, kn_18)) (h_18 : r_18 = (rV fb z 0 v_17 v_16)) (hF_19_0 : (fn_19 = 0 → fn_18 = 0 ∧ bAt fb z kn_18 = 44)) (hF_19_1 : rB fb z 44 (fpn_18, fn_18, kn_18) = (fpn_19, fn_19, kn_19)) (hF_20_0 : (fn_20 = 0 → fn_19 = 0)) (hF_20_1 : rN fb z 1 20 (fpn_19, fn_19, kn_19) = (fpn_20, fn_20, kn_20)) (h_20 : r_20 = (rV fb z 1 20 kn_19)) (hF_21_0 : (fn_21 = 0 → fn_20 = 0 ∧ bAt fb z kn_20 = 59)) (hF_21_1 : rB fb z 59 (fpn_20, fn_20, kn_20) = (fpn_21, fn_21, kn_21)) (c_22 : fn_21 = 0) (hw6 : tkk < 6) (hu_23 : g_23 = upd tg2 tkk r_2) (hF_24_0 : g3n_24 = upd tg3 tkk r_18) (hF_24_1 : g4n_24 = upd tg4 tkk r_20) (hF_24_2 : g5n_24 = upd tg5 tkk 0) : (tkk + 1) ≤ 6 := by
  exact absurd hw6 c_4
theorem lf_X6_readSound_10 {z : Nat} {fp : Int32} {f : Int32} {k : Int32} {fb : Nat → Int32} {tv0 : Int32} {thh : Nat} {tww : Nat} {tkk : Nat} {tg2 : Nat → Int32} {tg3 : Nat → Int32} {tg4 : Nat → Int32} {tg5 : Nat → Int32} {r_1 : Int32} {r_2 : Int32} {fpn_15 : Int32} {fn_15 : Int32} {v_16 : Int32} {v_17 : Int32} {fpn_18 : Int32} {fn_18 : Int32} {kn_18 : Int32} {r_18 : Int32} {fpn_19 : Int32} {fn_19 : Int32} {kn_19 : Int32} {fpn_20 : Int32} {fn_20 : Int32} {kn_20 : Int32} {r_20 : Int32} {fpn_21 : Int32} {fn_21 : Int32} {kn_21 : Int32} {g_23 : Nat → Int32} {g3n_24 : Nat → Int32} {g4n_24 : Nat → Int32} {g5n_24 : Nat → Int32} (thb : thh ≤ 999) (hz : z ≤ 120) (htww : tww ≤ 6) (htkk : tkk ≤ 6) (h_1 : r_1 = (bAt fb z k)) (h_2 : r_2 = (kindX r_1)) (c_3 : ¬ (r_2 = 0)) (c_4 : ¬ (tkk < 6)) (hF_15_0 : (¬ (3 : Int32) = 0 → ¬ fn_15 = 0)) (hF_15_1 : (¬ f = 0 → fn_15 = f)) (hF_15_2 : rF 3 (fp, f, k) = (fpn_15, fn_15, k)) (e_16 : v_16 = (k + 1)) (e_17 : v_17 = (tv0 - 1)) (hF_18_0 : (fn_18 = 0 → fn_15 = 0)) (hF_18_1 : rN fb z 0 v_17 (fpn_15, fn_15, v_16) = (fpn_18, fn_18, kn_18)) (h_18 : r_18 = (rV fb z 0 v_17 v_16)) (hF_19_0 : (fn_19 = 0 → fn_18 = 0 ∧ bAt fb z kn_18 = 44)) (hF_19_1 : rB fb z 44 (fpn_18, fn_18, kn_18) = (fpn_19, fn_19, kn_19)) (hF_20_0 : (fn_20 = 0 → fn_19 = 0)) (hF_20_1 : rN fb z 1 20 (fpn_19, fn_19, kn_19) = (fpn_20, fn_20, kn_20)) (h_20 : r_20 = (rV fb z 1 20 kn_19)) (hF_21_0 : (fn_21 = 0 → fn_20 = 0 ∧ bAt fb z kn_20 = 59)) (hF_21_1 : rB fb z 59 (fpn_20, fn_20, kn_20) = (fpn_21, fn_21, kn_21)) (c_22 : fn_21 = 0) (hw6 : tkk < 6) (hu_23 : g_23 = upd tg2 tkk r_2) (hF_24_0 : g3n_24 = upd tg3 tkk r_18) (hF_24_1 : g4n_24 = upd tg4 tkk r_20) (hF_24_2 : g5n_24 = upd tg5 tkk 0) : xS fb z tv0 ((fp, f, k), tkk, tg2, tg3, tg4, tg5) = ((fpn_21, fn_21, kn_21), (tkk + 1), g_23, g3n_24, g4n_24, g5n_24) := by
  exact absurd hw6 c_4
theorem lf_X6_readSound_11 {z : Nat} {fp : Int32} {f : Int32} {k : Int32} {fb : Nat → Int32} {tv0 : Int32} {thh : Nat} {tww : Nat} {tkk : Nat} {r_1 : Int32} {r_2 : Int32} {fpn_26 : Int32} {fn_26 : Int32} {v_27 : Int32} {v_28 : Int32} {fpn_29 : Int32} {fn_29 : Int32} {kn_29 : Int32} {r_29 : Int32} {fpn_30 : Int32} {fn_30 : Int32} {kn_30 : Int32} {fpn_31 : Int32} {fn_31 : Int32} {kn_31 : Int32} {r_31 : Int32} {fpn_32 : Int32} {fn_32 : Int32} {kn_32 : Int32} (thb : thh ≤ 999) (hz : z ≤ 120) (htww : tww ≤ 6) (htkk : tkk ≤ 6) (h_1 : r_1 = (bAt fb z k)) (h_2 : r_2 = (kindX r_1)) (c_3 : r_2 = 0) (hF_26_0 : (¬ (1 : Int32) = 0 → ¬ fn_26 = 0)) (hF_26_1 : (¬ f = 0 → fn_26 = f)) (hF_26_2 : rF 1 (fp, f, k) = (fpn_26, fn_26, k)) (e_27 : v_27 = (k + 1)) (e_28 : v_28 = (tv0 - 1)) (hF_29_0 : (fn_29 = 0 → fn_26 = 0)) (hF_29_1 : rN fb z 0 v_28 (fpn_26, fn_26, v_27) = (fpn_29, fn_29, kn_29)) (h_29 : r_29 = (rV fb z 0 v_28 v_27)) (hF_30_0 : (fn_30 = 0 → fn_29 = 0 ∧ bAt fb z kn_29 = 44)) (hF_30_1 : rB fb z 44 (fpn_29, fn_29, kn_29) = (fpn_30, fn_30, kn_30)) (hF_31_0 : (fn_31 = 0 → fn_30 = 0)) (hF_31_1 : rN fb z 1 20 (fpn_30, fn_30, kn_30) = (fpn_31, fn_31, kn_31)) (h_31 : r_31 = (rV fb z 1 20 kn_30)) (hF_32_0 : (fn_32 = 0 → fn_31 = 0 ∧ bAt fb z kn_31 = 59)) (hF_32_1 : rB fb z 59 (fpn_31, fn_31, kn_31) = (fpn_32, fn_32, kn_32)) (c_33 : ¬ (fn_32 = 0)) : tkk ≤ 6 := by
  first
  | omega
  | (simp only [xS, xSc, xSb, xSa, xS0]; grind)
theorem lf_X6_readSound_12 {z : Nat} {fp : Int32} {f : Int32} {k : Int32} {fb : Nat → Int32} {tv0 : Int32} {thh : Nat} {tww : Nat} {tkk : Nat} {tg2 : Nat → Int32} {tg3 : Nat → Int32} {tg4 : Nat → Int32} {tg5 : Nat → Int32} {r_1 : Int32} {r_2 : Int32} {fpn_26 : Int32} {fn_26 : Int32} {v_27 : Int32} {v_28 : Int32} {fpn_29 : Int32} {fn_29 : Int32} {kn_29 : Int32} {r_29 : Int32} {fpn_30 : Int32} {fn_30 : Int32} {kn_30 : Int32} {fpn_31 : Int32} {fn_31 : Int32} {kn_31 : Int32} {r_31 : Int32} {fpn_32 : Int32} {fn_32 : Int32} {kn_32 : Int32} (thb : thh ≤ 999) (hz : z ≤ 120) (htww : tww ≤ 6) (htkk : tkk ≤ 6) (h_1 : r_1 = (bAt fb z k)) (h_2 : r_2 = (kindX r_1)) (c_3 : r_2 = 0) (hF_26_0 : (¬ (1 : Int32) = 0 → ¬ fn_26 = 0)) (hF_26_1 : (¬ f = 0 → fn_26 = f)) (hF_26_2 : rF 1 (fp, f, k) = (fpn_26, fn_26, k)) (e_27 : v_27 = (k + 1)) (e_28 : v_28 = (tv0 - 1)) (hF_29_0 : (fn_29 = 0 → fn_26 = 0)) (hF_29_1 : rN fb z 0 v_28 (fpn_26, fn_26, v_27) = (fpn_29, fn_29, kn_29)) (h_29 : r_29 = (rV fb z 0 v_28 v_27)) (hF_30_0 : (fn_30 = 0 → fn_29 = 0 ∧ bAt fb z kn_29 = 44)) (hF_30_1 : rB fb z 44 (fpn_29, fn_29, kn_29) = (fpn_30, fn_30, kn_30)) (hF_31_0 : (fn_31 = 0 → fn_30 = 0)) (hF_31_1 : rN fb z 1 20 (fpn_30, fn_30, kn_30) = (fpn_31, fn_31, kn_31)) (h_31 : r_31 = (rV fb z 1 20 kn_30)) (hF_32_0 : (fn_32 = 0 → fn_31 = 0 ∧ bAt fb z kn_31 = 59)) (hF_32_1 : rB fb z 59 (fpn_31, fn_31, kn_31) = (fpn_32, fn_32, kn_32)) (c_33 : ¬ (fn_32 = 0)) : xS fb z tv0 ((fp, f, k), tkk, tg2, tg3, tg4, tg5) = ((fpn_32, fn_32, kn_32), tkk, tg2, tg3, tg4, tg5) := by
  first
  | omega
  | (simp only [xS, xSc, xSb, xSa, xS0]; grind)
theorem lf_X6_readSound_13 {z : Nat} {fp : Int32} {f : Int32} {k : Int32} {fb : Nat → Int32} {tv0 : Int32} {thh : Nat} {tww : Nat} {tkk : Nat} {r_1 : Int32} {r_2 : Int32} {fpn_26 : Int32} {fn_26 : Int32} {v_27 : Int32} {v_28 : Int32} {fpn_29 : Int32} {fn_29 : Int32} {kn_29 : Int32} {r_29 : Int32} {fpn_30 : Int32} {fn_30 : Int32} {kn_30 : Int32} {fpn_31 : Int32} {fn_31 : Int32} {kn_31 : Int32} {r_31 : Int32} {fpn_32 : Int32} {fn_32 : Int32} {kn_32 : Int32} (thb : thh ≤ 999) (hz : z ≤ 120) (htww : tww ≤ 6) (htkk : tkk ≤ 6) (h_1 : r_1 = (bAt fb z k)) (h_2 : r_2 = (kindX r_1)) (c_3 : r_2 = 0) (hF_26_0 : (¬ (1 : Int32) = 0 → ¬ fn_26 = 0)) (hF_26_1 : (¬ f = 0 → fn_26 = f)) (hF_26_2 : rF 1 (fp, f, k) = (fpn_26, fn_26, k)) (e_27 : v_27 = (k + 1)) (e_28 : v_28 = (tv0 - 1)) (hF_29_0 : (fn_29 = 0 → fn_26 = 0)) (hF_29_1 : rN fb z 0 v_28 (fpn_26, fn_26, v_27) = (fpn_29, fn_29, kn_29)) (h_29 : r_29 = (rV fb z 0 v_28 v_27)) (hF_30_0 : (fn_30 = 0 → fn_29 = 0 ∧ bAt fb z kn_29 = 44)) (hF_30_1 : rB fb z 44 (fpn_29, fn_29, kn_29) = (fpn_30, fn_30, kn_30)) (hF_31_0 : (fn_31 = 0 → fn_30 = 0)) (hF_31_1 : rN fb z 1 20 (fpn_30, fn_30, kn_30) = (fpn_31, fn_31, kn_31)) (h_31 : r_31 = (rV fb z 1 20 kn_30)) (hF_32_0 : (fn_32 = 0 → fn_31 = 0 ∧ bAt fb z kn_31 = 59)) (hF_32_1 : rB fb z 59 (fpn_31, fn_31, kn_31) = (fpn_32, fn_32, kn_32)) (c_33 : fn_32 = 0) : tkk < 6 := by
  grind
theorem lf_X6_readSound_14 {z : Nat} {fp : Int32} {f : Int32} {k : Int32} {fb : Nat → Int32} {tv0 : Int32} {thh : Nat} {tww : Nat} {tkk : Nat} {tg2 : Nat → Int32} {tg3 : Nat → Int32} {tg4 : Nat → Int32} {tg5 : Nat → Int32} {r_1 : Int32} {r_2 : Int32} {fpn_26 : Int32} {fn_26 : Int32} {v_27 : Int32} {v_28 : Int32} {fpn_29 : Int32} {fn_29 : Int32} {kn_29 : Int32} {r_29 : Int32} {fpn_30 : Int32} {fn_30 : Int32} {kn_30 : Int32} {fpn_31 : Int32} {fn_31 : Int32} {kn_31 : Int32} {r_31 : Int32} {fpn_32 : Int32} {fn_32 : Int32} {kn_32 : Int32} {g_34 : Nat → Int32} {g3n_35 : Nat → Int32} {g4n_35 : Nat → Int32} {g5n_35 : Nat → Int32} (thb : thh ≤ 999) (hz : z ≤ 120) (htww : tww ≤ 6) (htkk : tkk ≤ 6) (h_1 : r_1 = (bAt fb z k)) (h_2 : r_2 = (kindX r_1)) (c_3 : r_2 = 0) (hF_26_0 : (¬ (1 : Int32) = 0 → ¬ fn_26 = 0)) (hF_26_1 : (¬ f = 0 → fn_26 = f)) (hF_26_2 : rF 1 (fp, f, k) = (fpn_26, fn_26, k)) (e_27 : v_27 = (k + 1)) (e_28 : v_28 = (tv0 - 1)) (hF_29_0 : (fn_29 = 0 → fn_26 = 0)) (hF_29_1 : rN fb z 0 v_28 (fpn_26, fn_26, v_27) = (fpn_29, fn_29, kn_29)) (h_29 : r_29 = (rV fb z 0 v_28 v_27)) (hF_30_0 : (fn_30 = 0 → fn_29 = 0 ∧ bAt fb z kn_29 = 44)) (hF_30_1 : rB fb z 44 (fpn_29, fn_29, kn_29) = (fpn_30, fn_30, kn_30)) (hF_31_0 : (fn_31 = 0 → fn_30 = 0)) (hF_31_1 : rN fb z 1 20 (fpn_30, fn_30, kn_30) = (fpn_31, fn_31, kn_31)) (h_31 : r_31 = (rV fb z 1 20 kn_30)) (hF_32_0 : (fn_32 = 0 → fn_31 = 0 ∧ bAt fb z kn_31 = 59)) (hF_32_1 : rB fb z 59 (fpn_31, fn_31, kn_31) = (fpn_32, fn_32, kn_32)) (c_33 : fn_32 = 0) (hw6 : tkk < 6) (hu_34 : g_34 = upd tg2 tkk r_2) (hF_35_0 : g3n_35 = upd tg3 tkk r_29) (hF_35_1 : g4n_35 = upd tg4 tkk r_31) (hF_35_2 : g5n_35 = upd tg5 tkk 0) : (tkk + 1) ≤ 6 := by
  first
  | omega
  | (simp only [xS, xSc, xSb, xSa, xS0]; grind)
theorem lf_X6_readSound_15 {z : Nat} {fp : Int32} {f : Int32} {k : Int32} {fb : Nat → Int32} {tv0 : Int32} {thh : Nat} {tww : Nat} {tkk : Nat} {tg2 : Nat → Int32} {tg3 : Nat → Int32} {tg4 : Nat → Int32} {tg5 : Nat → Int32} {r_1 : Int32} {r_2 : Int32} {fpn_26 : Int32} {fn_26 : Int32} {v_27 : Int32} {v_28 : Int32} {fpn_29 : Int32} {fn_29 : Int32} {kn_29 : Int32} {r_29 : Int32} {fpn_30 : Int32} {fn_30 : Int32} {kn_30 : Int32} {fpn_31 : Int32} {fn_31 : Int32} {kn_31 : Int32} {r_31 : Int32} {fpn_32 : Int32} {fn_32 : Int32} {kn_32 : Int32} {g_34 : Nat → Int32} {g3n_35 : Nat → Int32} {g4n_35 : Nat → Int32} {g5n_35 : Nat → Int32} (thb : thh ≤ 999) (hz : z ≤ 120) (htww : tww ≤ 6) (htkk : tkk ≤ 6) (h_1 : r_1 = (bAt fb z k)) (h_2 : r_2 = (kindX r_1)) (c_3 : r_2 = 0) (hF_26_0 : (¬ (1 : Int32) = 0 → ¬ fn_26 = 0)) (hF_26_1 : (¬ f = 0 → fn_26 = f)) (hF_26_2 : rF 1 (fp, f, k) = (fpn_26, fn_26, k)) (e_27 : v_27 = (k + 1)) (e_28 : v_28 = (tv0 - 1)) (hF_29_0 : (fn_29 = 0 → fn_26 = 0)) (hF_29_1 : rN fb z 0 v_28 (fpn_26, fn_26, v_27) = (fpn_29, fn_29, kn_29)) (h_29 : r_29 = (rV fb z 0 v_28 v_27)) (hF_30_0 : (fn_30 = 0 → fn_29 = 0 ∧ bAt fb z kn_29 = 44)) (hF_30_1 : rB fb z 44 (fpn_29, fn_29, kn_29) = (fpn_30, fn_30, kn_30)) (hF_31_0 : (fn_31 = 0 → fn_30 = 0)) (hF_31_1 : rN fb z 1 20 (fpn_30, fn_30, kn_30) = (fpn_31, fn_31, kn_31)) (h_31 : r_31 = (rV fb z 1 20 kn_30)) (hF_32_0 : (fn_32 = 0 → fn_31 = 0 ∧ bAt fb z kn_31 = 59)) (hF_32_1 : rB fb z 59 (fpn_31, fn_31, kn_31) = (fpn_32, fn_32, kn_32)) (c_33 : fn_32 = 0) (hw6 : tkk < 6) (hu_34 : g_34 = upd tg2 tkk r_2) (hF_35_0 : g3n_35 = upd tg3 tkk r_29) (hF_35_1 : g4n_35 = upd tg4 tkk r_31) (hF_35_2 : g5n_35 = upd tg5 tkk 0) : xS fb z tv0 ((fp, f, k), tkk, tg2, tg3, tg4, tg5) = ((fpn_32, fn_32, kn_32), (tkk + 1), g_34, g3n_35, g4n_35, g5n_35) := by
  first
  | omega
  | (simp only [xS, xSc, xSb, xSa, xS0]; grind)
set_option maxHeartbeats 4000000 in
set_option maxRecDepth 100000 in
theorem r_X6_readSound (l : Launch) (dC : Nat → ClassId) (dI : Nat → Nat → Nat) (cI cZ cL cJ : ClassId) (sz : Nat) (h : Nat) (bs : Nat) (td : Nat) (z : Nat) (fp : Int32) (f : Int32) (k : Int32) (fb : Nat → Int32) (tv0 : Int32) (tv1 : Int32) (tv2 : Int32) (tv3 : Int32) (tv5 : Int32) (thh : Nat) (tww : Nat) (tkk : Nat) (tb1 : Nat) (tb2 : Nat) (tb3 : Nat) (tb4 : Nat) (tb5 : Nat) (tg1 : Nat → Int32) (tg2 : Nat → Int32) (tg3 : Nat → Int32) (tg4 : Nat → Int32) (tg5 : Nat → Int32) (thb : thh ≤ 999) (hz : z ≤ 120) (htww : tww ≤ 6) (htkk : tkk ≤ 6) : Met l yX6_readSound wsX6_readSound ({ frames := 3, cells := 0, slots := 0, locals := 67 }) (va_Pc [.ref h] (fun U => U.heap.size = sz ∧ va_P (dC, dI) vwCl [(xo_6_ririii h bs (nI z) td fp f k), (xI bs cI 120 fb), (xo_3_iiiiiiiirrrrr td tv0 tv1 tv2 tv3 (nI thh) tv5 (nI tww) (nI tkk) tb1 tb2 tb3 tb4 tb5), (xI tb1 cI 6 tg1), (xI tb2 cI 6 tg2), (xI tb3 cI 6 tg3), (xI tb4 cI 6 tg4), (xI tb5 cI 6 tg5)] U.heap ∧ va_K (dC, dI) vwCl [(cI, .int), (cZ, .boolean), (cL, .object RX3), (cJ, .array .int)] U ∧ va_D (fun _ => True) [(xo_6_ririii h bs (nI z) td fp f k), (xI bs cI 120 fb), (xo_3_iiiiiiiirrrrr td tv0 tv1 tv2 tv3 (nI thh) tv5 (nI tww) (nI tkk) tb1 tb2 tb3 tb4 tb5), (xI tb1 cI 6 tg1), (xI tb2 cI 6 tg2), (xI tb3 cI 6 tg3), (xI tb4 cI 6 tg4), (xI tb5 cI 6 tg5)])) (va_Qv (fun (_ : Unit) => True) (fun (_ : Unit) t => ∃ (fpn : Int32) (fn : Int32) (kn : Int32) (tn : Nat) (tg2n : Nat → Int32) (tg3n : Nat → Int32) (tg4n : Nat → Int32) (tg5n : Nat → Int32), va_P (dC, dI) vwCl [(xo_6_ririii h bs (nI z) td fpn fn kn), (xI bs cI 120 fb), (xo_3_iiiiiiiirrrrr td tv0 tv1 tv2 tv3 (nI thh) tv5 (nI tww) (nI tn) tb1 tb2 tb3 tb4 tb5), (xI tb1 cI 6 tg1), (xI tb2 cI 6 tg2n), (xI tb3 cI 6 tg3n), (xI tb4 cI 6 tg4n), (xI tb5 cI 6 tg5n)] t.heap ∧ va_D (va_A [(xo_6_ririii h bs (nI z) td fp f k), (xI bs cI 120 fb), (xo_3_iiiiiiiirrrrr td tv0 tv1 tv2 tv3 (nI thh) tv5 (nI tww) (nI tkk) tb1 tb2 tb3 tb4 tb5), (xI tb1 cI 6 tg1), (xI tb2 cI 6 tg2), (xI tb3 cI 6 tg3), (xI tb4 cI 6 tg4), (xI tb5 cI 6 tg5)] sz) [(xo_6_ririii h bs (nI z) td fpn fn kn), (xI bs cI 120 fb), (xo_3_iiiiiiiirrrrr td tv0 tv1 tv2 tv3 (nI thh) tv5 (nI tww) (nI tn) tb1 tb2 tb3 tb4 tb5), (xI tb1 cI 6 tg1), (xI tb2 cI 6 tg2n), (xI tb3 cI 6 tg3n), (xI tb4 cI 6 tg4n), (xI tb5 cI 6 tg5n)] ∧ tn ≤ 6 ∧ xS fb z tv0 ((fp, f, k), tkk, tg2, tg3, tg4, tg5) = ((fpn, fn, kn), tn, tg2n, tg3n, tg4n, tg5n)) (va_A [(xo_6_ririii h bs (nI z) td fp f k), (xI bs cI 120 fb), (xo_3_iiiiiiiirrrrr td tv0 tv1 tv2 tv3 (nI thh) tv5 (nI tww) (nI tkk) tb1 tb2 tb3 tb4 tb5), (xI tb1 cI 6 tg1), (xI tb2 cI 6 tg2), (xI tb3 cI 6 tg3), (xI tb4 cI 6 tg4), (xI tb5 cI 6 tg5)] sz)) 0 0 (va_A [(xo_6_ririii h bs (nI z) td fp f k), (xI bs cI 120 fb), (xo_3_iiiiiiiirrrrr td tv0 tv1 tv2 tv3 (nI thh) tv5 (nI tww) (nI tkk) tb1 tb2 tb3 tb4 tb5), (xI tb1 cI 6 tg1), (xI tb2 cI 6 tg2), (xI tb3 cI 6 tg3), (xI tb4 cI 6 tg4), (xI tb5 cI 6 tg5)] sz) := by
  refine Met.ofW (cc := cX6_readSound) (maxL := 4) (ret := none) (by decide) rfl ?_
  intro p e s m args below meth c s₁ B hml hv
  obtain ⟨rfl, hsz, hP, hK, hD0⟩ := hv
  have hx := B.exec
  have hb := B.bytes
  have hr := B.returns
  have hts := atoms_spec (ws := wsX6_readSound) B.pre
  have hown : s.vm.findClass RX6 = some m.cls := findClass_of_methodNamed B.named
  have hlocks := B.notSynchronized
  subst hsz
  have hD := hD0.self (sz := s.heap.size)
  generalize hAe : va_A [(xo_6_ririii h bs (nI z) td fp f k), (xI bs cI 120 fb), (xo_3_iiiiiiiirrrrr td tv0 tv1 tv2 tv3 (nI thh) tv5 (nI tww) (nI tkk) tb1 tb2 tb3 tb4 tb5), (xI tb1 cI 6 tg1), (xI tb2 cI 6 tg2), (xI tb3 cI 6 tg3), (xI tb4 cI 6 tg4), (xI tb5 cI 6 tg5)] s.heap.size = A at hD ⊢
  have hA : ∀ q : Nat, s.heap.size ≤ q → A q := fun q h => by rw [← hAe]; exact Or.inr h
  have hS : va_S A s.heap s.heap [] := va_S.rf
  have hP : va_P (dC, dI) vwCl [(xo_6_ririii h bs (nI z) td fp f k), (xI bs cI 120 fb), (xo_3_iiiiiiiirrrrr td tv0 tv1 tv2 tv3 (nI thh) tv5 (nI tww) (nI tkk) tb1 tb2 tb3 tb4 tb5), (xI tb1 cI 6 tg1), (xI tb2 cI 6 tg2), (xI tb3 cI 6 tg3), (xI tb4 cI 6 tg4), (xI tb5 cI 6 tg5)] s.heap := hP
  have hl := lv_entry ([.ref h]) (n := 4) (Nat.le_of_ble_eq_true rfl)
  rw [lg_entry_eq]
  generalize (lg_sl ([.ref h]) ++ List.replicate (4 - (lg_sl ([.ref h])).length) Slot.unset).toArray = ls at hl ⊢
  have hl : lv_has ls 4 [(0, .ref h)] := hl
  refine lv_aload_n hx hb dX6_readSound_0 rfl (lv_at hl 0 rfl) ?_
  refine lv_aload_n hx hb dX6_readSound_1 rfl (lv_at hl 0 rfl) ?_
  refine va_get (D := (dC, dI)) (ci := 6) (v := .int k) (C := RX6) (T := TX6) (N := 6) hx hb hts i_X6_readSound_X6 hown hK hP 0 rfl rfl 5 (by decide) (hts _ mx_X6_readSound_1) (fun _ h9 => h9) rfl dX6_readSound_2 ?_
  have hPc_1 := hP.sub (ws' := [(xo_6_ririii h bs (nI z) td fp f k), (xI bs cI 120 fb)]) [0, 1] rfl
  refine vp_callSi (W.runV (As := [.int k]) (rest := []) ⟨hx, hb, hml, hown, hts⟩ (r_X6_byteAt l dC dI cI cZ cL cJ h bs td z fp f k fb k (hz)) (cwV 1 hts gX6_readSound_X6_byteAt rfl rfl rfl (by decide +kernel) ⟨Nat.le_of_ble_eq_true rfl, Nat.le_of_ble_eq_true rfl⟩) (pvP 6 0 hK hP rfl rfl hPc_1) rfl rfl hl.1 rfl (lv_room (Nat.le_of_ble_eq_true rfl)) dX6_readSound_5 ⟨Nat.le_of_ble_eq_true rfl, Nat.le_of_ble_eq_true rfl⟩) (fun r_1 h_1 => ?_)
  have hPc_2 := hP.sub (ws' := []) [] rfl
  refine vp_callSi (W.runS (As := [.int r_1]) (rest := []) ⟨hx, hb, hml, hown, hts⟩ (r_X6_kindOf l dC dI cI cZ cL cJ r_1 ) (va_cwS 1 hts gX6_readSound_X6_kindOf rfl rfl rfl (by decide +kernel) ⟨Nat.le_of_ble_eq_true rfl, Nat.le_of_ble_eq_true rfl⟩) (psP hK hPc_2) rfl rfl hl.1 rfl (lv_room (Nat.le_of_ble_eq_true rfl)) dX6_readSound_8 ⟨Nat.le_of_ble_eq_true rfl, Nat.le_of_ble_eq_true rfl⟩) (fun r_2 h_2 => ?_)
  refine lv_istore_n (lv' := [(1, .int r_2), (0, .ref h)]) hx hb dX6_readSound_11 rfl hl (by decide) rfl (fun ls hl => ?_)
  refine lv_iload_n hx hb dX6_readSound_12 rfl (lv_at hl 0 rfl) ?_
  refine lv_if_ne (tgt := 24) hx hb dX6_readSound_13 (by decide) (fun c_3 => ?_) (fun c_3 => ?_)
  · skip
    refine lv_aload_n hx hb dX6_readSound_24 rfl (lv_at hl 1 rfl) ?_
    refine va_get (D := (dC, dI)) (ci := 6) (v := .ref td) (C := RX6) (T := TX6) (N := 6) hx hb hts i_X6_readSound_X6 hown hK hP 0 rfl rfl 2 (by decide) (hts _ mx_X6_readSound_2) (fun _ h9 => h9) rfl dX6_readSound_25 ?_
    refine va_get (D := (dC, dI)) (ci := 3) (v := .int (nI tkk)) (C := RX3) (T := TX3) (N := 13) hx hb hts i_X6_readSound_X3 hown hK hP 2 rfl rfl 7 (by decide) (hts _ mx_X6_readSound_3) (fun _ h9 => h9) rfl dX6_readSound_28 ?_
    refine lv_bipush (v := 6) hx hb dX6_readSound_31 (by decide) ?_
    refine lv_icmp_lt (tgt := 41) hx hb dX6_readSound_33 (by decide) (fun c_4 => ?_) (fun c_4 => ?_)
    · have c_4 : tkk < 6 := (nI_ltI (a := tkk) (b := 6) (by omega) (by omega)).mp c_4
      refine lv_aload_n hx hb dX6_readSound_41 rfl (lv_at hl 1 rfl) ?_
      refine lv_dup hx hb dX6_readSound_42 rfl ?_
      refine va_get (D := (dC, dI)) (ci := 6) (v := .int k) (C := RX6) (T := TX6) (N := 6) hx hb hts i_X6_readSound_X6 hown hK hP 0 rfl rfl 5 (by decide) (hts _ mx_X6_readSound_1) (fun _ h9 => h9) rfl dX6_readSound_43 ?_
      refine lv_iconst (v := 1) hx hb dX6_readSound_46 (by decide) ?_
      refine lv_iadd hx hb dX6_readSound_47 ?_
      refine lv_topi (fun v_5 e_5 => ?_)
      refine va_put (D := (dC, dI)) (ci := 6) (v := .int v_5) (ty := .int) (C := RX6) (T := TX6) (N := 6) hx hb hts i_X6_readSound_X6 tyX6 tyX6_ok nmX6 hown hK hP hD hS 0 rfl rfl 5 (by decide) (hts _ mx_X6_readSound_1) (fun _ h9 => h9) rfl (by decide +kernel) rfl rfl (Nat.le_of_ble_eq_true rfl) dX6_readSound_48 (fun H locs hP hD hS => ?_)
      have hP : va_P (dC, dI) vwCl [(xo_6_ririii h bs (nI z) td fp f v_5), (xI bs cI 120 fb), (xo_3_iiiiiiiirrrrr td tv0 tv1 tv2 tv3 (nI thh) tv5 (nI tww) (nI tkk) tb1 tb2 tb3 tb4 tb5), (xI tb1 cI 6 tg1), (xI tb2 cI 6 tg2), (xI tb3 cI 6 tg3), (xI tb4 cI 6 tg4), (xI tb5 cI 6 tg5)] H := hP
      have hD := dto hP hD
      refine lv_aload_n hx hb dX6_readSound_51 rfl (lv_at hl 1 rfl) ?_
      refine lv_iconst (v := 0) hx hb dX6_readSound_52 (by decide) ?_
      refine lv_aload_n hx hb dX6_readSound_53 rfl (lv_at hl 1 rfl) ?_
      refine va_get (D := (dC, dI)) (ci := 6) (v := .ref td) (C := RX6) (T := TX6) (N := 6) hx hb hts i_X6_readSound_X6 hown hK hP 0 rfl rfl 2 (by decide) (hts _ mx_X6_readSound_2) (fun _ h9 => h9) rfl dX6_readSound_54 ?_
      refine va_get (D := (dC, dI)) (ci := 3) (v := .int tv0) (C := RX3) (T := TX3) (N := 13) hx hb hts i_X6_readSound_X3 hown hK hP 2 rfl rfl 0 (by decide) (hts _ mx_X6_readSound_4) (fun _ h9 => h9) rfl dX6_readSound_57 ?_
      refine lv_iconst (v := 1) hx hb dX6_readSound_60 (by decide) ?_
      refine lv_isub hx hb dX6_readSound_61 ?_
      refine lv_topi (fun v_6 e_6 => ?_)
      have hc_7 := cutW (wc := [(xo_6_ririii h bs (nI z) td fp f v_5), (xI bs cI 120 fb)]) hP hD hS hA [0, 1] (by decide +kernel) rfl
      refine va_calli (va_runV (As := [.int 0, .int v_6]) (rest := []) ⟨hx, hb, hml, hown, hts⟩ (r_X6_readNumber l dC dI cI cZ cL cJ H.size h bs td z fp f v_5 fb 0 v_6 (hz)) (cwV 2 hts gX6_readSound_X6_readNumber rfl rfl rfl (by decide +kernel) ⟨Nat.le_of_ble_eq_true rfl, Nat.le_of_ble_eq_true rfl⟩) (pvW 6 0 hK hP rfl rfl hc_7) rfl rfl hl.1 rfl (lv_room (Nat.le_of_ble_eq_true rfl)) dX6_readSound_62 ⟨Nat.le_of_ble_eq_true rfl, Nat.le_of_ble_eq_true rfl⟩) hS (fun q _ h => hc_7.2.2 q h) hc_7.2.2 (fun r_7 u_7 t_7 H1 locs ht hvm h_7 hB hz1 hk1 hS => ?_)
      refine xl_3_4 hB (fun fpn_7 fn_7 kn_7 hP1 hD1 hF_7_0 hF_7_1 => ?_)
      clear hB
      rw [ht] at hP1
      obtain ⟨hP, hD⟩ := va_join (wr := [(xo_3_iiiiiiiirrrrr td tv0 tv1 tv2 tv3 (nI thh) tv5 (nI tww) (nI tkk) tb1 tb2 tb3 tb4 tb5), (xI tb1 cI 6 tg1), (xI tb2 cI 6 tg2), (xI tb3 cI 6 tg3), (xI tb4 cI 6 tg4), (xI tb5 cI 6 tg5)]) (w1 := [(xo_6_ririii h bs (nI z) td fpn_7 fn_7 kn_7), (xI bs cI 120 fb)]) hP hD [0, 1] [2, 3, 4, 5, 6, 7] rfl rfl (by decide +kernel) (by decide +kernel) hk1 hc_7.2.2 hP1 hD1
      generalize H1 = H at hP hS ⊢
      have hP : va_P (dC, dI) vwCl [(xo_3_iiiiiiiirrrrr td tv0 tv1 tv2 tv3 (nI thh) tv5 (nI tww) (nI tkk) tb1 tb2 tb3 tb4 tb5), (xI tb1 cI 6 tg1), (xI tb2 cI 6 tg2), (xI tb3 cI 6 tg3), (xI tb4 cI 6 tg4), (xI tb5 cI 6 tg5), (xo_6_ririii h bs (nI z) td fpn_7 fn_7 kn_7), (xI bs cI 120 fb)] H := hP
      have hD := dto hP hD
      refine lv_istore_n (lv' := [(2, .int r_7), (1, .int r_2), (0, .ref h)]) hx hb dX6_readSound_65 rfl hl (by decide) rfl (fun ls hl => ?_)
      refine lv_aload_n hx hb dX6_readSound_66 rfl (lv_at hl 2 rfl) ?_
      refine lv_bipush (v := 44) hx hb dX6_readSound_67 (by decide) ?_
      have hc_8 := cutW (wc := [(xo_6_ririii h bs (nI z) td fpn_7 fn_7 kn_7), (xI bs cI 120 fb)]) hP hD hS hA [6, 7] (by decide +kernel) rfl
      refine va_callv (va_runV (As := [.int 44]) (rest := []) ⟨hx, hb, hml, hown, hts⟩ (r_X6_readByte l dC dI cI cZ cL cJ H.size h bs td z fpn_7 fn_7 kn_7 fb 44 (hz)) (cwV 1 hts gX6_readSound_X6_readByte rfl rfl rfl (by decide +kernel) ⟨Nat.le_of_ble_eq_true rfl, Nat.le_of_ble_eq_true rfl⟩) (pvW 6 6 hK hP rfl rfl hc_8) rfl rfl hl.1 rfl (lv_room (Nat.le_of_ble_eq_true rfl)) dX6_readSound_69 ⟨Nat.le_of_ble_eq_true rfl, Nat.le_of_ble_eq_true rfl⟩) hS (fun q _ h => hc_8.2.2 q h) hc_8.2.2 (fun u_8 t_8 H1 locs ht hvm h_8 hB hz1 hk1 hS => ?_)
      refine xl_3_4 hB (fun fpn_8 fn_8 kn_8 hP1 hD1 hF_8_0 hF_8_1 => ?_)
      clear hB
      rw [ht] at hP1
      obtain ⟨hP, hD⟩ := va_join (wr := [(xo_3_iiiiiiiirrrrr td tv0 tv1 tv2 tv3 (nI thh) tv5 (nI tww) (nI tkk) tb1 tb2 tb3 tb4 tb5), (xI tb1 cI 6 tg1), (xI tb2 cI 6 tg2), (xI tb3 cI 6 tg3), (xI tb4 cI 6 tg4), (xI tb5 cI 6 tg5)]) (w1 := [(xo_6_ririii h bs (nI z) td fpn_8 fn_8 kn_8), (xI bs cI 120 fb)]) hP hD [6, 7] [0, 1, 2, 3, 4, 5] rfl rfl (by decide +kernel) (by decide +kernel) hk1 hc_8.2.2 hP1 hD1
      generalize H1 = H at hP hS ⊢
      have hP : va_P (dC, dI) vwCl [(xo_3_iiiiiiiirrrrr td tv0 tv1 tv2 tv3 (nI thh) tv5 (nI tww) (nI tkk) tb1 tb2 tb3 tb4 tb5), (xI tb1 cI 6 tg1), (xI tb2 cI 6 tg2), (xI tb3 cI 6 tg3), (xI tb4 cI 6 tg4), (xI tb5 cI 6 tg5), (xo_6_ririii h bs (nI z) td fpn_8 fn_8 kn_8), (xI bs cI 120 fb)] H := hP
      have hD := dto hP hD
      refine lv_aload_n hx hb dX6_readSound_72 rfl (lv_at hl 2 rfl) ?_
      refine lv_iconst (v := 1) hx hb dX6_readSound_73 (by decide) ?_
      refine lv_bipush (v := 20) hx hb dX6_readSound_74 (by decide) ?_
      have hc_9 := cutW (wc := [(xo_6_ririii h bs (nI z) td fpn_8 fn_8 kn_8), (xI bs cI 120 fb)]) hP hD hS hA [6, 7] (by decide +kernel) rfl
      refine va_calli (va_runV (As := [.int 1, .int 20]) (rest := []) ⟨hx, hb, hml, hown, hts⟩ (r_X6_readNumber l dC dI cI cZ cL cJ H.size h bs td z fpn_8 fn_8 kn_8 fb 1 20 (hz)) (cwV 2 hts gX6_readSound_X6_readNumber rfl rfl rfl (by decide +kernel) ⟨Nat.le_of_ble_eq_true rfl, Nat.le_of_ble_eq_true rfl⟩) (pvW 6 6 hK hP rfl rfl hc_9) rfl rfl hl.1 rfl (lv_room (Nat.le_of_ble_eq_true rfl)) dX6_readSound_76 ⟨Nat.le_of_ble_eq_true rfl, Nat.le_of_ble_eq_true rfl⟩) hS (fun q _ h => hc_9.2.2 q h) hc_9.2.2 (fun r_9 u_9 t_9 H1 locs ht hvm h_9 hB hz1 hk1 hS => ?_)
      refine xl_3_4 hB (fun fpn_9 fn_9 kn_9 hP1 hD1 hF_9_0 hF_9_1 => ?_)
      clear hB
      rw [ht] at hP1
      obtain ⟨hP, hD⟩ := va_join (wr := [(xo_3_iiiiiiiirrrrr td tv0 tv1 tv2 tv3 (nI thh) tv5 (nI tww) (nI tkk) tb1 tb2 tb3 tb4 tb5), (xI tb1 cI 6 tg1), (xI tb2 cI 6 tg2), (xI tb3 cI 6 tg3), (xI tb4 cI 6 tg4), (xI tb5 cI 6 tg5)]) (w1 := [(xo_6_ririii h bs (nI z) td fpn_9 fn_9 kn_9), (xI bs cI 120 fb)]) hP hD [6, 7] [0, 1, 2, 3, 4, 5] rfl rfl (by decide +kernel) (by decide +kernel) hk1 hc_9.2.2 hP1 hD1
      generalize H1 = H at hP hS ⊢
      have hP : va_P (dC, dI) vwCl [(xo_3_iiiiiiiirrrrr td tv0 tv1 tv2 tv3 (nI thh) tv5 (nI tww) (nI tkk) tb1 tb2 tb3 tb4 tb5), (xI tb1 cI 6 tg1), (xI tb2 cI 6 tg2), (xI tb3 cI 6 tg3), (xI tb4 cI 6 tg4), (xI tb5 cI 6 tg5), (xo_6_ririii h bs (nI z) td fpn_9 fn_9 kn_9), (xI bs cI 120 fb)] H := hP
      have hD := dto hP hD
      refine lv_istore_n (lv' := [(3, .int r_9), (2, .int r_7), (1, .int r_2), (0, .ref h)]) hx hb dX6_readSound_79 rfl hl (by decide) rfl (fun ls hl => ?_)
      refine lv_aload_n hx hb dX6_readSound_80 rfl (lv_at hl 3 rfl) ?_
      refine lv_bipush (v := 59) hx hb dX6_readSound_81 (by decide) ?_
      have hc_10 := cutW (wc := [(xo_6_ririii h bs (nI z) td fpn_9 fn_9 kn_9), (xI bs cI 120 fb)]) hP hD hS hA [6, 7] (by decide +kernel) rfl
      refine va_callv (va_runV (As := [.int 59]) (rest := []) ⟨hx, hb, hml, hown, hts⟩ (r_X6_readByte l dC dI cI cZ cL cJ H.size h bs td z fpn_9 fn_9 kn_9 fb 59 (hz)) (cwV 1 hts gX6_readSound_X6_readByte rfl rfl rfl (by decide +kernel) ⟨Nat.le_of_ble_eq_true rfl, Nat.le_of_ble_eq_true rfl⟩) (pvW 6 6 hK hP rfl rfl hc_10) rfl rfl hl.1 rfl (lv_room (Nat.le_of_ble_eq_true rfl)) dX6_readSound_83 ⟨Nat.le_of_ble_eq_true rfl, Nat.le_of_ble_eq_true rfl⟩) hS (fun q _ h => hc_10.2.2 q h) hc_10.2.2 (fun u_10 t_10 H1 locs ht hvm h_10 hB hz1 hk1 hS => ?_)
      refine xl_3_4 hB (fun fpn_10 fn_10 kn_10 hP1 hD1 hF_10_0 hF_10_1 => ?_)
      clear hB
      rw [ht] at hP1
      obtain ⟨hP, hD⟩ := va_join (wr := [(xo_3_iiiiiiiirrrrr td tv0 tv1 tv2 tv3 (nI thh) tv5 (nI tww) (nI tkk) tb1 tb2 tb3 tb4 tb5), (xI tb1 cI 6 tg1), (xI tb2 cI 6 tg2), (xI tb3 cI 6 tg3), (xI tb4 cI 6 tg4), (xI tb5 cI 6 tg5)]) (w1 := [(xo_6_ririii h bs (nI z) td fpn_10 fn_10 kn_10), (xI bs cI 120 fb)]) hP hD [6, 7] [0, 1, 2, 3, 4, 5] rfl rfl (by decide +kernel) (by decide +kernel) hk1 hc_10.2.2 hP1 hD1
      generalize H1 = H at hP hS ⊢
      have hP : va_P (dC, dI) vwCl [(xo_3_iiiiiiiirrrrr td tv0 tv1 tv2 tv3 (nI thh) tv5 (nI tww) (nI tkk) tb1 tb2 tb3 tb4 tb5), (xI tb1 cI 6 tg1), (xI tb2 cI 6 tg2), (xI tb3 cI 6 tg3), (xI tb4 cI 6 tg4), (xI tb5 cI 6 tg5), (xo_6_ririii h bs (nI z) td fpn_10 fn_10 kn_10), (xI bs cI 120 fb)] H := hP
      have hD := dto hP hD
      refine lv_aload_n hx hb dX6_readSound_86 rfl (lv_at hl 3 rfl) ?_
      refine va_get (D := (dC, dI)) (ci := 6) (v := .int fn_10) (C := RX6) (T := TX6) (N := 6) hx hb hts i_X6_readSound_X6 hown hK hP 6 rfl rfl 4 (by decide) (hts _ mx_X6_readSound_5) (fun _ h9 => h9) rfl dX6_readSound_87 ?_
      refine lv_if_ne (tgt := 138) hx hb dX6_readSound_90 (by decide) (fun c_11 => ?_) (fun c_11 => ?_)
      · skip
        have hX9 := cut2 (wc := [(xo_6_ririii h bs (nI z) td fpn_10 fn_10 kn_10), (xI bs cI 120 fb), (xo_3_iiiiiiiirrrrr td tv0 tv1 tv2 tv3 (nI thh) tv5 (nI tww) (nI tkk) tb1 tb2 tb3 tb4 tb5), (xI tb1 cI 6 tg1), (xI tb2 cI 6 tg2), (xI tb3 cI 6 tg3), (xI tb4 cI 6 tg4), (xI tb5 cI 6 tg5)]) hP hD [6, 7, 0, 1, 2, 3, 4, 5] (by decide +kernel) rfl
        exact W.vret hx hb hr (fun t ht hW => ⟨⟨(), rfl, trivial, ⟨fpn_10, fn_10, kn_10, tkk, tg2, tg3, tg4, tg5, va_Ht ht hX9.1, hX9.2, (lf_X6_readSound_1 thb hz htww htkk h_1 h_2 c_3 c_4 e_5 e_6 hF_7_0 hF_7_1 h_7 hF_8_0 hF_8_1 hF_9_0 hF_9_1 h_9 hF_10_0 hF_10_1 c_11), (lf_X6_readSound_2 thb hz htww htkk h_1 h_2 c_3 c_4 e_5 e_6 hF_7_0 hF_7_1 h_7 hF_8_0 hF_8_1 hF_9_0 hF_9_1 h_9 hF_10_0 hF_10_1 c_11)⟩⟩, hS.F ht⟩) hS.2.2 dX6_readSound_138
      · skip
        have hw6 : tkk < 6 := (lf_X6_readSound_3 thb hz htww htkk h_1 h_2 c_3 c_4 e_5 e_6 hF_7_0 hF_7_1 h_7 hF_8_0 hF_8_1 hF_9_0 hF_9_1 h_9 hF_10_0 hF_10_1 c_11)
        refine lv_aload_n hx hb dX6_readSound_93 rfl (lv_at hl 3 rfl) ?_
        refine va_get (D := (dC, dI)) (ci := 6) (v := .ref td) (C := RX6) (T := TX6) (N := 6) hx hb hts i_X6_readSound_X6 hown hK hP 6 rfl rfl 2 (by decide) (hts _ mx_X6_readSound_2) (fun _ h9 => h9) rfl dX6_readSound_94 ?_
        refine va_get (D := (dC, dI)) (ci := 3) (v := .ref tb2) (C := RX3) (T := TX3) (N := 13) hx hb hts i_X6_readSound_X3 hown hK hP 0 rfl rfl 9 (by decide) (hts _ mx_X6_readSound_6) (fun _ h9 => h9) rfl dX6_readSound_97 ?_
        refine lv_aload_n hx hb dX6_readSound_100 rfl (lv_at hl 3 rfl) ?_
        refine va_get (D := (dC, dI)) (ci := 6) (v := .ref td) (C := RX6) (T := TX6) (N := 6) hx hb hts i_X6_readSound_X6 hown hK hP 6 rfl rfl 2 (by decide) (hts _ mx_X6_readSound_2) (fun _ h9 => h9) rfl dX6_readSound_101 ?_
        refine va_get (D := (dC, dI)) (ci := 3) (v := .int (nI tkk)) (C := RX3) (T := TX3) (N := 13) hx hb hts i_X6_readSound_X3 hown hK hP 0 rfl rfl 7 (by decide) (hts _ mx_X6_readSound_3) (fun _ h9 => h9) rfl dX6_readSound_104 ?_
        refine lv_iload_n hx hb dX6_readSound_107 rfl (lv_at hl 2 rfl) ?_
        refine va_iast hx hb hK hP hD hS 2 0 rfl rfl (vp_in_nI (by omega) (by omega)) dX6_readSound_108 (fun H locs hP hD hS => ?_)
        generalize hg_12 : upd tg2 ((nI tkk) : Int32).toNatClampNeg r_2 = g_12 at hP hD
        have hu_12 : g_12 = upd tg2 tkk r_2 := (by rw [← hg_12, nI_clamp (by omega)])
        have hP : va_P (dC, dI) vwCl [(xo_3_iiiiiiiirrrrr td tv0 tv1 tv2 tv3 (nI thh) tv5 (nI tww) (nI tkk) tb1 tb2 tb3 tb4 tb5), (xI tb1 cI 6 tg1), (xI tb2 cI 6 g_12), (xI tb3 cI 6 tg3), (xI tb4 cI 6 tg4), (xI tb5 cI 6 tg5), (xo_6_ririii h bs (nI z) td fpn_10 fn_10 kn_10), (xI bs cI 120 fb)] H := hP
        have hD := dto hP hD
        refine lv_aload_n hx hb dX6_readSound_109 rfl (lv_at hl 3 rfl) ?_
        refine va_get (D := (dC, dI)) (ci := 6) (v := .ref td) (C := RX6) (T := TX6) (N := 6) hx hb hts i_X6_readSound_X6 hown hK hP 6 rfl rfl 2 (by decide) (hts _ mx_X6_readSound_2) (fun _ h9 => h9) rfl dX6_readSound_110 ?_
        refine lv_aload_n hx hb dX6_readSound_113 rfl (lv_at hl 3 rfl) ?_
        refine va_get (D := (dC, dI)) (ci := 6) (v := .ref td) (C := RX6) (T := TX6) (N := 6) hx hb hts i_X6_readSound_X6 hown hK hP 6 rfl rfl 2 (by decide) (hts _ mx_X6_readSound_2) (fun _ h9 => h9) rfl dX6_readSound_114 ?_
        refine va_get (D := (dC, dI)) (ci := 3) (v := .int (nI tkk)) (C := RX3) (T := TX3) (N := 13) hx hb hts i_X6_readSound_X3 hown hK hP 0 rfl rfl 7 (by decide) (hts _ mx_X6_readSound_3) (fun _ h9 => h9) rfl dX6_readSound_117 ?_
        refine lv_iload_n hx hb dX6_readSound_120 rfl (lv_at hl 1 rfl) ?_
        refine lv_iload_n hx hb dX6_readSound_121 rfl (lv_at hl 0 rfl) ?_
        have hc_13 := cutW (wc := [(xo_3_iiiiiiiirrrrr td tv0 tv1 tv2 tv3 (nI thh) tv5 (nI tww) (nI tkk) tb1 tb2 tb3 tb4 tb5), (xI tb1 cI 6 tg1), (xI tb2 cI 6 g_12), (xI tb3 cI 6 tg3), (xI tb4 cI 6 tg4), (xI tb5 cI 6 tg5)]) hP hD hS hA [0, 1, 2, 3, 4, 5] (by decide +kernel) rfl
        refine va_callv (va_runV (As := [.int (nI tkk), .int r_7, .int r_9]) (rest := []) ⟨hx, hb, hml, hown, hts⟩ (r_X3_letLoose l dC dI cI cZ cL cJ H.size td tv0 tv1 tv2 tv3 tv5 thh tww tkk tb1 tb2 tb3 tb4 tb5 tg1 g_12 tg3 tg4 tg5 tkk r_7 r_9 (by omega) (htww) (by omega) (by omega)) (cwV 3 hts gX6_readSound_X3_letLoose rfl rfl rfl (by decide +kernel) ⟨Nat.le_of_ble_eq_true rfl, Nat.le_of_ble_eq_true rfl⟩) (pvW 3 0 hK hP rfl rfl hc_13) rfl rfl hl.1 rfl (lv_room (Nat.le_of_ble_eq_true rfl)) dX6_readSound_122 ⟨Nat.le_of_ble_eq_true rfl, Nat.le_of_ble_eq_true rfl⟩) hS (fun q _ h => hc_13.2.2 q h) hc_13.2.2 (fun u_13 t_13 H1 locs ht hvm h_13 hB hz1 hk1 hS => ?_)
        refine xl_3_5 hB (fun g3n_13 g4n_13 g5n_13 hP1 hD1 hF_13_0 hF_13_1 hF_13_2 => ?_)
        clear hB
        rw [ht] at hP1
        obtain ⟨hP, hD⟩ := va_join (wr := [(xo_6_ririii h bs (nI z) td fpn_10 fn_10 kn_10), (xI bs cI 120 fb)]) (w1 := [(xo_3_iiiiiiiirrrrr td tv0 tv1 tv2 tv3 (nI thh) tv5 (nI tww) (nI tkk) tb1 tb2 tb3 tb4 tb5), (xI tb1 cI 6 tg1), (xI tb2 cI 6 g_12), (xI tb3 cI 6 g3n_13), (xI tb4 cI 6 g4n_13), (xI tb5 cI 6 g5n_13)]) hP hD [0, 1, 2, 3, 4, 5] [6, 7] rfl rfl (by decide +kernel) (by decide +kernel) hk1 hc_13.2.2 hP1 hD1
        generalize H1 = H at hP hS ⊢
        have hP : va_P (dC, dI) vwCl [(xo_6_ririii h bs (nI z) td fpn_10 fn_10 kn_10), (xI bs cI 120 fb), (xo_3_iiiiiiiirrrrr td tv0 tv1 tv2 tv3 (nI thh) tv5 (nI tww) (nI tkk) tb1 tb2 tb3 tb4 tb5), (xI tb1 cI 6 tg1), (xI tb2 cI 6 g_12), (xI tb3 cI 6 g3n_13), (xI tb4 cI 6 g4n_13), (xI tb5 cI 6 g5n_13)] H := hP
        have hD := dto hP hD
        refine lv_aload_n hx hb dX6_readSound_125 rfl (lv_at hl 3 rfl) ?_
        refine va_get (D := (dC, dI)) (ci := 6) (v := .ref td) (C := RX6) (T := TX6) (N := 6) hx hb hts i_X6_readSound_X6 hown hK hP 0 rfl rfl 2 (by decide) (hts _ mx_X6_readSound_2) (fun _ h9 => h9) rfl dX6_readSound_126 ?_
        refine lv_dup hx hb dX6_readSound_129 rfl ?_
        refine va_get (D := (dC, dI)) (ci := 3) (v := .int (nI tkk)) (C := RX3) (T := TX3) (N := 13) hx hb hts i_X6_readSound_X3 hown hK hP 2 rfl rfl 7 (by decide) (hts _ mx_X6_readSound_3) (fun _ h9 => h9) rfl dX6_readSound_130 ?_
        refine lv_iconst (v := 1) hx hb dX6_readSound_133 (by decide) ?_
        refine lv_iadd hx hb dX6_readSound_134 ?_
        refine lv_topi (fun v_14 e_14 => ?_)
        obtain rfl : v_14 = (nI (tkk + 1)) := (e_14).trans (nI_add tkk 1)
        refine va_put (D := (dC, dI)) (ci := 3) (v := .int (nI (tkk + 1))) (ty := .int) (C := RX3) (T := TX3) (N := 13) hx hb hts i_X6_readSound_X3 tyX3 tyX3_ok nmX3 hown hK hP hD hS 2 rfl rfl 7 (by decide) (hts _ mx_X6_readSound_3) (fun _ h9 => h9) rfl (by decide +kernel) rfl rfl (Nat.le_of_ble_eq_true rfl) dX6_readSound_135 (fun H locs hP hD hS => ?_)
        have hP : va_P (dC, dI) vwCl [(xo_6_ririii h bs (nI z) td fpn_10 fn_10 kn_10), (xI bs cI 120 fb), (xo_3_iiiiiiiirrrrr td tv0 tv1 tv2 tv3 (nI thh) tv5 (nI tww) (nI (tkk + 1)) tb1 tb2 tb3 tb4 tb5), (xI tb1 cI 6 tg1), (xI tb2 cI 6 g_12), (xI tb3 cI 6 g3n_13), (xI tb4 cI 6 g4n_13), (xI tb5 cI 6 g5n_13)] H := hP
        have hD := dto hP hD
        have hX9 := cut2 (wc := [(xo_6_ririii h bs (nI z) td fpn_10 fn_10 kn_10), (xI bs cI 120 fb), (xo_3_iiiiiiiirrrrr td tv0 tv1 tv2 tv3 (nI thh) tv5 (nI tww) (nI (tkk + 1)) tb1 tb2 tb3 tb4 tb5), (xI tb1 cI 6 tg1), (xI tb2 cI 6 g_12), (xI tb3 cI 6 g3n_13), (xI tb4 cI 6 g4n_13), (xI tb5 cI 6 g5n_13)]) hP hD [0, 1, 2, 3, 4, 5, 6, 7] (by decide +kernel) rfl
        exact W.vret hx hb hr (fun t ht hW => ⟨⟨(), rfl, trivial, ⟨fpn_10, fn_10, kn_10, (tkk + 1), g_12, g3n_13, g4n_13, g5n_13, va_Ht ht hX9.1, hX9.2, (lf_X6_readSound_4 thb hz htww htkk h_1 h_2 c_3 c_4 e_5 e_6 hF_7_0 hF_7_1 h_7 hF_8_0 hF_8_1 hF_9_0 hF_9_1 h_9 hF_10_0 hF_10_1 c_11 hw6 hu_12 hF_13_0 hF_13_1 hF_13_2), (lf_X6_readSound_5 thb hz htww htkk h_1 h_2 c_3 c_4 e_5 e_6 hF_7_0 hF_7_1 h_7 hF_8_0 hF_8_1 hF_9_0 hF_9_1 h_9 hF_10_0 hF_10_1 c_11 hw6 hu_12 hF_13_0 hF_13_1 hF_13_2)⟩⟩, hS.F ht⟩) hS.2.2 dX6_readSound_138
    · have c_4 : ¬ (tkk < 6) := fun q_ => c_4 ((nI_ltI (a := tkk) (b := 6) (by omega) (by omega)).mpr q_)
      refine lv_aload_n hx hb dX6_readSound_36 rfl (lv_at hl 1 rfl) ?_
      refine lv_iconst (v := 3) hx hb dX6_readSound_37 (by decide) ?_
      have hc_15 := cutW (wc := [(xo_6_ririii h bs (nI z) td fp f k)]) hP hD hS hA [0] (by decide +kernel) rfl
      refine va_callv (va_runV (As := [.int 3]) (rest := []) ⟨hx, hb, hml, hown, hts⟩ (r_X6_fail l dC dI cI cZ cL cJ s.heap.size h bs td z fp f k 3 ) (cwV 1 hts gX6_readSound_X6_fail rfl rfl rfl (by decide +kernel) ⟨Nat.le_of_ble_eq_true rfl, Nat.le_of_ble_eq_true rfl⟩) (pvW 6 0 hK hP rfl rfl hc_15) rfl rfl hl.1 rfl (lv_room (Nat.le_of_ble_eq_true rfl)) dX6_readSound_38 ⟨Nat.le_of_ble_eq_true rfl, Nat.le_of_ble_eq_true rfl⟩) hS (fun q _ h => hc_15.2.2 q h) hc_15.2.2 (fun u_15 t_15 H1 locs ht hvm h_15 hB hz1 hk1 hS => ?_)
      refine xl_2_5 hB (fun fpn_15 fn_15 hP1 hD1 hF_15_0 hF_15_1 hF_15_2 => ?_)
      clear hB
      rw [ht] at hP1
      obtain ⟨hP, hD⟩ := va_join (wr := [(xI bs cI 120 fb), (xo_3_iiiiiiiirrrrr td tv0 tv1 tv2 tv3 (nI thh) tv5 (nI tww) (nI tkk) tb1 tb2 tb3 tb4 tb5), (xI tb1 cI 6 tg1), (xI tb2 cI 6 tg2), (xI tb3 cI 6 tg3), (xI tb4 cI 6 tg4), (xI tb5 cI 6 tg5)]) (w1 := [(xo_6_ririii h bs (nI z) td fpn_15 fn_15 k)]) hP hD [0] [1, 2, 3, 4, 5, 6, 7] rfl rfl (by decide +kernel) (by decide +kernel) hk1 hc_15.2.2 hP1 hD1
      generalize H1 = H at hP hS ⊢
      have hP : va_P (dC, dI) vwCl [(xI bs cI 120 fb), (xo_3_iiiiiiiirrrrr td tv0 tv1 tv2 tv3 (nI thh) tv5 (nI tww) (nI tkk) tb1 tb2 tb3 tb4 tb5), (xI tb1 cI 6 tg1), (xI tb2 cI 6 tg2), (xI tb3 cI 6 tg3), (xI tb4 cI 6 tg4), (xI tb5 cI 6 tg5), (xo_6_ririii h bs (nI z) td fpn_15 fn_15 k)] H := hP
      have hD := dto hP hD
      refine lv_aload_n hx hb dX6_readSound_41 rfl (lv_at hl 1 rfl) ?_
      refine lv_dup hx hb dX6_readSound_42 rfl ?_
      refine va_get (D := (dC, dI)) (ci := 6) (v := .int k) (C := RX6) (T := TX6) (N := 6) hx hb hts i_X6_readSound_X6 hown hK hP 7 rfl rfl 5 (by decide) (hts _ mx_X6_readSound_1) (fun _ h9 => h9) rfl dX6_readSound_43 ?_
      refine lv_iconst (v := 1) hx hb dX6_readSound_46 (by decide) ?_
      refine lv_iadd hx hb dX6_readSound_47 ?_
      refine lv_topi (fun v_16 e_16 => ?_)
      refine va_put (D := (dC, dI)) (ci := 6) (v := .int v_16) (ty := .int) (C := RX6) (T := TX6) (N := 6) hx hb hts i_X6_readSound_X6 tyX6 tyX6_ok nmX6 hown hK hP hD hS 7 rfl rfl 5 (by decide) (hts _ mx_X6_readSound_1) (fun _ h9 => h9) rfl (by decide +kernel) rfl rfl (Nat.le_of_ble_eq_true rfl) dX6_readSound_48 (fun H locs hP hD hS => ?_)
      have hP : va_P (dC, dI) vwCl [(xI bs cI 120 fb), (xo_3_iiiiiiiirrrrr td tv0 tv1 tv2 tv3 (nI thh) tv5 (nI tww) (nI tkk) tb1 tb2 tb3 tb4 tb5), (xI tb1 cI 6 tg1), (xI tb2 cI 6 tg2), (xI tb3 cI 6 tg3), (xI tb4 cI 6 tg4), (xI tb5 cI 6 tg5), (xo_6_ririii h bs (nI z) td fpn_15 fn_15 v_16)] H := hP
      have hD := dto hP hD
      refine lv_aload_n hx hb dX6_readSound_51 rfl (lv_at hl 1 rfl) ?_
      refine lv_iconst (v := 0) hx hb dX6_readSound_52 (by decide) ?_
      refine lv_aload_n hx hb dX6_readSound_53 rfl (lv_at hl 1 rfl) ?_
      refine va_get (D := (dC, dI)) (ci := 6) (v := .ref td) (C := RX6) (T := TX6) (N := 6) hx hb hts i_X6_readSound_X6 hown hK hP 7 rfl rfl 2 (by decide) (hts _ mx_X6_readSound_2) (fun _ h9 => h9) rfl dX6_readSound_54 ?_
      refine va_get (D := (dC, dI)) (ci := 3) (v := .int tv0) (C := RX3) (T := TX3) (N := 13) hx hb hts i_X6_readSound_X3 hown hK hP 1 rfl rfl 0 (by decide) (hts _ mx_X6_readSound_4) (fun _ h9 => h9) rfl dX6_readSound_57 ?_
      refine lv_iconst (v := 1) hx hb dX6_readSound_60 (by decide) ?_
      refine lv_isub hx hb dX6_readSound_61 ?_
      refine lv_topi (fun v_17 e_17 => ?_)
      have hc_18 := cutW (wc := [(xo_6_ririii h bs (nI z) td fpn_15 fn_15 v_16), (xI bs cI 120 fb)]) hP hD hS hA [7, 0] (by decide +kernel) rfl
      refine va_calli (va_runV (As := [.int 0, .int v_17]) (rest := []) ⟨hx, hb, hml, hown, hts⟩ (r_X6_readNumber l dC dI cI cZ cL cJ H.size h bs td z fpn_15 fn_15 v_16 fb 0 v_17 (hz)) (cwV 2 hts gX6_readSound_X6_readNumber rfl rfl rfl (by decide +kernel) ⟨Nat.le_of_ble_eq_true rfl, Nat.le_of_ble_eq_true rfl⟩) (pvW 6 7 hK hP rfl rfl hc_18) rfl rfl hl.1 rfl (lv_room (Nat.le_of_ble_eq_true rfl)) dX6_readSound_62 ⟨Nat.le_of_ble_eq_true rfl, Nat.le_of_ble_eq_true rfl⟩) hS (fun q _ h => hc_18.2.2 q h) hc_18.2.2 (fun r_18 u_18 t_18 H1 locs ht hvm h_18 hB hz1 hk1 hS => ?_)
      refine xl_3_4 hB (fun fpn_18 fn_18 kn_18 hP1 hD1 hF_18_0 hF_18_1 => ?_)
      clear hB
      rw [ht] at hP1
      obtain ⟨hP, hD⟩ := va_join (wr := [(xo_3_iiiiiiiirrrrr td tv0 tv1 tv2 tv3 (nI thh) tv5 (nI tww) (nI tkk) tb1 tb2 tb3 tb4 tb5), (xI tb1 cI 6 tg1), (xI tb2 cI 6 tg2), (xI tb3 cI 6 tg3), (xI tb4 cI 6 tg4), (xI tb5 cI 6 tg5)]) (w1 := [(xo_6_ririii h bs (nI z) td fpn_18 fn_18 kn_18), (xI bs cI 120 fb)]) hP hD [7, 0] [1, 2, 3, 4, 5, 6] rfl rfl (by decide +kernel) (by decide +kernel) hk1 hc_18.2.2 hP1 hD1
      generalize H1 = H at hP hS ⊢
      have hP : va_P (dC, dI) vwCl [(xo_3_iiiiiiiirrrrr td tv0 tv1 tv2 tv3 (nI thh) tv5 (nI tww) (nI tkk) tb1 tb2 tb3 tb4 tb5), (xI tb1 cI 6 tg1), (xI tb2 cI 6 tg2), (xI tb3 cI 6 tg3), (xI tb4 cI 6 tg4), (xI tb5 cI 6 tg5), (xo_6_ririii h bs (nI z) td fpn_18 fn_18 kn_18), (xI bs cI 120 fb)] H := hP
      have hD := dto hP hD
      refine lv_istore_n (lv' := [(2, .int r_18), (1, .int r_2), (0, .ref h)]) hx hb dX6_readSound_65 rfl hl (by decide) rfl (fun ls hl => ?_)
      refine lv_aload_n hx hb dX6_readSound_66 rfl (lv_at hl 2 rfl) ?_
      refine lv_bipush (v := 44) hx hb dX6_readSound_67 (by decide) ?_
      have hc_19 := cutW (wc := [(xo_6_ririii h bs (nI z) td fpn_18 fn_18 kn_18), (xI bs cI 120 fb)]) hP hD hS hA [6, 7] (by decide +kernel) rfl
      refine va_callv (va_runV (As := [.int 44]) (rest := []) ⟨hx, hb, hml, hown, hts⟩ (r_X6_readByte l dC dI cI cZ cL cJ H.size h bs td z fpn_18 fn_18 kn_18 fb 44 (hz)) (cwV 1 hts gX6_readSound_X6_readByte rfl rfl rfl (by decide +kernel) ⟨Nat.le_of_ble_eq_true rfl, Nat.le_of_ble_eq_true rfl⟩) (pvW 6 6 hK hP rfl rfl hc_19) rfl rfl hl.1 rfl (lv_room (Nat.le_of_ble_eq_true rfl)) dX6_readSound_69 ⟨Nat.le_of_ble_eq_true rfl, Nat.le_of_ble_eq_true rfl⟩) hS (fun q _ h => hc_19.2.2 q h) hc_19.2.2 (fun u_19 t_19 H1 locs ht hvm h_19 hB hz1 hk1 hS => ?_)
      refine xl_3_4 hB (fun fpn_19 fn_19 kn_19 hP1 hD1 hF_19_0 hF_19_1 => ?_)
      clear hB
      rw [ht] at hP1
      obtain ⟨hP, hD⟩ := va_join (wr := [(xo_3_iiiiiiiirrrrr td tv0 tv1 tv2 tv3 (nI thh) tv5 (nI tww) (nI tkk) tb1 tb2 tb3 tb4 tb5), (xI tb1 cI 6 tg1), (xI tb2 cI 6 tg2), (xI tb3 cI 6 tg3), (xI tb4 cI 6 tg4), (xI tb5 cI 6 tg5)]) (w1 := [(xo_6_ririii h bs (nI z) td fpn_19 fn_19 kn_19), (xI bs cI 120 fb)]) hP hD [6, 7] [0, 1, 2, 3, 4, 5] rfl rfl (by decide +kernel) (by decide +kernel) hk1 hc_19.2.2 hP1 hD1
      generalize H1 = H at hP hS ⊢
      have hP : va_P (dC, dI) vwCl [(xo_3_iiiiiiiirrrrr td tv0 tv1 tv2 tv3 (nI thh) tv5 (nI tww) (nI tkk) tb1 tb2 tb3 tb4 tb5), (xI tb1 cI 6 tg1), (xI tb2 cI 6 tg2), (xI tb3 cI 6 tg3), (xI tb4 cI 6 tg4), (xI tb5 cI 6 tg5), (xo_6_ririii h bs (nI z) td fpn_19 fn_19 kn_19), (xI bs cI 120 fb)] H := hP
      have hD := dto hP hD
      refine lv_aload_n hx hb dX6_readSound_72 rfl (lv_at hl 2 rfl) ?_
      refine lv_iconst (v := 1) hx hb dX6_readSound_73 (by decide) ?_
      refine lv_bipush (v := 20) hx hb dX6_readSound_74 (by decide) ?_
      have hc_20 := cutW (wc := [(xo_6_ririii h bs (nI z) td fpn_19 fn_19 kn_19), (xI bs cI 120 fb)]) hP hD hS hA [6, 7] (by decide +kernel) rfl
      refine va_calli (va_runV (As := [.int 1, .int 20]) (rest := []) ⟨hx, hb, hml, hown, hts⟩ (r_X6_readNumber l dC dI cI cZ cL cJ H.size h bs td z fpn_19 fn_19 kn_19 fb 1 20 (hz)) (cwV 2 hts gX6_readSound_X6_readNumber rfl rfl rfl (by decide +kernel) ⟨Nat.le_of_ble_eq_true rfl, Nat.le_of_ble_eq_true rfl⟩) (pvW 6 6 hK hP rfl rfl hc_20) rfl rfl hl.1 rfl (lv_room (Nat.le_of_ble_eq_true rfl)) dX6_readSound_76 ⟨Nat.le_of_ble_eq_true rfl, Nat.le_of_ble_eq_true rfl⟩) hS (fun q _ h => hc_20.2.2 q h) hc_20.2.2 (fun r_20 u_20 t_20 H1 locs ht hvm h_20 hB hz1 hk1 hS => ?_)
      refine xl_3_4 hB (fun fpn_20 fn_20 kn_20 hP1 hD1 hF_20_0 hF_20_1 => ?_)
      clear hB
      rw [ht] at hP1
      obtain ⟨hP, hD⟩ := va_join (wr := [(xo_3_iiiiiiiirrrrr td tv0 tv1 tv2 tv3 (nI thh) tv5 (nI tww) (nI tkk) tb1 tb2 tb3 tb4 tb5), (xI tb1 cI 6 tg1), (xI tb2 cI 6 tg2), (xI tb3 cI 6 tg3), (xI tb4 cI 6 tg4), (xI tb5 cI 6 tg5)]) (w1 := [(xo_6_ririii h bs (nI z) td fpn_20 fn_20 kn_20), (xI bs cI 120 fb)]) hP hD [6, 7] [0, 1, 2, 3, 4, 5] rfl rfl (by decide +kernel) (by decide +kernel) hk1 hc_20.2.2 hP1 hD1
      generalize H1 = H at hP hS ⊢
      have hP : va_P (dC, dI) vwCl [(xo_3_iiiiiiiirrrrr td tv0 tv1 tv2 tv3 (nI thh) tv5 (nI tww) (nI tkk) tb1 tb2 tb3 tb4 tb5), (xI tb1 cI 6 tg1), (xI tb2 cI 6 tg2), (xI tb3 cI 6 tg3), (xI tb4 cI 6 tg4), (xI tb5 cI 6 tg5), (xo_6_ririii h bs (nI z) td fpn_20 fn_20 kn_20), (xI bs cI 120 fb)] H := hP
      have hD := dto hP hD
      refine lv_istore_n (lv' := [(3, .int r_20), (2, .int r_18), (1, .int r_2), (0, .ref h)]) hx hb dX6_readSound_79 rfl hl (by decide) rfl (fun ls hl => ?_)
      refine lv_aload_n hx hb dX6_readSound_80 rfl (lv_at hl 3 rfl) ?_
      refine lv_bipush (v := 59) hx hb dX6_readSound_81 (by decide) ?_
      have hc_21 := cutW (wc := [(xo_6_ririii h bs (nI z) td fpn_20 fn_20 kn_20), (xI bs cI 120 fb)]) hP hD hS hA [6, 7] (by decide +kernel) rfl
      refine va_callv (va_runV (As := [.int 59]) (rest := []) ⟨hx, hb, hml, hown, hts⟩ (r_X6_readByte l dC dI cI cZ cL cJ H.size h bs td z fpn_20 fn_20 kn_20 fb 59 (hz)) (cwV 1 hts gX6_readSound_X6_readByte rfl rfl rfl (by decide +kernel) ⟨Nat.le_of_ble_eq_true rfl, Nat.le_of_ble_eq_true rfl⟩) (pvW 6 6 hK hP rfl rfl hc_21) rfl rfl hl.1 rfl (lv_room (Nat.le_of_ble_eq_true rfl)) dX6_readSound_83 ⟨Nat.le_of_ble_eq_true rfl, Nat.le_of_ble_eq_true rfl⟩) hS (fun q _ h => hc_21.2.2 q h) hc_21.2.2 (fun u_21 t_21 H1 locs ht hvm h_21 hB hz1 hk1 hS => ?_)
      refine xl_3_4 hB (fun fpn_21 fn_21 kn_21 hP1 hD1 hF_21_0 hF_21_1 => ?_)
      clear hB
      rw [ht] at hP1
      obtain ⟨hP, hD⟩ := va_join (wr := [(xo_3_iiiiiiiirrrrr td tv0 tv1 tv2 tv3 (nI thh) tv5 (nI tww) (nI tkk) tb1 tb2 tb3 tb4 tb5), (xI tb1 cI 6 tg1), (xI tb2 cI 6 tg2), (xI tb3 cI 6 tg3), (xI tb4 cI 6 tg4), (xI tb5 cI 6 tg5)]) (w1 := [(xo_6_ririii h bs (nI z) td fpn_21 fn_21 kn_21), (xI bs cI 120 fb)]) hP hD [6, 7] [0, 1, 2, 3, 4, 5] rfl rfl (by decide +kernel) (by decide +kernel) hk1 hc_21.2.2 hP1 hD1
      generalize H1 = H at hP hS ⊢
      have hP : va_P (dC, dI) vwCl [(xo_3_iiiiiiiirrrrr td tv0 tv1 tv2 tv3 (nI thh) tv5 (nI tww) (nI tkk) tb1 tb2 tb3 tb4 tb5), (xI tb1 cI 6 tg1), (xI tb2 cI 6 tg2), (xI tb3 cI 6 tg3), (xI tb4 cI 6 tg4), (xI tb5 cI 6 tg5), (xo_6_ririii h bs (nI z) td fpn_21 fn_21 kn_21), (xI bs cI 120 fb)] H := hP
      have hD := dto hP hD
      refine lv_aload_n hx hb dX6_readSound_86 rfl (lv_at hl 3 rfl) ?_
      refine va_get (D := (dC, dI)) (ci := 6) (v := .int fn_21) (C := RX6) (T := TX6) (N := 6) hx hb hts i_X6_readSound_X6 hown hK hP 6 rfl rfl 4 (by decide) (hts _ mx_X6_readSound_5) (fun _ h9 => h9) rfl dX6_readSound_87 ?_
      refine lv_if_ne (tgt := 138) hx hb dX6_readSound_90 (by decide) (fun c_22 => ?_) (fun c_22 => ?_)
      · skip
        have hX9 := cut2 (wc := [(xo_6_ririii h bs (nI z) td fpn_21 fn_21 kn_21), (xI bs cI 120 fb), (xo_3_iiiiiiiirrrrr td tv0 tv1 tv2 tv3 (nI thh) tv5 (nI tww) (nI tkk) tb1 tb2 tb3 tb4 tb5), (xI tb1 cI 6 tg1), (xI tb2 cI 6 tg2), (xI tb3 cI 6 tg3), (xI tb4 cI 6 tg4), (xI tb5 cI 6 tg5)]) hP hD [6, 7, 0, 1, 2, 3, 4, 5] (by decide +kernel) rfl
        exact W.vret hx hb hr (fun t ht hW => ⟨⟨(), rfl, trivial, ⟨fpn_21, fn_21, kn_21, tkk, tg2, tg3, tg4, tg5, va_Ht ht hX9.1, hX9.2, (lf_X6_readSound_6 thb hz htww htkk h_1 h_2 c_3 c_4 hF_15_0 hF_15_1 hF_15_2 e_16 e_17 hF_18_0 hF_18_1 h_18 hF_19_0 hF_19_1 hF_20_0 hF_20_1 h_20 hF_21_0 hF_21_1 c_22), (lf_X6_readSound_7 thb hz htww htkk h_1 h_2 c_3 c_4 hF_15_0 hF_15_1 hF_15_2 e_16 e_17 hF_18_0 hF_18_1 h_18 hF_19_0 hF_19_1 hF_20_0 hF_20_1 h_20 hF_21_0 hF_21_1 c_22)⟩⟩, hS.F ht⟩) hS.2.2 dX6_readSound_138
      · skip
        have hw6 : tkk < 6 := (lf_X6_readSound_8 thb hz htww htkk h_1 h_2 c_3 c_4 hF_15_0 hF_15_1 hF_15_2 e_16 e_17 hF_18_0 hF_18_1 h_18 hF_19_0 hF_19_1 hF_20_0 hF_20_1 h_20 hF_21_0 hF_21_1 c_22)
        refine lv_aload_n hx hb dX6_readSound_93 rfl (lv_at hl 3 rfl) ?_
        refine va_get (D := (dC, dI)) (ci := 6) (v := .ref td) (C := RX6) (T := TX6) (N := 6) hx hb hts i_X6_readSound_X6 hown hK hP 6 rfl rfl 2 (by decide) (hts _ mx_X6_readSound_2) (fun _ h9 => h9) rfl dX6_readSound_94 ?_
        refine va_get (D := (dC, dI)) (ci := 3) (v := .ref tb2) (C := RX3) (T := TX3) (N := 13) hx hb hts i_X6_readSound_X3 hown hK hP 0 rfl rfl 9 (by decide) (hts _ mx_X6_readSound_6) (fun _ h9 => h9) rfl dX6_readSound_97 ?_
        refine lv_aload_n hx hb dX6_readSound_100 rfl (lv_at hl 3 rfl) ?_
        refine va_get (D := (dC, dI)) (ci := 6) (v := .ref td) (C := RX6) (T := TX6) (N := 6) hx hb hts i_X6_readSound_X6 hown hK hP 6 rfl rfl 2 (by decide) (hts _ mx_X6_readSound_2) (fun _ h9 => h9) rfl dX6_readSound_101 ?_
        refine va_get (D := (dC, dI)) (ci := 3) (v := .int (nI tkk)) (C := RX3) (T := TX3) (N := 13) hx hb hts i_X6_readSound_X3 hown hK hP 0 rfl rfl 7 (by decide) (hts _ mx_X6_readSound_3) (fun _ h9 => h9) rfl dX6_readSound_104 ?_
        refine lv_iload_n hx hb dX6_readSound_107 rfl (lv_at hl 2 rfl) ?_
        refine va_iast hx hb hK hP hD hS 2 0 rfl rfl (vp_in_nI (by omega) (by omega)) dX6_readSound_108 (fun H locs hP hD hS => ?_)
        generalize hg_23 : upd tg2 ((nI tkk) : Int32).toNatClampNeg r_2 = g_23 at hP hD
        have hu_23 : g_23 = upd tg2 tkk r_2 := (by rw [← hg_23, nI_clamp (by omega)])
        have hP : va_P (dC, dI) vwCl [(xo_3_iiiiiiiirrrrr td tv0 tv1 tv2 tv3 (nI thh) tv5 (nI tww) (nI tkk) tb1 tb2 tb3 tb4 tb5), (xI tb1 cI 6 tg1), (xI tb2 cI 6 g_23), (xI tb3 cI 6 tg3), (xI tb4 cI 6 tg4), (xI tb5 cI 6 tg5), (xo_6_ririii h bs (nI z) td fpn_21 fn_21 kn_21), (xI bs cI 120 fb)] H := hP
        have hD := dto hP hD
        refine lv_aload_n hx hb dX6_readSound_109 rfl (lv_at hl 3 rfl) ?_
        refine va_get (D := (dC, dI)) (ci := 6) (v := .ref td) (C := RX6) (T := TX6) (N := 6) hx hb hts i_X6_readSound_X6 hown hK hP 6 rfl rfl 2 (by decide) (hts _ mx_X6_readSound_2) (fun _ h9 => h9) rfl dX6_readSound_110 ?_
        refine lv_aload_n hx hb dX6_readSound_113 rfl (lv_at hl 3 rfl) ?_
        refine va_get (D := (dC, dI)) (ci := 6) (v := .ref td) (C := RX6) (T := TX6) (N := 6) hx hb hts i_X6_readSound_X6 hown hK hP 6 rfl rfl 2 (by decide) (hts _ mx_X6_readSound_2) (fun _ h9 => h9) rfl dX6_readSound_114 ?_
        refine va_get (D := (dC, dI)) (ci := 3) (v := .int (nI tkk)) (C := RX3) (T := TX3) (N := 13) hx hb hts i_X6_readSound_X3 hown hK hP 0 rfl rfl 7 (by decide) (hts _ mx_X6_readSound_3) (fun _ h9 => h9) rfl dX6_readSound_117 ?_
        refine lv_iload_n hx hb dX6_readSound_120 rfl (lv_at hl 1 rfl) ?_
        refine lv_iload_n hx hb dX6_readSound_121 rfl (lv_at hl 0 rfl) ?_
        have hc_24 := cutW (wc := [(xo_3_iiiiiiiirrrrr td tv0 tv1 tv2 tv3 (nI thh) tv5 (nI tww) (nI tkk) tb1 tb2 tb3 tb4 tb5), (xI tb1 cI 6 tg1), (xI tb2 cI 6 g_23), (xI tb3 cI 6 tg3), (xI tb4 cI 6 tg4), (xI tb5 cI 6 tg5)]) hP hD hS hA [0, 1, 2, 3, 4, 5] (by decide +kernel) rfl
        refine va_callv (va_runV (As := [.int (nI tkk), .int r_18, .int r_20]) (rest := []) ⟨hx, hb, hml, hown, hts⟩ (r_X3_letLoose l dC dI cI cZ cL cJ H.size td tv0 tv1 tv2 tv3 tv5 thh tww tkk tb1 tb2 tb3 tb4 tb5 tg1 g_23 tg3 tg4 tg5 tkk r_18 r_20 (by omega) (htww) (by omega) (by omega)) (cwV 3 hts gX6_readSound_X3_letLoose rfl rfl rfl (by decide +kernel) ⟨Nat.le_of_ble_eq_true rfl, Nat.le_of_ble_eq_true rfl⟩) (pvW 3 0 hK hP rfl rfl hc_24) rfl rfl hl.1 rfl (lv_room (Nat.le_of_ble_eq_true rfl)) dX6_readSound_122 ⟨Nat.le_of_ble_eq_true rfl, Nat.le_of_ble_eq_true rfl⟩) hS (fun q _ h => hc_24.2.2 q h) hc_24.2.2 (fun u_24 t_24 H1 locs ht hvm h_24 hB hz1 hk1 hS => ?_)
        refine xl_3_5 hB (fun g3n_24 g4n_24 g5n_24 hP1 hD1 hF_24_0 hF_24_1 hF_24_2 => ?_)
        clear hB
        rw [ht] at hP1
        obtain ⟨hP, hD⟩ := va_join (wr := [(xo_6_ririii h bs (nI z) td fpn_21 fn_21 kn_21), (xI bs cI 120 fb)]) (w1 := [(xo_3_iiiiiiiirrrrr td tv0 tv1 tv2 tv3 (nI thh) tv5 (nI tww) (nI tkk) tb1 tb2 tb3 tb4 tb5), (xI tb1 cI 6 tg1), (xI tb2 cI 6 g_23), (xI tb3 cI 6 g3n_24), (xI tb4 cI 6 g4n_24), (xI tb5 cI 6 g5n_24)]) hP hD [0, 1, 2, 3, 4, 5] [6, 7] rfl rfl (by decide +kernel) (by decide +kernel) hk1 hc_24.2.2 hP1 hD1
        generalize H1 = H at hP hS ⊢
        have hP : va_P (dC, dI) vwCl [(xo_6_ririii h bs (nI z) td fpn_21 fn_21 kn_21), (xI bs cI 120 fb), (xo_3_iiiiiiiirrrrr td tv0 tv1 tv2 tv3 (nI thh) tv5 (nI tww) (nI tkk) tb1 tb2 tb3 tb4 tb5), (xI tb1 cI 6 tg1), (xI tb2 cI 6 g_23), (xI tb3 cI 6 g3n_24), (xI tb4 cI 6 g4n_24), (xI tb5 cI 6 g5n_24)] H := hP
        have hD := dto hP hD
        refine lv_aload_n hx hb dX6_readSound_125 rfl (lv_at hl 3 rfl) ?_
        refine va_get (D := (dC, dI)) (ci := 6) (v := .ref td) (C := RX6) (T := TX6) (N := 6) hx hb hts i_X6_readSound_X6 hown hK hP 0 rfl rfl 2 (by decide) (hts _ mx_X6_readSound_2) (fun _ h9 => h9) rfl dX6_readSound_126 ?_
        refine lv_dup hx hb dX6_readSound_129 rfl ?_
        refine va_get (D := (dC, dI)) (ci := 3) (v := .int (nI tkk)) (C := RX3) (T := TX3) (N := 13) hx hb hts i_X6_readSound_X3 hown hK hP 2 rfl rfl 7 (by decide) (hts _ mx_X6_readSound_3) (fun _ h9 => h9) rfl dX6_readSound_130 ?_
        refine lv_iconst (v := 1) hx hb dX6_readSound_133 (by decide) ?_
        refine lv_iadd hx hb dX6_readSound_134 ?_
        refine lv_topi (fun v_25 e_25 => ?_)
        obtain rfl : v_25 = (nI (tkk + 1)) := (e_25).trans (nI_add tkk 1)
        refine va_put (D := (dC, dI)) (ci := 3) (v := .int (nI (tkk + 1))) (ty := .int) (C := RX3) (T := TX3) (N := 13) hx hb hts i_X6_readSound_X3 tyX3 tyX3_ok nmX3 hown hK hP hD hS 2 rfl rfl 7 (by decide) (hts _ mx_X6_readSound_3) (fun _ h9 => h9) rfl (by decide +kernel) rfl rfl (Nat.le_of_ble_eq_true rfl) dX6_readSound_135 (fun H locs hP hD hS => ?_)
        have hP : va_P (dC, dI) vwCl [(xo_6_ririii h bs (nI z) td fpn_21 fn_21 kn_21), (xI bs cI 120 fb), (xo_3_iiiiiiiirrrrr td tv0 tv1 tv2 tv3 (nI thh) tv5 (nI tww) (nI (tkk + 1)) tb1 tb2 tb3 tb4 tb5), (xI tb1 cI 6 tg1), (xI tb2 cI 6 g_23), (xI tb3 cI 6 g3n_24), (xI tb4 cI 6 g4n_24), (xI tb5 cI 6 g5n_24)] H := hP
        have hD := dto hP hD
        have hX9 := cut2 (wc := [(xo_6_ririii h bs (nI z) td fpn_21 fn_21 kn_21), (xI bs cI 120 fb), (xo_3_iiiiiiiirrrrr td tv0 tv1 tv2 tv3 (nI thh) tv5 (nI tww) (nI (tkk + 1)) tb1 tb2 tb3 tb4 tb5), (xI tb1 cI 6 tg1), (xI tb2 cI 6 g_23), (xI tb3 cI 6 g3n_24), (xI tb4 cI 6 g4n_24), (xI tb5 cI 6 g5n_24)]) hP hD [0, 1, 2, 3, 4, 5, 6, 7] (by decide +kernel) rfl
        exact W.vret hx hb hr (fun t ht hW => ⟨⟨(), rfl, trivial, ⟨fpn_21, fn_21, kn_21, (tkk + 1), g_23, g3n_24, g4n_24, g5n_24, va_Ht ht hX9.1, hX9.2, (lf_X6_readSound_9 thb hz htww htkk h_1 h_2 c_3 c_4 hF_15_0 hF_15_1 hF_15_2 e_16 e_17 hF_18_0 hF_18_1 h_18 hF_19_0 hF_19_1 hF_20_0 hF_20_1 h_20 hF_21_0 hF_21_1 c_22 hw6 hu_23 hF_24_0 hF_24_1 hF_24_2), (lf_X6_readSound_10 thb hz htww htkk h_1 h_2 c_3 c_4 hF_15_0 hF_15_1 hF_15_2 e_16 e_17 hF_18_0 hF_18_1 h_18 hF_19_0 hF_19_1 hF_20_0 hF_20_1 h_20 hF_21_0 hF_21_1 c_22 hw6 hu_23 hF_24_0 hF_24_1 hF_24_2)⟩⟩, hS.F ht⟩) hS.2.2 dX6_readSound_138
  · skip
    refine lv_aload_n hx hb dX6_readSound_16 rfl (lv_at hl 1 rfl) ?_
    refine lv_iconst (v := 1) hx hb dX6_readSound_17 (by decide) ?_
    have hc_26 := cutW (wc := [(xo_6_ririii h bs (nI z) td fp f k)]) hP hD hS hA [0] (by decide +kernel) rfl
    refine va_callv (va_runV (As := [.int 1]) (rest := []) ⟨hx, hb, hml, hown, hts⟩ (r_X6_fail l dC dI cI cZ cL cJ s.heap.size h bs td z fp f k 1 ) (cwV 1 hts gX6_readSound_X6_fail rfl rfl rfl (by decide +kernel) ⟨Nat.le_of_ble_eq_true rfl, Nat.le_of_ble_eq_true rfl⟩) (pvW 6 0 hK hP rfl rfl hc_26) rfl rfl hl.1 rfl (lv_room (Nat.le_of_ble_eq_true rfl)) dX6_readSound_18 ⟨Nat.le_of_ble_eq_true rfl, Nat.le_of_ble_eq_true rfl⟩) hS (fun q _ h => hc_26.2.2 q h) hc_26.2.2 (fun u_26 t_26 H1 locs ht hvm h_26 hB hz1 hk1 hS => ?_)
    refine xl_2_5 hB (fun fpn_26 fn_26 hP1 hD1 hF_26_0 hF_26_1 hF_26_2 => ?_)
    clear hB
    rw [ht] at hP1
    obtain ⟨hP, hD⟩ := va_join (wr := [(xI bs cI 120 fb), (xo_3_iiiiiiiirrrrr td tv0 tv1 tv2 tv3 (nI thh) tv5 (nI tww) (nI tkk) tb1 tb2 tb3 tb4 tb5), (xI tb1 cI 6 tg1), (xI tb2 cI 6 tg2), (xI tb3 cI 6 tg3), (xI tb4 cI 6 tg4), (xI tb5 cI 6 tg5)]) (w1 := [(xo_6_ririii h bs (nI z) td fpn_26 fn_26 k)]) hP hD [0] [1, 2, 3, 4, 5, 6, 7] rfl rfl (by decide +kernel) (by decide +kernel) hk1 hc_26.2.2 hP1 hD1
    generalize H1 = H at hP hS ⊢
    have hP : va_P (dC, dI) vwCl [(xI bs cI 120 fb), (xo_3_iiiiiiiirrrrr td tv0 tv1 tv2 tv3 (nI thh) tv5 (nI tww) (nI tkk) tb1 tb2 tb3 tb4 tb5), (xI tb1 cI 6 tg1), (xI tb2 cI 6 tg2), (xI tb3 cI 6 tg3), (xI tb4 cI 6 tg4), (xI tb5 cI 6 tg5), (xo_6_ririii h bs (nI z) td fpn_26 fn_26 k)] H := hP
    have hD := dto hP hD
    refine lv_goto (tgt := 41) hx hb dX6_readSound_21 (by decide) ?_
    refine lv_aload_n hx hb dX6_readSound_41 rfl (lv_at hl 1 rfl) ?_
    refine lv_dup hx hb dX6_readSound_42 rfl ?_
    refine va_get (D := (dC, dI)) (ci := 6) (v := .int k) (C := RX6) (T := TX6) (N := 6) hx hb hts i_X6_readSound_X6 hown hK hP 7 rfl rfl 5 (by decide) (hts _ mx_X6_readSound_1) (fun _ h9 => h9) rfl dX6_readSound_43 ?_
    refine lv_iconst (v := 1) hx hb dX6_readSound_46 (by decide) ?_
    refine lv_iadd hx hb dX6_readSound_47 ?_
    refine lv_topi (fun v_27 e_27 => ?_)
    refine va_put (D := (dC, dI)) (ci := 6) (v := .int v_27) (ty := .int) (C := RX6) (T := TX6) (N := 6) hx hb hts i_X6_readSound_X6 tyX6 tyX6_ok nmX6 hown hK hP hD hS 7 rfl rfl 5 (by decide) (hts _ mx_X6_readSound_1) (fun _ h9 => h9) rfl (by decide +kernel) rfl rfl (Nat.le_of_ble_eq_true rfl) dX6_readSound_48 (fun H locs hP hD hS => ?_)
    have hP : va_P (dC, dI) vwCl [(xI bs cI 120 fb), (xo_3_iiiiiiiirrrrr td tv0 tv1 tv2 tv3 (nI thh) tv5 (nI tww) (nI tkk) tb1 tb2 tb3 tb4 tb5), (xI tb1 cI 6 tg1), (xI tb2 cI 6 tg2), (xI tb3 cI 6 tg3), (xI tb4 cI 6 tg4), (xI tb5 cI 6 tg5), (xo_6_ririii h bs (nI z) td fpn_26 fn_26 v_27)] H := hP
    have hD := dto hP hD
    refine lv_aload_n hx hb dX6_readSound_51 rfl (lv_at hl 1 rfl) ?_
    refine lv_iconst (v := 0) hx hb dX6_readSound_52 (by decide) ?_
    refine lv_aload_n hx hb dX6_readSound_53 rfl (lv_at hl 1 rfl) ?_
    refine va_get (D := (dC, dI)) (ci := 6) (v := .ref td) (C := RX6) (T := TX6) (N := 6) hx hb hts i_X6_readSound_X6 hown hK hP 7 rfl rfl 2 (by decide) (hts _ mx_X6_readSound_2) (fun _ h9 => h9) rfl dX6_readSound_54 ?_
    refine va_get (D := (dC, dI)) (ci := 3) (v := .int tv0) (C := RX3) (T := TX3) (N := 13) hx hb hts i_X6_readSound_X3 hown hK hP 1 rfl rfl 0 (by decide) (hts _ mx_X6_readSound_4) (fun _ h9 => h9) rfl dX6_readSound_57 ?_
    refine lv_iconst (v := 1) hx hb dX6_readSound_60 (by decide) ?_
    refine lv_isub hx hb dX6_readSound_61 ?_
    refine lv_topi (fun v_28 e_28 => ?_)
    have hc_29 := cutW (wc := [(xo_6_ririii h bs (nI z) td fpn_26 fn_26 v_27), (xI bs cI 120 fb)]) hP hD hS hA [7, 0] (by decide +kernel) rfl
    refine va_calli (va_runV (As := [.int 0, .int v_28]) (rest := []) ⟨hx, hb, hml, hown, hts⟩ (r_X6_readNumber l dC dI cI cZ cL cJ H.size h bs td z fpn_26 fn_26 v_27 fb 0 v_28 (hz)) (cwV 2 hts gX6_readSound_X6_readNumber rfl rfl rfl (by decide +kernel) ⟨Nat.le_of_ble_eq_true rfl, Nat.le_of_ble_eq_true rfl⟩) (pvW 6 7 hK hP rfl rfl hc_29) rfl rfl hl.1 rfl (lv_room (Nat.le_of_ble_eq_true rfl)) dX6_readSound_62 ⟨Nat.le_of_ble_eq_true rfl, Nat.le_of_ble_eq_true rfl⟩) hS (fun q _ h => hc_29.2.2 q h) hc_29.2.2 (fun r_29 u_29 t_29 H1 locs ht hvm h_29 hB hz1 hk1 hS => ?_)
    refine xl_3_4 hB (fun fpn_29 fn_29 kn_29 hP1 hD1 hF_29_0 hF_29_1 => ?_)
    clear hB
    rw [ht] at hP1
    obtain ⟨hP, hD⟩ := va_join (wr := [(xo_3_iiiiiiiirrrrr td tv0 tv1 tv2 tv3 (nI thh) tv5 (nI tww) (nI tkk) tb1 tb2 tb3 tb4 tb5), (xI tb1 cI 6 tg1), (xI tb2 cI 6 tg2), (xI tb3 cI 6 tg3), (xI tb4 cI 6 tg4), (xI tb5 cI 6 tg5)]) (w1 := [(xo_6_ririii h bs (nI z) td fpn_29 fn_29 kn_29), (xI bs cI 120 fb)]) hP hD [7, 0] [1, 2, 3, 4, 5, 6] rfl rfl (by decide +kernel) (by decide +kernel) hk1 hc_29.2.2 hP1 hD1
    generalize H1 = H at hP hS ⊢
    have hP : va_P (dC, dI) vwCl [(xo_3_iiiiiiiirrrrr td tv0 tv1 tv2 tv3 (nI thh) tv5 (nI tww) (nI tkk) tb1 tb2 tb3 tb4 tb5), (xI tb1 cI 6 tg1), (xI tb2 cI 6 tg2), (xI tb3 cI 6 tg3), (xI tb4 cI 6 tg4), (xI tb5 cI 6 tg5), (xo_6_ririii h bs (nI z) td fpn_29 fn_29 kn_29), (xI bs cI 120 fb)] H := hP
    have hD := dto hP hD
    refine lv_istore_n (lv' := [(2, .int r_29), (1, .int r_2), (0, .ref h)]) hx hb dX6_readSound_65 rfl hl (by decide) rfl (fun ls hl => ?_)
    refine lv_aload_n hx hb dX6_readSound_66 rfl (lv_at hl 2 rfl) ?_
    refine lv_bipush (v := 44) hx hb dX6_readSound_67 (by decide) ?_
    have hc_30 := cutW (wc := [(xo_6_ririii h bs (nI z) td fpn_29 fn_29 kn_29), (xI bs cI 120 fb)]) hP hD hS hA [6, 7] (by decide +kernel) rfl
    refine va_callv (va_runV (As := [.int 44]) (rest := []) ⟨hx, hb, hml, hown, hts⟩ (r_X6_readByte l dC dI cI cZ cL cJ H.size h bs td z fpn_29 fn_29 kn_29 fb 44 (hz)) (cwV 1 hts gX6_readSound_X6_readByte rfl rfl rfl (by decide +kernel) ⟨Nat.le_of_ble_eq_true rfl, Nat.le_of_ble_eq_true rfl⟩) (pvW 6 6 hK hP rfl rfl hc_30) rfl rfl hl.1 rfl (lv_room (Nat.le_of_ble_eq_true rfl)) dX6_readSound_69 ⟨Nat.le_of_ble_eq_true rfl, Nat.le_of_ble_eq_true rfl⟩) hS (fun q _ h => hc_30.2.2 q h) hc_30.2.2 (fun u_30 t_30 H1 locs ht hvm h_30 hB hz1 hk1 hS => ?_)
    refine xl_3_4 hB (fun fpn_30 fn_30 kn_30 hP1 hD1 hF_30_0 hF_30_1 => ?_)
    clear hB
    rw [ht] at hP1
    obtain ⟨hP, hD⟩ := va_join (wr := [(xo_3_iiiiiiiirrrrr td tv0 tv1 tv2 tv3 (nI thh) tv5 (nI tww) (nI tkk) tb1 tb2 tb3 tb4 tb5), (xI tb1 cI 6 tg1), (xI tb2 cI 6 tg2), (xI tb3 cI 6 tg3), (xI tb4 cI 6 tg4), (xI tb5 cI 6 tg5)]) (w1 := [(xo_6_ririii h bs (nI z) td fpn_30 fn_30 kn_30), (xI bs cI 120 fb)]) hP hD [6, 7] [0, 1, 2, 3, 4, 5] rfl rfl (by decide +kernel) (by decide +kernel) hk1 hc_30.2.2 hP1 hD1
    generalize H1 = H at hP hS ⊢
    have hP : va_P (dC, dI) vwCl [(xo_3_iiiiiiiirrrrr td tv0 tv1 tv2 tv3 (nI thh) tv5 (nI tww) (nI tkk) tb1 tb2 tb3 tb4 tb5), (xI tb1 cI 6 tg1), (xI tb2 cI 6 tg2), (xI tb3 cI 6 tg3), (xI tb4 cI 6 tg4), (xI tb5 cI 6 tg5), (xo_6_ririii h bs (nI z) td fpn_30 fn_30 kn_30), (xI bs cI 120 fb)] H := hP
    have hD := dto hP hD
    refine lv_aload_n hx hb dX6_readSound_72 rfl (lv_at hl 2 rfl) ?_
    refine lv_iconst (v := 1) hx hb dX6_readSound_73 (by decide) ?_
    refine lv_bipush (v := 20) hx hb dX6_readSound_74 (by decide) ?_
    have hc_31 := cutW (wc := [(xo_6_ririii h bs (nI z) td fpn_30 fn_30 kn_30), (xI bs cI 120 fb)]) hP hD hS hA [6, 7] (by decide +kernel) rfl
    refine va_calli (va_runV (As := [.int 1, .int 20]) (rest := []) ⟨hx, hb, hml, hown, hts⟩ (r_X6_readNumber l dC dI cI cZ cL cJ H.size h bs td z fpn_30 fn_30 kn_30 fb 1 20 (hz)) (cwV 2 hts gX6_readSound_X6_readNumber rfl rfl rfl (by decide +kernel) ⟨Nat.le_of_ble_eq_true rfl, Nat.le_of_ble_eq_true rfl⟩) (pvW 6 6 hK hP rfl rfl hc_31) rfl rfl hl.1 rfl (lv_room (Nat.le_of_ble_eq_true rfl)) dX6_readSound_76 ⟨Nat.le_of_ble_eq_true rfl, Nat.le_of_ble_eq_true rfl⟩) hS (fun q _ h => hc_31.2.2 q h) hc_31.2.2 (fun r_31 u_31 t_31 H1 locs ht hvm h_31 hB hz1 hk1 hS => ?_)
    refine xl_3_4 hB (fun fpn_31 fn_31 kn_31 hP1 hD1 hF_31_0 hF_31_1 => ?_)
    clear hB
    rw [ht] at hP1
    obtain ⟨hP, hD⟩ := va_join (wr := [(xo_3_iiiiiiiirrrrr td tv0 tv1 tv2 tv3 (nI thh) tv5 (nI tww) (nI tkk) tb1 tb2 tb3 tb4 tb5), (xI tb1 cI 6 tg1), (xI tb2 cI 6 tg2), (xI tb3 cI 6 tg3), (xI tb4 cI 6 tg4), (xI tb5 cI 6 tg5)]) (w1 := [(xo_6_ririii h bs (nI z) td fpn_31 fn_31 kn_31), (xI bs cI 120 fb)]) hP hD [6, 7] [0, 1, 2, 3, 4, 5] rfl rfl (by decide +kernel) (by decide +kernel) hk1 hc_31.2.2 hP1 hD1
    generalize H1 = H at hP hS ⊢
    have hP : va_P (dC, dI) vwCl [(xo_3_iiiiiiiirrrrr td tv0 tv1 tv2 tv3 (nI thh) tv5 (nI tww) (nI tkk) tb1 tb2 tb3 tb4 tb5), (xI tb1 cI 6 tg1), (xI tb2 cI 6 tg2), (xI tb3 cI 6 tg3), (xI tb4 cI 6 tg4), (xI tb5 cI 6 tg5), (xo_6_ririii h bs (nI z) td fpn_31 fn_31 kn_31), (xI bs cI 120 fb)] H := hP
    have hD := dto hP hD
    refine lv_istore_n (lv' := [(3, .int r_31), (2, .int r_29), (1, .int r_2), (0, .ref h)]) hx hb dX6_readSound_79 rfl hl (by decide) rfl (fun ls hl => ?_)
    refine lv_aload_n hx hb dX6_readSound_80 rfl (lv_at hl 3 rfl) ?_
    refine lv_bipush (v := 59) hx hb dX6_readSound_81 (by decide) ?_
    have hc_32 := cutW (wc := [(xo_6_ririii h bs (nI z) td fpn_31 fn_31 kn_31), (xI bs cI 120 fb)]) hP hD hS hA [6, 7] (by decide +kernel) rfl
    refine va_callv (va_runV (As := [.int 59]) (rest := []) ⟨hx, hb, hml, hown, hts⟩ (r_X6_readByte l dC dI cI cZ cL cJ H.size h bs td z fpn_31 fn_31 kn_31 fb 59 (hz)) (cwV 1 hts gX6_readSound_X6_readByte rfl rfl rfl (by decide +kernel) ⟨Nat.le_of_ble_eq_true rfl, Nat.le_of_ble_eq_true rfl⟩) (pvW 6 6 hK hP rfl rfl hc_32) rfl rfl hl.1 rfl (lv_room (Nat.le_of_ble_eq_true rfl)) dX6_readSound_83 ⟨Nat.le_of_ble_eq_true rfl, Nat.le_of_ble_eq_true rfl⟩) hS (fun q _ h => hc_32.2.2 q h) hc_32.2.2 (fun u_32 t_32 H1 locs ht hvm h_32 hB hz1 hk1 hS => ?_)
    refine xl_3_4 hB (fun fpn_32 fn_32 kn_32 hP1 hD1 hF_32_0 hF_32_1 => ?_)
    clear hB
    rw [ht] at hP1
    obtain ⟨hP, hD⟩ := va_join (wr := [(xo_3_iiiiiiiirrrrr td tv0 tv1 tv2 tv3 (nI thh) tv5 (nI tww) (nI tkk) tb1 tb2 tb3 tb4 tb5), (xI tb1 cI 6 tg1), (xI tb2 cI 6 tg2), (xI tb3 cI 6 tg3), (xI tb4 cI 6 tg4), (xI tb5 cI 6 tg5)]) (w1 := [(xo_6_ririii h bs (nI z) td fpn_32 fn_32 kn_32), (xI bs cI 120 fb)]) hP hD [6, 7] [0, 1, 2, 3, 4, 5] rfl rfl (by decide +kernel) (by decide +kernel) hk1 hc_32.2.2 hP1 hD1
    generalize H1 = H at hP hS ⊢
    have hP : va_P (dC, dI) vwCl [(xo_3_iiiiiiiirrrrr td tv0 tv1 tv2 tv3 (nI thh) tv5 (nI tww) (nI tkk) tb1 tb2 tb3 tb4 tb5), (xI tb1 cI 6 tg1), (xI tb2 cI 6 tg2), (xI tb3 cI 6 tg3), (xI tb4 cI 6 tg4), (xI tb5 cI 6 tg5), (xo_6_ririii h bs (nI z) td fpn_32 fn_32 kn_32), (xI bs cI 120 fb)] H := hP
    have hD := dto hP hD
    refine lv_aload_n hx hb dX6_readSound_86 rfl (lv_at hl 3 rfl) ?_
    refine va_get (D := (dC, dI)) (ci := 6) (v := .int fn_32) (C := RX6) (T := TX6) (N := 6) hx hb hts i_X6_readSound_X6 hown hK hP 6 rfl rfl 4 (by decide) (hts _ mx_X6_readSound_5) (fun _ h9 => h9) rfl dX6_readSound_87 ?_
    refine lv_if_ne (tgt := 138) hx hb dX6_readSound_90 (by decide) (fun c_33 => ?_) (fun c_33 => ?_)
    · skip
      have hX9 := cut2 (wc := [(xo_6_ririii h bs (nI z) td fpn_32 fn_32 kn_32), (xI bs cI 120 fb), (xo_3_iiiiiiiirrrrr td tv0 tv1 tv2 tv3 (nI thh) tv5 (nI tww) (nI tkk) tb1 tb2 tb3 tb4 tb5), (xI tb1 cI 6 tg1), (xI tb2 cI 6 tg2), (xI tb3 cI 6 tg3), (xI tb4 cI 6 tg4), (xI tb5 cI 6 tg5)]) hP hD [6, 7, 0, 1, 2, 3, 4, 5] (by decide +kernel) rfl
      exact W.vret hx hb hr (fun t ht hW => ⟨⟨(), rfl, trivial, ⟨fpn_32, fn_32, kn_32, tkk, tg2, tg3, tg4, tg5, va_Ht ht hX9.1, hX9.2, (lf_X6_readSound_11 thb hz htww htkk h_1 h_2 c_3 hF_26_0 hF_26_1 hF_26_2 e_27 e_28 hF_29_0 hF_29_1 h_29 hF_30_0 hF_30_1 hF_31_0 hF_31_1 h_31 hF_32_0 hF_32_1 c_33), (lf_X6_readSound_12 thb hz htww htkk h_1 h_2 c_3 hF_26_0 hF_26_1 hF_26_2 e_27 e_28 hF_29_0 hF_29_1 h_29 hF_30_0 hF_30_1 hF_31_0 hF_31_1 h_31 hF_32_0 hF_32_1 c_33)⟩⟩, hS.F ht⟩) hS.2.2 dX6_readSound_138
    · skip
      have hw6 : tkk < 6 := (lf_X6_readSound_13 thb hz htww htkk h_1 h_2 c_3 hF_26_0 hF_26_1 hF_26_2 e_27 e_28 hF_29_0 hF_29_1 h_29 hF_30_0 hF_30_1 hF_31_0 hF_31_1 h_31 hF_32_0 hF_32_1 c_33)
      refine lv_aload_n hx hb dX6_readSound_93 rfl (lv_at hl 3 rfl) ?_
      refine va_get (D := (dC, dI)) (ci := 6) (v := .ref td) (C := RX6) (T := TX6) (N := 6) hx hb hts i_X6_readSound_X6 hown hK hP 6 rfl rfl 2 (by decide) (hts _ mx_X6_readSound_2) (fun _ h9 => h9) rfl dX6_readSound_94 ?_
      refine va_get (D := (dC, dI)) (ci := 3) (v := .ref tb2) (C := RX3) (T := TX3) (N := 13) hx hb hts i_X6_readSound_X3 hown hK hP 0 rfl rfl 9 (by decide) (hts _ mx_X6_readSound_6) (fun _ h9 => h9) rfl dX6_readSound_97 ?_
      refine lv_aload_n hx hb dX6_readSound_100 rfl (lv_at hl 3 rfl) ?_
      refine va_get (D := (dC, dI)) (ci := 6) (v := .ref td) (C := RX6) (T := TX6) (N := 6) hx hb hts i_X6_readSound_X6 hown hK hP 6 rfl rfl 2 (by decide) (hts _ mx_X6_readSound_2) (fun _ h9 => h9) rfl dX6_readSound_101 ?_
      refine va_get (D := (dC, dI)) (ci := 3) (v := .int (nI tkk)) (C := RX3) (T := TX3) (N := 13) hx hb hts i_X6_readSound_X3 hown hK hP 0 rfl rfl 7 (by decide) (hts _ mx_X6_readSound_3) (fun _ h9 => h9) rfl dX6_readSound_104 ?_
      refine lv_iload_n hx hb dX6_readSound_107 rfl (lv_at hl 2 rfl) ?_
      refine va_iast hx hb hK hP hD hS 2 0 rfl rfl (vp_in_nI (by omega) (by omega)) dX6_readSound_108 (fun H locs hP hD hS => ?_)
      generalize hg_34 : upd tg2 ((nI tkk) : Int32).toNatClampNeg r_2 = g_34 at hP hD
      have hu_34 : g_34 = upd tg2 tkk r_2 := (by rw [← hg_34, nI_clamp (by omega)])
      have hP : va_P (dC, dI) vwCl [(xo_3_iiiiiiiirrrrr td tv0 tv1 tv2 tv3 (nI thh) tv5 (nI tww) (nI tkk) tb1 tb2 tb3 tb4 tb5), (xI tb1 cI 6 tg1), (xI tb2 cI 6 g_34), (xI tb3 cI 6 tg3), (xI tb4 cI 6 tg4), (xI tb5 cI 6 tg5), (xo_6_ririii h bs (nI z) td fpn_32 fn_32 kn_32), (xI bs cI 120 fb)] H := hP
      have hD := dto hP hD
      refine lv_aload_n hx hb dX6_readSound_109 rfl (lv_at hl 3 rfl) ?_
      refine va_get (D := (dC, dI)) (ci := 6) (v := .ref td) (C := RX6) (T := TX6) (N := 6) hx hb hts i_X6_readSound_X6 hown hK hP 6 rfl rfl 2 (by decide) (hts _ mx_X6_readSound_2) (fun _ h9 => h9) rfl dX6_readSound_110 ?_
      refine lv_aload_n hx hb dX6_readSound_113 rfl (lv_at hl 3 rfl) ?_
      refine va_get (D := (dC, dI)) (ci := 6) (v := .ref td) (C := RX6) (T := TX6) (N := 6) hx hb hts i_X6_readSound_X6 hown hK hP 6 rfl rfl 2 (by decide) (hts _ mx_X6_readSound_2) (fun _ h9 => h9) rfl dX6_readSound_114 ?_
      refine va_get (D := (dC, dI)) (ci := 3) (v := .int (nI tkk)) (C := RX3) (T := TX3) (N := 13) hx hb hts i_X6_readSound_X3 hown hK hP 0 rfl rfl 7 (by decide) (hts _ mx_X6_readSound_3) (fun _ h9 => h9) rfl dX6_readSound_117 ?_
      refine lv_iload_n hx hb dX6_readSound_120 rfl (lv_at hl 1 rfl) ?_
      refine lv_iload_n hx hb dX6_readSound_121 rfl (lv_at hl 0 rfl) ?_
      have hc_35 := cutW (wc := [(xo_3_iiiiiiiirrrrr td tv0 tv1 tv2 tv3 (nI thh) tv5 (nI tww) (nI tkk) tb1 tb2 tb3 tb4 tb5), (xI tb1 cI 6 tg1), (xI tb2 cI 6 g_34), (xI tb3 cI 6 tg3), (xI tb4 cI 6 tg4), (xI tb5 cI 6 tg5)]) hP hD hS hA [0, 1, 2, 3, 4, 5] (by decide +kernel) rfl
      refine va_callv (va_runV (As := [.int (nI tkk), .int r_29, .int r_31]) (rest := []) ⟨hx, hb, hml, hown, hts⟩ (r_X3_letLoose l dC dI cI cZ cL cJ H.size td tv0 tv1 tv2 tv3 tv5 thh tww tkk tb1 tb2 tb3 tb4 tb5 tg1 g_34 tg3 tg4 tg5 tkk r_29 r_31 (by omega) (htww) (by omega) (by omega)) (cwV 3 hts gX6_readSound_X3_letLoose rfl rfl rfl (by decide +kernel) ⟨Nat.le_of_ble_eq_true rfl, Nat.le_of_ble_eq_true rfl⟩) (pvW 3 0 hK hP rfl rfl hc_35) rfl rfl hl.1 rfl (lv_room (Nat.le_of_ble_eq_true rfl)) dX6_readSound_122 ⟨Nat.le_of_ble_eq_true rfl, Nat.le_of_ble_eq_true rfl⟩) hS (fun q _ h => hc_35.2.2 q h) hc_35.2.2 (fun u_35 t_35 H1 locs ht hvm h_35 hB hz1 hk1 hS => ?_)
      refine xl_3_5 hB (fun g3n_35 g4n_35 g5n_35 hP1 hD1 hF_35_0 hF_35_1 hF_35_2 => ?_)
      clear hB
      rw [ht] at hP1
      obtain ⟨hP, hD⟩ := va_join (wr := [(xo_6_ririii h bs (nI z) td fpn_32 fn_32 kn_32), (xI bs cI 120 fb)]) (w1 := [(xo_3_iiiiiiiirrrrr td tv0 tv1 tv2 tv3 (nI thh) tv5 (nI tww) (nI tkk) tb1 tb2 tb3 tb4 tb5), (xI tb1 cI 6 tg1), (xI tb2 cI 6 g_34), (xI tb3 cI 6 g3n_35), (xI tb4 cI 6 g4n_35), (xI tb5 cI 6 g5n_35)]) hP hD [0, 1, 2, 3, 4, 5] [6, 7] rfl rfl (by decide +kernel) (by decide +kernel) hk1 hc_35.2.2 hP1 hD1
      generalize H1 = H at hP hS ⊢
      have hP : va_P (dC, dI) vwCl [(xo_6_ririii h bs (nI z) td fpn_32 fn_32 kn_32), (xI bs cI 120 fb), (xo_3_iiiiiiiirrrrr td tv0 tv1 tv2 tv3 (nI thh) tv5 (nI tww) (nI tkk) tb1 tb2 tb3 tb4 tb5), (xI tb1 cI 6 tg1), (xI tb2 cI 6 g_34), (xI tb3 cI 6 g3n_35), (xI tb4 cI 6 g4n_35), (xI tb5 cI 6 g5n_35)] H := hP
      have hD := dto hP hD
      refine lv_aload_n hx hb dX6_readSound_125 rfl (lv_at hl 3 rfl) ?_
      refine va_get (D := (dC, dI)) (ci := 6) (v := .ref td) (C := RX6) (T := TX6) (N := 6) hx hb hts i_X6_readSound_X6 hown hK hP 0 rfl rfl 2 (by decide) (hts _ mx_X6_readSound_2) (fun _ h9 => h9) rfl dX6_readSound_126 ?_
      refine lv_dup hx hb dX6_readSound_129 rfl ?_
      refine va_get (D := (dC, dI)) (ci := 3) (v := .int (nI tkk)) (C := RX3) (T := TX3) (N := 13) hx hb hts i_X6_readSound_X3 hown hK hP 2 rfl rfl 7 (by decide) (hts _ mx_X6_readSound_3) (fun _ h9 => h9) rfl dX6_readSound_130 ?_
      refine lv_iconst (v := 1) hx hb dX6_readSound_133 (by decide) ?_
      refine lv_iadd hx hb dX6_readSound_134 ?_
      refine lv_topi (fun v_36 e_36 => ?_)
      obtain rfl : v_36 = (nI (tkk + 1)) := (e_36).trans (nI_add tkk 1)
      refine va_put (D := (dC, dI)) (ci := 3) (v := .int (nI (tkk + 1))) (ty := .int) (C := RX3) (T := TX3) (N := 13) hx hb hts i_X6_readSound_X3 tyX3 tyX3_ok nmX3 hown hK hP hD hS 2 rfl rfl 7 (by decide) (hts _ mx_X6_readSound_3) (fun _ h9 => h9) rfl (by decide +kernel) rfl rfl (Nat.le_of_ble_eq_true rfl) dX6_readSound_135 (fun H locs hP hD hS => ?_)
      have hP : va_P (dC, dI) vwCl [(xo_6_ririii h bs (nI z) td fpn_32 fn_32 kn_32), (xI bs cI 120 fb), (xo_3_iiiiiiiirrrrr td tv0 tv1 tv2 tv3 (nI thh) tv5 (nI tww) (nI (tkk + 1)) tb1 tb2 tb3 tb4 tb5), (xI tb1 cI 6 tg1), (xI tb2 cI 6 g_34), (xI tb3 cI 6 g3n_35), (xI tb4 cI 6 g4n_35), (xI tb5 cI 6 g5n_35)] H := hP
      have hD := dto hP hD
      have hX9 := cut2 (wc := [(xo_6_ririii h bs (nI z) td fpn_32 fn_32 kn_32), (xI bs cI 120 fb), (xo_3_iiiiiiiirrrrr td tv0 tv1 tv2 tv3 (nI thh) tv5 (nI tww) (nI (tkk + 1)) tb1 tb2 tb3 tb4 tb5), (xI tb1 cI 6 tg1), (xI tb2 cI 6 g_34), (xI tb3 cI 6 g3n_35), (xI tb4 cI 6 g4n_35), (xI tb5 cI 6 g5n_35)]) hP hD [0, 1, 2, 3, 4, 5, 6, 7] (by decide +kernel) rfl
      exact W.vret hx hb hr (fun t ht hW => ⟨⟨(), rfl, trivial, ⟨fpn_32, fn_32, kn_32, (tkk + 1), g_34, g3n_35, g4n_35, g5n_35, va_Ht ht hX9.1, hX9.2, (lf_X6_readSound_14 thb hz htww htkk h_1 h_2 c_3 hF_26_0 hF_26_1 hF_26_2 e_27 e_28 hF_29_0 hF_29_1 h_29 hF_30_0 hF_30_1 hF_31_0 hF_31_1 h_31 hF_32_0 hF_32_1 c_33 hw6 hu_34 hF_35_0 hF_35_1 hF_35_2), (lf_X6_readSound_15 thb hz htww htkk h_1 h_2 c_3 hF_26_0 hF_26_1 hF_26_2 e_27 e_28 hF_29_0 hF_29_1 h_29 hF_30_0 hF_30_1 hF_31_0 hF_31_1 h_31 hF_32_0 hF_32_1 c_33 hw6 hu_34 hF_35_0 hF_35_1 hF_35_2)⟩⟩, hS.F ht⟩) hS.2.2 dX6_readSound_138
theorem lf_X6_readSounds_1 {z : Nat} {fp : Int32} {f : Int32} {k : Int32} {fb : Nat → Int32} {tv0 : Int32} {thh : Nat} {tww : Nat} {tkk : Nat} {tg2 : Nat → Int32} {tg3 : Nat → Int32} {tg4 : Nat → Int32} {tg5 : Nat → Int32} {fpn_1 : Int32} {fn_1 : Int32} {kn_1 : Int32} {tn_1 : Nat} {tg2n_1 : Nat → Int32} {tg3n_1 : Nat → Int32} {tg4n_1 : Nat → Int32} {tg5n_1 : Nat → Int32} {w_7 : Int32} {w_8 : Int32} {w_9 : Int32} {w_10 : Nat} {w_11 : Nat → Int32} {w_12 : Nat → Int32} {w_13 : Nat → Int32} {w_14 : Nat → Int32} {ii : Nat} (thb : thh ≤ 999) (hz : z ≤ 120) (htww : tww ≤ 6) (htkk : tkk ≤ 6) (hF_1_0 : tn_1 ≤ 6) (hF_1_1 : xS fb z tv0 ((fp, f, k), tkk, tg2, tg3, tg4, tg5) = ((fpn_1, fn_1, kn_1), tn_1, tg2n_1, tg3n_1, tg4n_1, tg5n_1)) (hii : ii < 6) (haf_0 : (xSs fb z tv0 (6 - ii) ((w_7, w_8, w_9), w_10, w_11, w_12, w_13, w_14) = xSs fb z tv0 6 ((fpn_1, fn_1, kn_1), tn_1, tg2n_1, tg3n_1, tg4n_1, tg5n_1))) (hnb_w_10 : w_10 ≤ 6) (c_29 : ¬ (w_8 = 0)) : w_10 ≤ 6 := by
  first
  | omega
  | (rw [xSs_stop (s := ((w_7, w_8, w_9), w_10, w_11, w_12, w_13, w_14)) (by grind)] at haf_0; grind)
  | (have h7 : xSs fb z tv0 (6 - 6) ((w_7, w_8, w_9), w_10, w_11, w_12, w_13, w_14) = ((w_7, w_8, w_9), w_10, w_11, w_12, w_13, w_14) := rfl
     rw [h7] at haf_0
     grind)
theorem lf_X6_readSounds_2 {z : Nat} {fp : Int32} {f : Int32} {k : Int32} {fb : Nat → Int32} {tv0 : Int32} {thh : Nat} {tww : Nat} {tkk : Nat} {tg2 : Nat → Int32} {tg3 : Nat → Int32} {tg4 : Nat → Int32} {tg5 : Nat → Int32} {fpn_1 : Int32} {fn_1 : Int32} {kn_1 : Int32} {tn_1 : Nat} {tg2n_1 : Nat → Int32} {tg3n_1 : Nat → Int32} {tg4n_1 : Nat → Int32} {tg5n_1 : Nat → Int32} {w_7 : Int32} {w_8 : Int32} {w_9 : Int32} {w_10 : Nat} {w_11 : Nat → Int32} {w_12 : Nat → Int32} {w_13 : Nat → Int32} {w_14 : Nat → Int32} {ii : Nat} (thb : thh ≤ 999) (hz : z ≤ 120) (htww : tww ≤ 6) (htkk : tkk ≤ 6) (hF_1_0 : tn_1 ≤ 6) (hF_1_1 : xS fb z tv0 ((fp, f, k), tkk, tg2, tg3, tg4, tg5) = ((fpn_1, fn_1, kn_1), tn_1, tg2n_1, tg3n_1, tg4n_1, tg5n_1)) (hii : ii < 6) (haf_0 : (xSs fb z tv0 (6 - ii) ((w_7, w_8, w_9), w_10, w_11, w_12, w_13, w_14) = xSs fb z tv0 6 ((fpn_1, fn_1, kn_1), tn_1, tg2n_1, tg3n_1, tg4n_1, tg5n_1))) (hnb_w_10 : w_10 ≤ 6) (c_29 : ¬ (w_8 = 0)) : xSs fb z tv0 6 (xS fb z tv0 ((fp, f, k), tkk, tg2, tg3, tg4, tg5)) = ((w_7, w_8, w_9), w_10, w_11, w_12, w_13, w_14) := by
  first
  | omega
  | (rw [xSs_stop (s := ((w_7, w_8, w_9), w_10, w_11, w_12, w_13, w_14)) (by grind)] at haf_0; grind)
  | (have h7 : xSs fb z tv0 (6 - 6) ((w_7, w_8, w_9), w_10, w_11, w_12, w_13, w_14) = ((w_7, w_8, w_9), w_10, w_11, w_12, w_13, w_14) := rfl
     rw [h7] at haf_0
     grind)
theorem lf_X6_readSounds_3 {z : Nat} {fp : Int32} {f : Int32} {k : Int32} {fb : Nat → Int32} {tv0 : Int32} {thh : Nat} {tww : Nat} {tkk : Nat} {tg2 : Nat → Int32} {tg3 : Nat → Int32} {tg4 : Nat → Int32} {tg5 : Nat → Int32} {fpn_1 : Int32} {fn_1 : Int32} {kn_1 : Int32} {tn_1 : Nat} {tg2n_1 : Nat → Int32} {tg3n_1 : Nat → Int32} {tg4n_1 : Nat → Int32} {tg5n_1 : Nat → Int32} {w_7 : Int32} {w_8 : Int32} {w_9 : Int32} {w_10 : Nat} {w_11 : Nat → Int32} {w_12 : Nat → Int32} {w_13 : Nat → Int32} {w_14 : Nat → Int32} {ii : Nat} {r_30 : Int32} (thb : thh ≤ 999) (hz : z ≤ 120) (htww : tww ≤ 6) (htkk : tkk ≤ 6) (hF_1_0 : tn_1 ≤ 6) (hF_1_1 : xS fb z tv0 ((fp, f, k), tkk, tg2, tg3, tg4, tg5) = ((fpn_1, fn_1, kn_1), tn_1, tg2n_1, tg3n_1, tg4n_1, tg5n_1)) (hii : ii < 6) (haf_0 : (xSs fb z tv0 (6 - ii) ((w_7, w_8, w_9), w_10, w_11, w_12, w_13, w_14) = xSs fb z tv0 6 ((fpn_1, fn_1, kn_1), tn_1, tg2n_1, tg3n_1, tg4n_1, tg5n_1))) (hnb_w_10 : w_10 ≤ 6) (c_29 : w_8 = 0) (h_30 : r_30 = (bAt fb z w_9)) (c_31 : r_30 = (-1)) : w_10 ≤ 6 := by
  first
  | omega
  | (rw [xSs_stop (s := ((w_7, w_8, w_9), w_10, w_11, w_12, w_13, w_14)) (by grind)] at haf_0; grind)
  | (have h7 : xSs fb z tv0 (6 - 6) ((w_7, w_8, w_9), w_10, w_11, w_12, w_13, w_14) = ((w_7, w_8, w_9), w_10, w_11, w_12, w_13, w_14) := rfl
     rw [h7] at haf_0
     grind)
theorem lf_X6_readSounds_4 {z : Nat} {fp : Int32} {f : Int32} {k : Int32} {fb : Nat → Int32} {tv0 : Int32} {thh : Nat} {tww : Nat} {tkk : Nat} {tg2 : Nat → Int32} {tg3 : Nat → Int32} {tg4 : Nat → Int32} {tg5 : Nat → Int32} {fpn_1 : Int32} {fn_1 : Int32} {kn_1 : Int32} {tn_1 : Nat} {tg2n_1 : Nat → Int32} {tg3n_1 : Nat → Int32} {tg4n_1 : Nat → Int32} {tg5n_1 : Nat → Int32} {w_7 : Int32} {w_8 : Int32} {w_9 : Int32} {w_10 : Nat} {w_11 : Nat → Int32} {w_12 : Nat → Int32} {w_13 : Nat → Int32} {w_14 : Nat → Int32} {ii : Nat} {r_30 : Int32} (thb : thh ≤ 999) (hz : z ≤ 120) (htww : tww ≤ 6) (htkk : tkk ≤ 6) (hF_1_0 : tn_1 ≤ 6) (hF_1_1 : xS fb z tv0 ((fp, f, k), tkk, tg2, tg3, tg4, tg5) = ((fpn_1, fn_1, kn_1), tn_1, tg2n_1, tg3n_1, tg4n_1, tg5n_1)) (hii : ii < 6) (haf_0 : (xSs fb z tv0 (6 - ii) ((w_7, w_8, w_9), w_10, w_11, w_12, w_13, w_14) = xSs fb z tv0 6 ((fpn_1, fn_1, kn_1), tn_1, tg2n_1, tg3n_1, tg4n_1, tg5n_1))) (hnb_w_10 : w_10 ≤ 6) (c_29 : w_8 = 0) (h_30 : r_30 = (bAt fb z w_9)) (c_31 : r_30 = (-1)) : xSs fb z tv0 6 (xS fb z tv0 ((fp, f, k), tkk, tg2, tg3, tg4, tg5)) = ((w_7, w_8, w_9), w_10, w_11, w_12, w_13, w_14) := by
  first
  | omega
  | (rw [xSs_stop (s := ((w_7, w_8, w_9), w_10, w_11, w_12, w_13, w_14)) (by grind)] at haf_0; grind)
  | (have h7 : xSs fb z tv0 (6 - 6) ((w_7, w_8, w_9), w_10, w_11, w_12, w_13, w_14) = ((w_7, w_8, w_9), w_10, w_11, w_12, w_13, w_14) := rfl
     rw [h7] at haf_0
     grind)
theorem lf_X6_readSounds_5 {z : Nat} {fp : Int32} {f : Int32} {k : Int32} {fb : Nat → Int32} {tv0 : Int32} {thh : Nat} {tww : Nat} {tkk : Nat} {tg2 : Nat → Int32} {tg3 : Nat → Int32} {tg4 : Nat → Int32} {tg5 : Nat → Int32} {fpn_1 : Int32} {fn_1 : Int32} {kn_1 : Int32} {tn_1 : Nat} {tg2n_1 : Nat → Int32} {tg3n_1 : Nat → Int32} {tg4n_1 : Nat → Int32} {tg5n_1 : Nat → Int32} {w_7 : Int32} {w_8 : Int32} {w_9 : Int32} {w_10 : Nat} {w_11 : Nat → Int32} {w_12 : Nat → Int32} {w_13 : Nat → Int32} {w_14 : Nat → Int32} {ii : Nat} {r_30 : Int32} {fpn_32 : Int32} {fn_32 : Int32} {kn_32 : Int32} {tn_32 : Nat} {tg2n_32 : Nat → Int32} {tg3n_32 : Nat → Int32} {tg4n_32 : Nat → Int32} {tg5n_32 : Nat → Int32} (thb : thh ≤ 999) (hz : z ≤ 120) (htww : tww ≤ 6) (htkk : tkk ≤ 6) (hF_1_0 : tn_1 ≤ 6) (hF_1_1 : xS fb z tv0 ((fp, f, k), tkk, tg2, tg3, tg4, tg5) = ((fpn_1, fn_1, kn_1), tn_1, tg2n_1, tg3n_1, tg4n_1, tg5n_1)) (hii : ii < 6) (haf_0 : (xSs fb z tv0 (6 - ii) ((w_7, w_8, w_9), w_10, w_11, w_12, w_13, w_14) = xSs fb z tv0 6 ((fpn_1, fn_1, kn_1), tn_1, tg2n_1, tg3n_1, tg4n_1, tg5n_1))) (hnb_w_10 : w_10 ≤ 6) (c_29 : w_8 = 0) (h_30 : r_30 = (bAt fb z w_9)) (c_31 : ¬ (r_30 = (-1))) (hF_32_0 : tn_32 ≤ 6) (hF_32_1 : xS fb z tv0 ((w_7, w_8, w_9), w_10, w_11, w_12, w_13, w_14) = ((fpn_32, fn_32, kn_32), tn_32, tg2n_32, tg3n_32, tg4n_32, tg5n_32)) : xSs fb z tv0 (6 - (ii + 1)) ((fpn_32, fn_32, kn_32), tn_32, tg2n_32, tg3n_32, tg4n_32, tg5n_32) = xSs fb z tv0 6 ((fpn_1, fn_1, kn_1), tn_1, tg2n_1, tg3n_1, tg4n_1, tg5n_1) := by
  rw [xSs_go (s := ((w_7, w_8, w_9), w_10, w_11, w_12, w_13, w_14)) (by omega) (by grind)] at haf_0
  rw [show 6 - (ii + 1) = 6 - ii - 1 by omega, ← haf_0]
  exact congrArg _ (by grind)
theorem lf_X6_readSounds_6 {z : Nat} {fp : Int32} {f : Int32} {k : Int32} {fb : Nat → Int32} {tv0 : Int32} {thh : Nat} {tww : Nat} {tkk : Nat} {tg2 : Nat → Int32} {tg3 : Nat → Int32} {tg4 : Nat → Int32} {tg5 : Nat → Int32} {fpn_1 : Int32} {fn_1 : Int32} {kn_1 : Int32} {tn_1 : Nat} {tg2n_1 : Nat → Int32} {tg3n_1 : Nat → Int32} {tg4n_1 : Nat → Int32} {tg5n_1 : Nat → Int32} {w_7 : Int32} {w_8 : Int32} {w_9 : Int32} {w_10 : Nat} {w_11 : Nat → Int32} {w_12 : Nat → Int32} {w_13 : Nat → Int32} {w_14 : Nat → Int32} (thb : thh ≤ 999) (hz : z ≤ 120) (htww : tww ≤ 6) (htkk : tkk ≤ 6) (hF_1_0 : tn_1 ≤ 6) (hF_1_1 : xS fb z tv0 ((fp, f, k), tkk, tg2, tg3, tg4, tg5) = ((fpn_1, fn_1, kn_1), tn_1, tg2n_1, tg3n_1, tg4n_1, tg5n_1)) (haf_0 : (xSs fb z tv0 (6 - 6) ((w_7, w_8, w_9), w_10, w_11, w_12, w_13, w_14) = xSs fb z tv0 6 ((fpn_1, fn_1, kn_1), tn_1, tg2n_1, tg3n_1, tg4n_1, tg5n_1))) (hnb_w_10 : w_10 ≤ 6) : w_10 ≤ 6 := by
  first
  | omega
  | (rw [xSs_stop (s := ((w_7, w_8, w_9), w_10, w_11, w_12, w_13, w_14)) (by grind)] at haf_0; grind)
  | (have h7 : xSs fb z tv0 (6 - 6) ((w_7, w_8, w_9), w_10, w_11, w_12, w_13, w_14) = ((w_7, w_8, w_9), w_10, w_11, w_12, w_13, w_14) := rfl
     rw [h7] at haf_0
     grind)
theorem lf_X6_readSounds_7 {z : Nat} {fp : Int32} {f : Int32} {k : Int32} {fb : Nat → Int32} {tv0 : Int32} {thh : Nat} {tww : Nat} {tkk : Nat} {tg2 : Nat → Int32} {tg3 : Nat → Int32} {tg4 : Nat → Int32} {tg5 : Nat → Int32} {fpn_1 : Int32} {fn_1 : Int32} {kn_1 : Int32} {tn_1 : Nat} {tg2n_1 : Nat → Int32} {tg3n_1 : Nat → Int32} {tg4n_1 : Nat → Int32} {tg5n_1 : Nat → Int32} {w_7 : Int32} {w_8 : Int32} {w_9 : Int32} {w_10 : Nat} {w_11 : Nat → Int32} {w_12 : Nat → Int32} {w_13 : Nat → Int32} {w_14 : Nat → Int32} (thb : thh ≤ 999) (hz : z ≤ 120) (htww : tww ≤ 6) (htkk : tkk ≤ 6) (hF_1_0 : tn_1 ≤ 6) (hF_1_1 : xS fb z tv0 ((fp, f, k), tkk, tg2, tg3, tg4, tg5) = ((fpn_1, fn_1, kn_1), tn_1, tg2n_1, tg3n_1, tg4n_1, tg5n_1)) (haf_0 : (xSs fb z tv0 (6 - 6) ((w_7, w_8, w_9), w_10, w_11, w_12, w_13, w_14) = xSs fb z tv0 6 ((fpn_1, fn_1, kn_1), tn_1, tg2n_1, tg3n_1, tg4n_1, tg5n_1))) (hnb_w_10 : w_10 ≤ 6) : xSs fb z tv0 6 (xS fb z tv0 ((fp, f, k), tkk, tg2, tg3, tg4, tg5)) = ((w_7, w_8, w_9), w_10, w_11, w_12, w_13, w_14) := by
  first
  | omega
  | (rw [xSs_stop (s := ((w_7, w_8, w_9), w_10, w_11, w_12, w_13, w_14)) (by grind)] at haf_0; grind)
  | (have h7 : xSs fb z tv0 (6 - 6) ((w_7, w_8, w_9), w_10, w_11, w_12, w_13, w_14) = ((w_7, w_8, w_9), w_10, w_11, w_12, w_13, w_14) := rfl
     rw [h7] at haf_0
     grind)
set_option maxHeartbeats 4000000 in
set_option maxRecDepth 100000 in
theorem r_X6_readSounds (l : Launch) (dC : Nat → ClassId) (dI : Nat → Nat → Nat) (cI cZ cL cJ : ClassId) (sz : Nat) (h : Nat) (bs : Nat) (td : Nat) (z : Nat) (fp : Int32) (f : Int32) (k : Int32) (fb : Nat → Int32) (tv0 : Int32) (tv1 : Int32) (tv2 : Int32) (tv3 : Int32) (tv5 : Int32) (thh : Nat) (tww : Nat) (tkk : Nat) (tb1 : Nat) (tb2 : Nat) (tb3 : Nat) (tb4 : Nat) (tb5 : Nat) (tg1 : Nat → Int32) (tg2 : Nat → Int32) (tg3 : Nat → Int32) (tg4 : Nat → Int32) (tg5 : Nat → Int32) (thb : thh ≤ 999) (hz : z ≤ 120) (htww : tww ≤ 6) (htkk : tkk ≤ 6) : Met l yX6_readSounds wsX6_readSounds ({ frames := 4, cells := 0, slots := 0, locals := 90 }) (va_Pc [.ref h] (fun U => U.heap.size = sz ∧ va_P (dC, dI) vwCl [(xo_6_ririii h bs (nI z) td fp f k), (xI bs cI 120 fb), (xo_3_iiiiiiiirrrrr td tv0 tv1 tv2 tv3 (nI thh) tv5 (nI tww) (nI tkk) tb1 tb2 tb3 tb4 tb5), (xI tb1 cI 6 tg1), (xI tb2 cI 6 tg2), (xI tb3 cI 6 tg3), (xI tb4 cI 6 tg4), (xI tb5 cI 6 tg5)] U.heap ∧ va_K (dC, dI) vwCl [(cI, .int), (cZ, .boolean), (cL, .object RX3), (cJ, .array .int)] U ∧ va_D (fun _ => True) [(xo_6_ririii h bs (nI z) td fp f k), (xI bs cI 120 fb), (xo_3_iiiiiiiirrrrr td tv0 tv1 tv2 tv3 (nI thh) tv5 (nI tww) (nI tkk) tb1 tb2 tb3 tb4 tb5), (xI tb1 cI 6 tg1), (xI tb2 cI 6 tg2), (xI tb3 cI 6 tg3), (xI tb4 cI 6 tg4), (xI tb5 cI 6 tg5)])) (va_Qv (fun (_ : Unit) => True) (fun (_ : Unit) t => ∃ (fpn : Int32) (fn : Int32) (kn : Int32) (tn : Nat) (tg2n : Nat → Int32) (tg3n : Nat → Int32) (tg4n : Nat → Int32) (tg5n : Nat → Int32), va_P (dC, dI) vwCl [(xo_6_ririii h bs (nI z) td fpn fn kn), (xI bs cI 120 fb), (xo_3_iiiiiiiirrrrr td tv0 tv1 tv2 tv3 (nI thh) tv5 (nI tww) (nI tn) tb1 tb2 tb3 tb4 tb5), (xI tb1 cI 6 tg1), (xI tb2 cI 6 tg2n), (xI tb3 cI 6 tg3n), (xI tb4 cI 6 tg4n), (xI tb5 cI 6 tg5n)] t.heap ∧ va_D (va_A [(xo_6_ririii h bs (nI z) td fp f k), (xI bs cI 120 fb), (xo_3_iiiiiiiirrrrr td tv0 tv1 tv2 tv3 (nI thh) tv5 (nI tww) (nI tkk) tb1 tb2 tb3 tb4 tb5), (xI tb1 cI 6 tg1), (xI tb2 cI 6 tg2), (xI tb3 cI 6 tg3), (xI tb4 cI 6 tg4), (xI tb5 cI 6 tg5)] sz) [(xo_6_ririii h bs (nI z) td fpn fn kn), (xI bs cI 120 fb), (xo_3_iiiiiiiirrrrr td tv0 tv1 tv2 tv3 (nI thh) tv5 (nI tww) (nI tn) tb1 tb2 tb3 tb4 tb5), (xI tb1 cI 6 tg1), (xI tb2 cI 6 tg2n), (xI tb3 cI 6 tg3n), (xI tb4 cI 6 tg4n), (xI tb5 cI 6 tg5n)] ∧ tn ≤ 6 ∧ xSs fb z tv0 6 (xS fb z tv0 ((fp, f, k), tkk, tg2, tg3, tg4, tg5)) = ((fpn, fn, kn), tn, tg2n, tg3n, tg4n, tg5n)) (va_A [(xo_6_ririii h bs (nI z) td fp f k), (xI bs cI 120 fb), (xo_3_iiiiiiiirrrrr td tv0 tv1 tv2 tv3 (nI thh) tv5 (nI tww) (nI tkk) tb1 tb2 tb3 tb4 tb5), (xI tb1 cI 6 tg1), (xI tb2 cI 6 tg2), (xI tb3 cI 6 tg3), (xI tb4 cI 6 tg4), (xI tb5 cI 6 tg5)] sz)) 0 0 (va_A [(xo_6_ririii h bs (nI z) td fp f k), (xI bs cI 120 fb), (xo_3_iiiiiiiirrrrr td tv0 tv1 tv2 tv3 (nI thh) tv5 (nI tww) (nI tkk) tb1 tb2 tb3 tb4 tb5), (xI tb1 cI 6 tg1), (xI tb2 cI 6 tg2), (xI tb3 cI 6 tg3), (xI tb4 cI 6 tg4), (xI tb5 cI 6 tg5)] sz) := by
  refine Met.ofW (cc := cX6_readSounds) (maxL := 2) (ret := none) (by decide) rfl ?_
  intro p e s m args below meth c s₁ B hml hv
  obtain ⟨rfl, hsz, hP, hK, hD0⟩ := hv
  have hx := B.exec
  have hb := B.bytes
  have hr := B.returns
  have hts := atoms_spec (ws := wsX6_readSounds) B.pre
  have hown : s.vm.findClass RX6 = some m.cls := findClass_of_methodNamed B.named
  have hlocks := B.notSynchronized
  subst hsz
  have hD := hD0.self (sz := s.heap.size)
  generalize hAe : va_A [(xo_6_ririii h bs (nI z) td fp f k), (xI bs cI 120 fb), (xo_3_iiiiiiiirrrrr td tv0 tv1 tv2 tv3 (nI thh) tv5 (nI tww) (nI tkk) tb1 tb2 tb3 tb4 tb5), (xI tb1 cI 6 tg1), (xI tb2 cI 6 tg2), (xI tb3 cI 6 tg3), (xI tb4 cI 6 tg4), (xI tb5 cI 6 tg5)] s.heap.size = A at hD ⊢
  have hA : ∀ q : Nat, s.heap.size ≤ q → A q := fun q h => by rw [← hAe]; exact Or.inr h
  have hS : va_S A s.heap s.heap [] := va_S.rf
  have hP : va_P (dC, dI) vwCl [(xo_6_ririii h bs (nI z) td fp f k), (xI bs cI 120 fb), (xo_3_iiiiiiiirrrrr td tv0 tv1 tv2 tv3 (nI thh) tv5 (nI tww) (nI tkk) tb1 tb2 tb3 tb4 tb5), (xI tb1 cI 6 tg1), (xI tb2 cI 6 tg2), (xI tb3 cI 6 tg3), (xI tb4 cI 6 tg4), (xI tb5 cI 6 tg5)] s.heap := hP
  have hl := lv_entry ([.ref h]) (n := 2) (Nat.le_of_ble_eq_true rfl)
  rw [lg_entry_eq]
  generalize (lg_sl ([.ref h]) ++ List.replicate (2 - (lg_sl ([.ref h])).length) Slot.unset).toArray = ls at hl ⊢
  have hl : lv_has ls 2 [(0, .ref h)] := hl
  refine lv_aload_n hx hb dX6_readSounds_0 rfl (lv_at hl 0 rfl) ?_
  have hc_1 := cutW (wc := [(xo_6_ririii h bs (nI z) td fp f k), (xI bs cI 120 fb), (xo_3_iiiiiiiirrrrr td tv0 tv1 tv2 tv3 (nI thh) tv5 (nI tww) (nI tkk) tb1 tb2 tb3 tb4 tb5), (xI tb1 cI 6 tg1), (xI tb2 cI 6 tg2), (xI tb3 cI 6 tg3), (xI tb4 cI 6 tg4), (xI tb5 cI 6 tg5)]) hP hD hS hA [0, 1, 2, 3, 4, 5, 6, 7] (by decide +kernel) rfl
  refine va_callv (va_runV (As := []) (rest := []) ⟨hx, hb, hml, hown, hts⟩ (r_X6_readSound l dC dI cI cZ cL cJ s.heap.size h bs td z fp f k fb tv0 tv1 tv2 tv3 tv5 thh tww tkk tb1 tb2 tb3 tb4 tb5 tg1 tg2 tg3 tg4 tg5 (thb) (hz) (htww) (by omega)) (cwV 0 hts gX6_readSounds_X6_readSound rfl rfl rfl (by decide +kernel) ⟨Nat.le_of_ble_eq_true rfl, Nat.le_of_ble_eq_true rfl⟩) (pvW 6 0 hK hP rfl rfl hc_1) rfl rfl hl.1 rfl (lv_room (Nat.le_of_ble_eq_true rfl)) dX6_readSounds_1 ⟨Nat.le_of_ble_eq_true rfl, Nat.le_of_ble_eq_true rfl⟩) hS (fun q _ h => hc_1.2.2 q h) hc_1.2.2 (fun u_1 t_1 H1 locs ht hvm h_1 hB hz1 hk1 hS => ?_)
  refine xl_8_4 hB (fun fpn_1 fn_1 kn_1 tn_1 tg2n_1 tg3n_1 tg4n_1 tg5n_1 hP1 hD1 hF_1_0 hF_1_1 => ?_)
  clear hB
  rw [ht] at hP1
  obtain ⟨hP, hD⟩ := va_join (wr := []) (w1 := [(xo_6_ririii h bs (nI z) td fpn_1 fn_1 kn_1), (xI bs cI 120 fb), (xo_3_iiiiiiiirrrrr td tv0 tv1 tv2 tv3 (nI thh) tv5 (nI tww) (nI tn_1) tb1 tb2 tb3 tb4 tb5), (xI tb1 cI 6 tg1), (xI tb2 cI 6 tg2n_1), (xI tb3 cI 6 tg3n_1), (xI tb4 cI 6 tg4n_1), (xI tb5 cI 6 tg5n_1)]) hP hD [0, 1, 2, 3, 4, 5, 6, 7] [] rfl rfl (by decide +kernel) (by decide +kernel) hk1 hc_1.2.2 hP1 hD1
  generalize H1 = H at hP hS ⊢
  have hP : va_P (dC, dI) vwCl [(xo_6_ririii h bs (nI z) td fpn_1 fn_1 kn_1), (xI bs cI 120 fb), (xo_3_iiiiiiiirrrrr td tv0 tv1 tv2 tv3 (nI thh) tv5 (nI tww) (nI tn_1) tb1 tb2 tb3 tb4 tb5), (xI tb1 cI 6 tg1), (xI tb2 cI 6 tg2n_1), (xI tb3 cI 6 tg3n_1), (xI tb4 cI 6 tg4n_1), (xI tb5 cI 6 tg5n_1)] H := hP
  have hD := dto hP hD
  refine lv_iconst (v := 0) hx hb dX6_readSounds_4 (by decide) ?_
  refine lv_istore_n (lv' := [(1, .int 0), (0, .ref h)]) hx hb dX6_readSounds_5 rfl hl (by decide) rfl (fun ls hl => ?_)
  refine lp_go (σ := (Int32) × (Int32) × (Int32) × (Nat) × (Nat → Int32) × (Nat → Int32) × (Nat → Int32) × (Nat → Int32)) (fun ii (st : (Int32) × (Int32) × (Int32) × (Nat) × (Nat → Int32) × (Nat → Int32) × (Nat → Int32) × (Nat → Int32)) H locs ls => match st with | (w_7, w_8, w_9, w_10, w_11, w_12, w_13, w_14) => lv_has ls 2 [(1, .int (nI ii)), (0, .ref h)] ∧ va_P (dC, dI) vwCl [(xo_6_ririii h bs (nI z) td w_7 w_8 w_9), (xI bs cI 120 fb), (xo_3_iiiiiiiirrrrr td tv0 tv1 tv2 tv3 (nI thh) tv5 (nI tww) (nI w_10) tb1 tb2 tb3 tb4 tb5), (xI tb1 cI 6 tg1), (xI tb2 cI 6 w_11), (xI tb3 cI 6 w_12), (xI tb4 cI 6 w_13), (xI tb5 cI 6 w_14)] H ∧ va_D A [(xo_6_ririii h bs (nI z) td w_7 w_8 w_9), (xI bs cI 120 fb), (xo_3_iiiiiiiirrrrr td tv0 tv1 tv2 tv3 (nI thh) tv5 (nI tww) (nI w_10) tb1 tb2 tb3 tb4 tb5), (xI tb1 cI 6 tg1), (xI tb2 cI 6 w_11), (xI tb3 cI 6 w_12), (xI tb4 cI 6 w_13), (xI tb5 cI 6 w_14)] ∧ va_S A s.heap H locs ∧ (xSs fb z tv0 (6 - ii) ((w_7, w_8, w_9), w_10, w_11, w_12, w_13, w_14) = xSs fb z tv0 6 ((fpn_1, fn_1, kn_1), tn_1, tg2n_1, tg3n_1, tg4n_1, tg5n_1)) ∧ w_10 ≤ 6) 6 ?_ ?_ 0 (by omega) (fpn_1, fn_1, kn_1, tn_1, tg2n_1, tg3n_1, tg4n_1, tg5n_1) ⟨lv_sub hl [0, 1] rfl, hP.sub (ws' := [(xo_6_ririii h bs (nI z) td fpn_1 fn_1 kn_1), (xI bs cI 120 fb), (xo_3_iiiiiiiirrrrr td tv0 tv1 tv2 tv3 (nI thh) tv5 (nI tww) (nI tn_1) tb1 tb2 tb3 tb4 tb5), (xI tb1 cI 6 tg1), (xI tb2 cI 6 tg2n_1), (xI tb3 cI 6 tg3n_1), (xI tb4 cI 6 tg4n_1), (xI tb5 cI 6 tg5n_1)]) [0, 1, 2, 3, 4, 5, 6, 7] rfl, hD.sub (ws' := [(xo_6_ririii h bs (nI z) td fpn_1 fn_1 kn_1), (xI bs cI 120 fb), (xo_3_iiiiiiiirrrrr td tv0 tv1 tv2 tv3 (nI thh) tv5 (nI tww) (nI tn_1) tb1 tb2 tb3 tb4 tb5), (xI tb1 cI 6 tg1), (xI tb2 cI 6 tg2n_1), (xI tb3 cI 6 tg3n_1), (xI tb4 cI 6 tg4n_1), (xI tb5 cI 6 tg5n_1)]) [0, 1, 2, 3, 4, 5, 6, 7] (by decide +kernel) rfl, hS, rfl, (by omega)⟩
  · rintro ii ⟨w_7, w_8, w_9, w_10, w_11, w_12, w_13, w_14⟩ H locs ls hii ⟨hl, hP, hD, hS, haf_0, hnb_w_10⟩ ih
    refine lv_iload_n hx hb dX6_readSounds_6 rfl (lv_at hl 0 rfl) ?_
    refine lv_bipush (v := 6) hx hb dX6_readSounds_7 (by decide) ?_
    refine lv_icmp_ge (tgt := 41) hx hb dX6_readSounds_9 (by decide) (fun c_ => absurd c_ (fun q_ => absurd ((nI_leI (a := 6) (b := ii) (by omega) (by omega)).mp q_) (by omega))) (fun _ => ?_)
    refine lv_aload_n hx hb dX6_readSounds_12 rfl (lv_at hl 1 rfl) ?_
    refine va_get (D := (dC, dI)) (ci := 6) (v := .int w_8) (C := RX6) (T := TX6) (N := 6) hx hb hts i_X6_readSounds_X6 hown hK hP 0 rfl rfl 4 (by decide) (hts _ mx_X6_readSounds_1) (fun _ h9 => h9) rfl dX6_readSounds_13 ?_
    refine lv_if_ne (tgt := 41) hx hb dX6_readSounds_16 (by decide) (fun c_29 => ?_) (fun c_29 => ?_)
    · skip
      have hX9 := cut2 (wc := [(xo_6_ririii h bs (nI z) td w_7 w_8 w_9), (xI bs cI 120 fb), (xo_3_iiiiiiiirrrrr td tv0 tv1 tv2 tv3 (nI thh) tv5 (nI tww) (nI w_10) tb1 tb2 tb3 tb4 tb5), (xI tb1 cI 6 tg1), (xI tb2 cI 6 w_11), (xI tb3 cI 6 w_12), (xI tb4 cI 6 w_13), (xI tb5 cI 6 w_14)]) hP hD [0, 1, 2, 3, 4, 5, 6, 7] (by decide +kernel) rfl
      exact W.vret hx hb hr (fun t ht hW => ⟨⟨(), rfl, trivial, ⟨w_7, w_8, w_9, w_10, w_11, w_12, w_13, w_14, va_Ht ht hX9.1, hX9.2, (lf_X6_readSounds_1 thb hz htww htkk hF_1_0 hF_1_1 hii haf_0 hnb_w_10 c_29), (lf_X6_readSounds_2 thb hz htww htkk hF_1_0 hF_1_1 hii haf_0 hnb_w_10 c_29)⟩⟩, hS.F ht⟩) hS.2.2 dX6_readSounds_41
    · skip
      refine lv_aload_n hx hb dX6_readSounds_19 rfl (lv_at hl 1 rfl) ?_
      refine lv_aload_n hx hb dX6_readSounds_20 rfl (lv_at hl 1 rfl) ?_
      refine va_get (D := (dC, dI)) (ci := 6) (v := .int w_9) (C := RX6) (T := TX6) (N := 6) hx hb hts i_X6_readSounds_X6 hown hK hP 0 rfl rfl 5 (by decide) (hts _ mx_X6_readSounds_2) (fun _ h9 => h9) rfl dX6_readSounds_21 ?_
      have hPc_30 := hP.sub (ws' := [(xo_6_ririii h bs (nI z) td w_7 w_8 w_9), (xI bs cI 120 fb)]) [0, 1] rfl
      refine vp_callSi (W.runV (As := [.int w_9]) (rest := []) ⟨hx, hb, hml, hown, hts⟩ (r_X6_byteAt l dC dI cI cZ cL cJ h bs td z w_7 w_8 w_9 fb w_9 (hz)) (cwV 1 hts gX6_readSounds_X6_byteAt rfl rfl rfl (by decide +kernel) ⟨Nat.le_of_ble_eq_true rfl, Nat.le_of_ble_eq_true rfl⟩) (pvP 6 0 hK hP rfl rfl hPc_30) rfl rfl hl.1 rfl (lv_room (Nat.le_of_ble_eq_true rfl)) dX6_readSounds_24 ⟨Nat.le_of_ble_eq_true rfl, Nat.le_of_ble_eq_true rfl⟩) (fun r_30 h_30 => ?_)
      refine lv_iconst (v := (-1)) hx hb dX6_readSounds_27 (by decide) ?_
      refine lv_icmp_eq (tgt := 41) hx hb dX6_readSounds_28 (by decide) (fun c_31 => ?_) (fun c_31 => ?_)
      · skip
        have hX9 := cut2 (wc := [(xo_6_ririii h bs (nI z) td w_7 w_8 w_9), (xI bs cI 120 fb), (xo_3_iiiiiiiirrrrr td tv0 tv1 tv2 tv3 (nI thh) tv5 (nI tww) (nI w_10) tb1 tb2 tb3 tb4 tb5), (xI tb1 cI 6 tg1), (xI tb2 cI 6 w_11), (xI tb3 cI 6 w_12), (xI tb4 cI 6 w_13), (xI tb5 cI 6 w_14)]) hP hD [0, 1, 2, 3, 4, 5, 6, 7] (by decide +kernel) rfl
        exact W.vret hx hb hr (fun t ht hW => ⟨⟨(), rfl, trivial, ⟨w_7, w_8, w_9, w_10, w_11, w_12, w_13, w_14, va_Ht ht hX9.1, hX9.2, (lf_X6_readSounds_3 thb hz htww htkk hF_1_0 hF_1_1 hii haf_0 hnb_w_10 c_29 h_30 c_31), (lf_X6_readSounds_4 thb hz htww htkk hF_1_0 hF_1_1 hii haf_0 hnb_w_10 c_29 h_30 c_31)⟩⟩, hS.F ht⟩) hS.2.2 dX6_readSounds_41
      · skip
        refine lv_aload_n hx hb dX6_readSounds_31 rfl (lv_at hl 1 rfl) ?_
        have hc_32 := cutW (wc := [(xo_6_ririii h bs (nI z) td w_7 w_8 w_9), (xI bs cI 120 fb), (xo_3_iiiiiiiirrrrr td tv0 tv1 tv2 tv3 (nI thh) tv5 (nI tww) (nI w_10) tb1 tb2 tb3 tb4 tb5), (xI tb1 cI 6 tg1), (xI tb2 cI 6 w_11), (xI tb3 cI 6 w_12), (xI tb4 cI 6 w_13), (xI tb5 cI 6 w_14)]) hP hD hS hA [0, 1, 2, 3, 4, 5, 6, 7] (by decide +kernel) rfl
        refine va_callv (va_runV (As := []) (rest := []) ⟨hx, hb, hml, hown, hts⟩ (r_X6_readSound l dC dI cI cZ cL cJ H.size h bs td z w_7 w_8 w_9 fb tv0 tv1 tv2 tv3 tv5 thh tww w_10 tb1 tb2 tb3 tb4 tb5 tg1 w_11 w_12 w_13 w_14 (thb) (hz) (htww) (by omega)) (cwV 0 hts gX6_readSounds_X6_readSound rfl rfl rfl (by decide +kernel) ⟨Nat.le_of_ble_eq_true rfl, Nat.le_of_ble_eq_true rfl⟩) (pvW 6 0 hK hP rfl rfl hc_32) rfl rfl hl.1 rfl (lv_room (Nat.le_of_ble_eq_true rfl)) dX6_readSounds_32 ⟨Nat.le_of_ble_eq_true rfl, Nat.le_of_ble_eq_true rfl⟩) hS (fun q _ h => hc_32.2.2 q h) hc_32.2.2 (fun u_32 t_32 H1 locs ht hvm h_32 hB hz1 hk1 hS => ?_)
        refine xl_8_4 hB (fun fpn_32 fn_32 kn_32 tn_32 tg2n_32 tg3n_32 tg4n_32 tg5n_32 hP1 hD1 hF_32_0 hF_32_1 => ?_)
        clear hB
        rw [ht] at hP1
        obtain ⟨hP, hD⟩ := va_join (wr := []) (w1 := [(xo_6_ririii h bs (nI z) td fpn_32 fn_32 kn_32), (xI bs cI 120 fb), (xo_3_iiiiiiiirrrrr td tv0 tv1 tv2 tv3 (nI thh) tv5 (nI tww) (nI tn_32) tb1 tb2 tb3 tb4 tb5), (xI tb1 cI 6 tg1), (xI tb2 cI 6 tg2n_32), (xI tb3 cI 6 tg3n_32), (xI tb4 cI 6 tg4n_32), (xI tb5 cI 6 tg5n_32)]) hP hD [0, 1, 2, 3, 4, 5, 6, 7] [] rfl rfl (by decide +kernel) (by decide +kernel) hk1 hc_32.2.2 hP1 hD1
        generalize H1 = H at hP hS ⊢
        have hP : va_P (dC, dI) vwCl [(xo_6_ririii h bs (nI z) td fpn_32 fn_32 kn_32), (xI bs cI 120 fb), (xo_3_iiiiiiiirrrrr td tv0 tv1 tv2 tv3 (nI thh) tv5 (nI tww) (nI tn_32) tb1 tb2 tb3 tb4 tb5), (xI tb1 cI 6 tg1), (xI tb2 cI 6 tg2n_32), (xI tb3 cI 6 tg3n_32), (xI tb4 cI 6 tg4n_32), (xI tb5 cI 6 tg5n_32)] H := hP
        have hD := dto hP hD
        refine lv_iinc (v := (nI (ii + 1))) (lv' := [(1, .int (nI (ii + 1))), (0, .ref h)]) hx hb dX6_readSounds_35 hl (k := 0) rfl (nI_add ii 1) (by decide) rfl (fun ls hl => ?_)
        refine lv_goto (tgt := 6) hx hb dX6_readSounds_38 (by decide) ?_
        exact ih (fpn_32, fn_32, kn_32, tn_32, tg2n_32, tg3n_32, tg4n_32, tg5n_32) _ _ _ ⟨lv_sub hl [0, 1] rfl, hP.sub (ws' := [(xo_6_ririii h bs (nI z) td fpn_32 fn_32 kn_32), (xI bs cI 120 fb), (xo_3_iiiiiiiirrrrr td tv0 tv1 tv2 tv3 (nI thh) tv5 (nI tww) (nI tn_32) tb1 tb2 tb3 tb4 tb5), (xI tb1 cI 6 tg1), (xI tb2 cI 6 tg2n_32), (xI tb3 cI 6 tg3n_32), (xI tb4 cI 6 tg4n_32), (xI tb5 cI 6 tg5n_32)]) [0, 1, 2, 3, 4, 5, 6, 7] rfl, hD.sub (ws' := [(xo_6_ririii h bs (nI z) td fpn_32 fn_32 kn_32), (xI bs cI 120 fb), (xo_3_iiiiiiiirrrrr td tv0 tv1 tv2 tv3 (nI thh) tv5 (nI tww) (nI tn_32) tb1 tb2 tb3 tb4 tb5), (xI tb1 cI 6 tg1), (xI tb2 cI 6 tg2n_32), (xI tb3 cI 6 tg3n_32), (xI tb4 cI 6 tg4n_32), (xI tb5 cI 6 tg5n_32)]) [0, 1, 2, 3, 4, 5, 6, 7] (by decide +kernel) rfl, hS, (lf_X6_readSounds_5 thb hz htww htkk hF_1_0 hF_1_1 hii haf_0 hnb_w_10 c_29 h_30 c_31 hF_32_0 hF_32_1), (by omega)⟩
  · rintro ⟨w_7, w_8, w_9, w_10, w_11, w_12, w_13, w_14⟩ H locs ls ⟨hl, hP, hD, hS, haf_0, hnb_w_10⟩
    refine lv_iload_n hx hb dX6_readSounds_6 rfl (lv_at hl 0 rfl) ?_
    refine lv_bipush (v := 6) hx hb dX6_readSounds_7 (by decide) ?_
    refine lv_icmp_ge (tgt := 41) hx hb dX6_readSounds_9 (by decide) (fun _ => ?_) (fun c_ => absurd ((nI_leI (a := 6) (b := 6) (by omega) (by omega)).mpr (by omega)) c_)
    have hX9 := cut2 (wc := [(xo_6_ririii h bs (nI z) td w_7 w_8 w_9), (xI bs cI 120 fb), (xo_3_iiiiiiiirrrrr td tv0 tv1 tv2 tv3 (nI thh) tv5 (nI tww) (nI w_10) tb1 tb2 tb3 tb4 tb5), (xI tb1 cI 6 tg1), (xI tb2 cI 6 w_11), (xI tb3 cI 6 w_12), (xI tb4 cI 6 w_13), (xI tb5 cI 6 w_14)]) hP hD [0, 1, 2, 3, 4, 5, 6, 7] (by decide +kernel) rfl
    exact W.vret hx hb hr (fun t ht hW => ⟨⟨(), rfl, trivial, ⟨w_7, w_8, w_9, w_10, w_11, w_12, w_13, w_14, va_Ht ht hX9.1, hX9.2, (lf_X6_readSounds_6 thb hz htww htkk hF_1_0 hF_1_1 haf_0 hnb_w_10), (lf_X6_readSounds_7 thb hz htww htkk hF_1_0 hF_1_1 haf_0 hnb_w_10)⟩⟩, hS.F ht⟩) hS.2.2 dX6_readSounds_41
theorem lf_X6_read_1 {z : Nat} {fb : Nat → Int32} {thh : Nat} {tww : Nat} {tkk : Nat} {tg1 : Nat → Int32} {tg2 : Nat → Int32} {tg3 : Nat → Int32} {tg4 : Nat → Int32} {tg5 : Nat → Int32} {fpn_2 : Int32} {fn_2 : Int32} {kn_2 : Int32} {tv0n_2 : Int32} {tv1n_2 : Int32} {tv2n_2 : Int32} {fpn_3 : Int32} {fn_3 : Int32} {kn_3 : Int32} {tn_3 : Nat} {tg1n_3 : Nat → Int32} {fpn_4 : Int32} {fn_4 : Int32} {kn_4 : Int32} {tn_4 : Nat} {tg2n_4 : Nat → Int32} {tg3n_4 : Nat → Int32} {tg4n_4 : Nat → Int32} {tg5n_4 : Nat → Int32} (thb : thh ≤ 999) (hz : z ≤ 120) (htww : tww ≤ 6) (htkk : tkk ≤ 6) (hF_2_0 : xLc fb z (0, 0, 0) = (fpn_2, fn_2, kn_2)) (hF_2_1 : tv0n_2 = xL0 fb z (0, 0, 0)) (hF_2_2 : tv1n_2 = xL1 fb z (0, 0, 0)) (hF_2_3 : tv2n_2 = xL2 fb z (0, 0, 0)) (hF_3_0 : tn_3 ≤ 6) (hF_3_1 : xWs fb z 6 (xW fb z ((fpn_2, fn_2, kn_2), 0, tg1)) = ((fpn_3, fn_3, kn_3), tn_3, tg1n_3)) (hF_4_0 : tn_4 ≤ 6) (hF_4_1 : xSs fb z tv0n_2 6 (xS fb z tv0n_2 ((fpn_3, fn_3, kn_3), 0, tg2, tg3, tg4, tg5)) = ((fpn_4, fn_4, kn_4), tn_4, tg2n_4, tg3n_4, tg4n_4, tg5n_4)) : tn_3 ≤ 6 := by
  first
  | omega
  | (simp only [xRs, xRw]; grind)
  | grind
theorem lf_X6_read_2 {z : Nat} {fb : Nat → Int32} {thh : Nat} {tww : Nat} {tkk : Nat} {tg1 : Nat → Int32} {tg2 : Nat → Int32} {tg3 : Nat → Int32} {tg4 : Nat → Int32} {tg5 : Nat → Int32} {fpn_2 : Int32} {fn_2 : Int32} {kn_2 : Int32} {tv0n_2 : Int32} {tv1n_2 : Int32} {tv2n_2 : Int32} {fpn_3 : Int32} {fn_3 : Int32} {kn_3 : Int32} {tn_3 : Nat} {tg1n_3 : Nat → Int32} {fpn_4 : Int32} {fn_4 : Int32} {kn_4 : Int32} {tn_4 : Nat} {tg2n_4 : Nat → Int32} {tg3n_4 : Nat → Int32} {tg4n_4 : Nat → Int32} {tg5n_4 : Nat → Int32} (thb : thh ≤ 999) (hz : z ≤ 120) (htww : tww ≤ 6) (htkk : tkk ≤ 6) (hF_2_0 : xLc fb z (0, 0, 0) = (fpn_2, fn_2, kn_2)) (hF_2_1 : tv0n_2 = xL0 fb z (0, 0, 0)) (hF_2_2 : tv1n_2 = xL1 fb z (0, 0, 0)) (hF_2_3 : tv2n_2 = xL2 fb z (0, 0, 0)) (hF_3_0 : tn_3 ≤ 6) (hF_3_1 : xWs fb z 6 (xW fb z ((fpn_2, fn_2, kn_2), 0, tg1)) = ((fpn_3, fn_3, kn_3), tn_3, tg1n_3)) (hF_4_0 : tn_4 ≤ 6) (hF_4_1 : xSs fb z tv0n_2 6 (xS fb z tv0n_2 ((fpn_3, fn_3, kn_3), 0, tg2, tg3, tg4, tg5)) = ((fpn_4, fn_4, kn_4), tn_4, tg2n_4, tg3n_4, tg4n_4, tg5n_4)) : tn_4 ≤ 6 := by
  first
  | omega
  | (simp only [xRs, xRw]; grind)
  | grind
theorem lf_X6_read_3 {z : Nat} {fb : Nat → Int32} {thh : Nat} {tww : Nat} {tkk : Nat} {tg1 : Nat → Int32} {tg2 : Nat → Int32} {tg3 : Nat → Int32} {tg4 : Nat → Int32} {tg5 : Nat → Int32} {fpn_2 : Int32} {fn_2 : Int32} {kn_2 : Int32} {tv0n_2 : Int32} {tv1n_2 : Int32} {tv2n_2 : Int32} {fpn_3 : Int32} {fn_3 : Int32} {kn_3 : Int32} {tn_3 : Nat} {tg1n_3 : Nat → Int32} {fpn_4 : Int32} {fn_4 : Int32} {kn_4 : Int32} {tn_4 : Nat} {tg2n_4 : Nat → Int32} {tg3n_4 : Nat → Int32} {tg4n_4 : Nat → Int32} {tg5n_4 : Nat → Int32} (thb : thh ≤ 999) (hz : z ≤ 120) (htww : tww ≤ 6) (htkk : tkk ≤ 6) (hF_2_0 : xLc fb z (0, 0, 0) = (fpn_2, fn_2, kn_2)) (hF_2_1 : tv0n_2 = xL0 fb z (0, 0, 0)) (hF_2_2 : tv1n_2 = xL1 fb z (0, 0, 0)) (hF_2_3 : tv2n_2 = xL2 fb z (0, 0, 0)) (hF_3_0 : tn_3 ≤ 6) (hF_3_1 : xWs fb z 6 (xW fb z ((fpn_2, fn_2, kn_2), 0, tg1)) = ((fpn_3, fn_3, kn_3), tn_3, tg1n_3)) (hF_4_0 : tn_4 ≤ 6) (hF_4_1 : xSs fb z tv0n_2 6 (xS fb z tv0n_2 ((fpn_3, fn_3, kn_3), 0, tg2, tg3, tg4, tg5)) = ((fpn_4, fn_4, kn_4), tn_4, tg2n_4, tg3n_4, tg4n_4, tg5n_4)) : xRs fb z tg1 tg2 tg3 tg4 tg5 = ((fpn_4, fn_4, kn_4), tn_4, tg2n_4, tg3n_4, tg4n_4, tg5n_4) := by
  first
  | omega
  | (simp only [xRs, xRw]; grind)
  | grind
theorem lf_X6_read_4 {z : Nat} {fb : Nat → Int32} {thh : Nat} {tww : Nat} {tkk : Nat} {tg1 : Nat → Int32} {tg2 : Nat → Int32} {tg3 : Nat → Int32} {tg4 : Nat → Int32} {tg5 : Nat → Int32} {fpn_2 : Int32} {fn_2 : Int32} {kn_2 : Int32} {tv0n_2 : Int32} {tv1n_2 : Int32} {tv2n_2 : Int32} {fpn_3 : Int32} {fn_3 : Int32} {kn_3 : Int32} {tn_3 : Nat} {tg1n_3 : Nat → Int32} {fpn_4 : Int32} {fn_4 : Int32} {kn_4 : Int32} {tn_4 : Nat} {tg2n_4 : Nat → Int32} {tg3n_4 : Nat → Int32} {tg4n_4 : Nat → Int32} {tg5n_4 : Nat → Int32} (thb : thh ≤ 999) (hz : z ≤ 120) (htww : tww ≤ 6) (htkk : tkk ≤ 6) (hF_2_0 : xLc fb z (0, 0, 0) = (fpn_2, fn_2, kn_2)) (hF_2_1 : tv0n_2 = xL0 fb z (0, 0, 0)) (hF_2_2 : tv1n_2 = xL1 fb z (0, 0, 0)) (hF_2_3 : tv2n_2 = xL2 fb z (0, 0, 0)) (hF_3_0 : tn_3 ≤ 6) (hF_3_1 : xWs fb z 6 (xW fb z ((fpn_2, fn_2, kn_2), 0, tg1)) = ((fpn_3, fn_3, kn_3), tn_3, tg1n_3)) (hF_4_0 : tn_4 ≤ 6) (hF_4_1 : xSs fb z tv0n_2 6 (xS fb z tv0n_2 ((fpn_3, fn_3, kn_3), 0, tg2, tg3, tg4, tg5)) = ((fpn_4, fn_4, kn_4), tn_4, tg2n_4, tg3n_4, tg4n_4, tg5n_4)) : (xRw fb z tg1).2 = (tn_3, tg1n_3) := by
  first
  | omega
  | (simp only [xRs, xRw]; grind)
  | grind
theorem lf_X6_read_5 {z : Nat} {fb : Nat → Int32} {thh : Nat} {tww : Nat} {tkk : Nat} {tg1 : Nat → Int32} {tg2 : Nat → Int32} {tg3 : Nat → Int32} {tg4 : Nat → Int32} {tg5 : Nat → Int32} {fpn_2 : Int32} {fn_2 : Int32} {kn_2 : Int32} {tv0n_2 : Int32} {tv1n_2 : Int32} {tv2n_2 : Int32} {fpn_3 : Int32} {fn_3 : Int32} {kn_3 : Int32} {tn_3 : Nat} {tg1n_3 : Nat → Int32} {fpn_4 : Int32} {fn_4 : Int32} {kn_4 : Int32} {tn_4 : Nat} {tg2n_4 : Nat → Int32} {tg3n_4 : Nat → Int32} {tg4n_4 : Nat → Int32} {tg5n_4 : Nat → Int32} (thb : thh ≤ 999) (hz : z ≤ 120) (htww : tww ≤ 6) (htkk : tkk ≤ 6) (hF_2_0 : xLc fb z (0, 0, 0) = (fpn_2, fn_2, kn_2)) (hF_2_1 : tv0n_2 = xL0 fb z (0, 0, 0)) (hF_2_2 : tv1n_2 = xL1 fb z (0, 0, 0)) (hF_2_3 : tv2n_2 = xL2 fb z (0, 0, 0)) (hF_3_0 : tn_3 ≤ 6) (hF_3_1 : xWs fb z 6 (xW fb z ((fpn_2, fn_2, kn_2), 0, tg1)) = ((fpn_3, fn_3, kn_3), tn_3, tg1n_3)) (hF_4_0 : tn_4 ≤ 6) (hF_4_1 : xSs fb z tv0n_2 6 (xS fb z tv0n_2 ((fpn_3, fn_3, kn_3), 0, tg2, tg3, tg4, tg5)) = ((fpn_4, fn_4, kn_4), tn_4, tg2n_4, tg3n_4, tg4n_4, tg5n_4)) : tv0n_2 = xL0 fb z (0, 0, 0) := by
  first
  | omega
  | (simp only [xRs, xRw]; grind)
  | grind
theorem lf_X6_read_6 {z : Nat} {fb : Nat → Int32} {thh : Nat} {tww : Nat} {tkk : Nat} {tg1 : Nat → Int32} {tg2 : Nat → Int32} {tg3 : Nat → Int32} {tg4 : Nat → Int32} {tg5 : Nat → Int32} {fpn_2 : Int32} {fn_2 : Int32} {kn_2 : Int32} {tv0n_2 : Int32} {tv1n_2 : Int32} {tv2n_2 : Int32} {fpn_3 : Int32} {fn_3 : Int32} {kn_3 : Int32} {tn_3 : Nat} {tg1n_3 : Nat → Int32} {fpn_4 : Int32} {fn_4 : Int32} {kn_4 : Int32} {tn_4 : Nat} {tg2n_4 : Nat → Int32} {tg3n_4 : Nat → Int32} {tg4n_4 : Nat → Int32} {tg5n_4 : Nat → Int32} (thb : thh ≤ 999) (hz : z ≤ 120) (htww : tww ≤ 6) (htkk : tkk ≤ 6) (hF_2_0 : xLc fb z (0, 0, 0) = (fpn_2, fn_2, kn_2)) (hF_2_1 : tv0n_2 = xL0 fb z (0, 0, 0)) (hF_2_2 : tv1n_2 = xL1 fb z (0, 0, 0)) (hF_2_3 : tv2n_2 = xL2 fb z (0, 0, 0)) (hF_3_0 : tn_3 ≤ 6) (hF_3_1 : xWs fb z 6 (xW fb z ((fpn_2, fn_2, kn_2), 0, tg1)) = ((fpn_3, fn_3, kn_3), tn_3, tg1n_3)) (hF_4_0 : tn_4 ≤ 6) (hF_4_1 : xSs fb z tv0n_2 6 (xS fb z tv0n_2 ((fpn_3, fn_3, kn_3), 0, tg2, tg3, tg4, tg5)) = ((fpn_4, fn_4, kn_4), tn_4, tg2n_4, tg3n_4, tg4n_4, tg5n_4)) : tv1n_2 = xL1 fb z (0, 0, 0) := by
  first
  | omega
  | (simp only [xRs, xRw]; grind)
  | grind
theorem lf_X6_read_7 {z : Nat} {fb : Nat → Int32} {thh : Nat} {tww : Nat} {tkk : Nat} {tg1 : Nat → Int32} {tg2 : Nat → Int32} {tg3 : Nat → Int32} {tg4 : Nat → Int32} {tg5 : Nat → Int32} {fpn_2 : Int32} {fn_2 : Int32} {kn_2 : Int32} {tv0n_2 : Int32} {tv1n_2 : Int32} {tv2n_2 : Int32} {fpn_3 : Int32} {fn_3 : Int32} {kn_3 : Int32} {tn_3 : Nat} {tg1n_3 : Nat → Int32} {fpn_4 : Int32} {fn_4 : Int32} {kn_4 : Int32} {tn_4 : Nat} {tg2n_4 : Nat → Int32} {tg3n_4 : Nat → Int32} {tg4n_4 : Nat → Int32} {tg5n_4 : Nat → Int32} (thb : thh ≤ 999) (hz : z ≤ 120) (htww : tww ≤ 6) (htkk : tkk ≤ 6) (hF_2_0 : xLc fb z (0, 0, 0) = (fpn_2, fn_2, kn_2)) (hF_2_1 : tv0n_2 = xL0 fb z (0, 0, 0)) (hF_2_2 : tv1n_2 = xL1 fb z (0, 0, 0)) (hF_2_3 : tv2n_2 = xL2 fb z (0, 0, 0)) (hF_3_0 : tn_3 ≤ 6) (hF_3_1 : xWs fb z 6 (xW fb z ((fpn_2, fn_2, kn_2), 0, tg1)) = ((fpn_3, fn_3, kn_3), tn_3, tg1n_3)) (hF_4_0 : tn_4 ≤ 6) (hF_4_1 : xSs fb z tv0n_2 6 (xS fb z tv0n_2 ((fpn_3, fn_3, kn_3), 0, tg2, tg3, tg4, tg5)) = ((fpn_4, fn_4, kn_4), tn_4, tg2n_4, tg3n_4, tg4n_4, tg5n_4)) : tv2n_2 = xL2 fb z (0, 0, 0) := by
  first
  | omega
  | (simp only [xRs, xRw]; grind)
  | grind
theorem lf_X6_read_8 {z : Nat} {fb : Nat → Int32} {thh : Nat} {tww : Nat} {tkk : Nat} {tg1 : Nat → Int32} {tg2 : Nat → Int32} {tg3 : Nat → Int32} {tg4 : Nat → Int32} {tg5 : Nat → Int32} {fpn_2 : Int32} {fn_2 : Int32} {kn_2 : Int32} {tv0n_2 : Int32} {tv1n_2 : Int32} {tv2n_2 : Int32} {fpn_3 : Int32} {fn_3 : Int32} {kn_3 : Int32} {tn_3 : Nat} {tg1n_3 : Nat → Int32} {fpn_4 : Int32} {fn_4 : Int32} {kn_4 : Int32} {tn_4 : Nat} {tg2n_4 : Nat → Int32} {tg3n_4 : Nat → Int32} {tg4n_4 : Nat → Int32} {tg5n_4 : Nat → Int32} (thb : thh ≤ 999) (hz : z ≤ 120) (htww : tww ≤ 6) (htkk : tkk ≤ 6) (hF_2_0 : xLc fb z (0, 0, 0) = (fpn_2, fn_2, kn_2)) (hF_2_1 : tv0n_2 = xL0 fb z (0, 0, 0)) (hF_2_2 : tv1n_2 = xL1 fb z (0, 0, 0)) (hF_2_3 : tv2n_2 = xL2 fb z (0, 0, 0)) (hF_3_0 : tn_3 ≤ 6) (hF_3_1 : xWs fb z 6 (xW fb z ((fpn_2, fn_2, kn_2), 0, tg1)) = ((fpn_3, fn_3, kn_3), tn_3, tg1n_3)) (hF_4_0 : tn_4 ≤ 6) (hF_4_1 : xSs fb z tv0n_2 6 (xS fb z tv0n_2 ((fpn_3, fn_3, kn_3), 0, tg2, tg3, tg4, tg5)) = ((fpn_4, fn_4, kn_4), tn_4, tg2n_4, tg3n_4, tg4n_4, tg5n_4)) : fn_4 = ((xRs fb z tg1 tg2 tg3 tg4 tg5).1.2.1) := by
  first
  | omega
  | (simp only [xRs, xRw]; grind)
  | grind
set_option maxHeartbeats 4000000 in
set_option maxRecDepth 100000 in
theorem r_X6_read (l : Launch) (dC : Nat → ClassId) (dI : Nat → Nat → Nat) (cI cZ cL cJ : ClassId) (sz : Nat) (h : Nat) (bs : Nat) (td : Nat) (z : Nat) (fp : Int32) (f : Int32) (k : Int32) (fb : Nat → Int32) (tv0 : Int32) (tv1 : Int32) (tv2 : Int32) (tv3 : Int32) (tv5 : Int32) (thh : Nat) (tww : Nat) (tkk : Nat) (tb1 : Nat) (tb2 : Nat) (tb3 : Nat) (tb4 : Nat) (tb5 : Nat) (tg1 : Nat → Int32) (tg2 : Nat → Int32) (tg3 : Nat → Int32) (tg4 : Nat → Int32) (tg5 : Nat → Int32) (thb : thh ≤ 999) (hz : z ≤ 120) (htww : tww ≤ 6) (htkk : tkk ≤ 6) : Met l yX6_read wsX6_read ({ frames := 5, cells := 0, slots := 0, locals := 111 }) (va_Pc [.ref h] (fun U => U.heap.size = sz ∧ va_P (dC, dI) vwCl [(xo_6_ririii h bs (nI z) td fp f k), (xI bs cI 120 fb), (xo_3_iiiiiiiirrrrr td tv0 tv1 tv2 tv3 (nI thh) tv5 (nI tww) (nI tkk) tb1 tb2 tb3 tb4 tb5), (xI tb1 cI 6 tg1), (xI tb2 cI 6 tg2), (xI tb3 cI 6 tg3), (xI tb4 cI 6 tg4), (xI tb5 cI 6 tg5)] U.heap ∧ va_K (dC, dI) vwCl [(cI, .int), (cZ, .boolean), (cL, .object RX3), (cJ, .array .int)] U ∧ va_D (fun _ => True) [(xo_6_ririii h bs (nI z) td fp f k), (xI bs cI 120 fb), (xo_3_iiiiiiiirrrrr td tv0 tv1 tv2 tv3 (nI thh) tv5 (nI tww) (nI tkk) tb1 tb2 tb3 tb4 tb5), (xI tb1 cI 6 tg1), (xI tb2 cI 6 tg2), (xI tb3 cI 6 tg3), (xI tb4 cI 6 tg4), (xI tb5 cI 6 tg5)])) (va_Qi (fun r (_ : Unit) => r = ((xRs fb z tg1 tg2 tg3 tg4 tg5).1.2.1)) (fun (_ : Unit) t => ∃ (fpn : Int32) (fn : Int32) (kn : Int32) (tv0n : Int32) (tv1n : Int32) (tv2n : Int32) (twn : Nat) (tkn : Nat) (tg1n : Nat → Int32) (tg2n : Nat → Int32) (tg3n : Nat → Int32) (tg4n : Nat → Int32) (tg5n : Nat → Int32), va_P (dC, dI) vwCl [(xo_6_ririii h bs (nI 0) td fpn fn kn), (xI bs cI 120 fb), (xo_3_iiiiiiiirrrrr td tv0n tv1n tv2n 1 (nI 0) 0 (nI twn) (nI tkn) tb1 tb2 tb3 tb4 tb5), (xI tb1 cI 6 tg1n), (xI tb2 cI 6 tg2n), (xI tb3 cI 6 tg3n), (xI tb4 cI 6 tg4n), (xI tb5 cI 6 tg5n)] t.heap ∧ va_D (va_A [(xo_6_ririii h bs (nI z) td fp f k), (xI bs cI 120 fb), (xo_3_iiiiiiiirrrrr td tv0 tv1 tv2 tv3 (nI thh) tv5 (nI tww) (nI tkk) tb1 tb2 tb3 tb4 tb5), (xI tb1 cI 6 tg1), (xI tb2 cI 6 tg2), (xI tb3 cI 6 tg3), (xI tb4 cI 6 tg4), (xI tb5 cI 6 tg5)] sz) [(xo_6_ririii h bs (nI 0) td fpn fn kn), (xI bs cI 120 fb), (xo_3_iiiiiiiirrrrr td tv0n tv1n tv2n 1 (nI 0) 0 (nI twn) (nI tkn) tb1 tb2 tb3 tb4 tb5), (xI tb1 cI 6 tg1n), (xI tb2 cI 6 tg2n), (xI tb3 cI 6 tg3n), (xI tb4 cI 6 tg4n), (xI tb5 cI 6 tg5n)] ∧ twn ≤ 6 ∧ tkn ≤ 6 ∧ xRs fb z tg1 tg2 tg3 tg4 tg5 = ((fpn, fn, kn), tkn, tg2n, tg3n, tg4n, tg5n) ∧ (xRw fb z tg1).2 = (twn, tg1n) ∧ tv0n = xL0 fb z (0, 0, 0) ∧ tv1n = xL1 fb z (0, 0, 0) ∧ tv2n = xL2 fb z (0, 0, 0)) (va_A [(xo_6_ririii h bs (nI z) td fp f k), (xI bs cI 120 fb), (xo_3_iiiiiiiirrrrr td tv0 tv1 tv2 tv3 (nI thh) tv5 (nI tww) (nI tkk) tb1 tb2 tb3 tb4 tb5), (xI tb1 cI 6 tg1), (xI tb2 cI 6 tg2), (xI tb3 cI 6 tg3), (xI tb4 cI 6 tg4), (xI tb5 cI 6 tg5)] sz)) 0 0 (va_A [(xo_6_ririii h bs (nI z) td fp f k), (xI bs cI 120 fb), (xo_3_iiiiiiiirrrrr td tv0 tv1 tv2 tv3 (nI thh) tv5 (nI tww) (nI tkk) tb1 tb2 tb3 tb4 tb5), (xI tb1 cI 6 tg1), (xI tb2 cI 6 tg2), (xI tb3 cI 6 tg3), (xI tb4 cI 6 tg4), (xI tb5 cI 6 tg5)] sz) := by
  refine Met.ofW (cc := cX6_read) (maxL := 1) (ret := (some .int)) (by decide) rfl ?_
  intro p e s m args below meth c s₁ B hml hv
  obtain ⟨rfl, hsz, hP, hK, hD0⟩ := hv
  have hx := B.exec
  have hb := B.bytes
  have hr := B.returns
  have hts := atoms_spec (ws := wsX6_read) B.pre
  have hown : s.vm.findClass RX6 = some m.cls := findClass_of_methodNamed B.named
  have hlocks := B.notSynchronized
  subst hsz
  have hD := hD0.self (sz := s.heap.size)
  generalize hAe : va_A [(xo_6_ririii h bs (nI z) td fp f k), (xI bs cI 120 fb), (xo_3_iiiiiiiirrrrr td tv0 tv1 tv2 tv3 (nI thh) tv5 (nI tww) (nI tkk) tb1 tb2 tb3 tb4 tb5), (xI tb1 cI 6 tg1), (xI tb2 cI 6 tg2), (xI tb3 cI 6 tg3), (xI tb4 cI 6 tg4), (xI tb5 cI 6 tg5)] s.heap.size = A at hD ⊢
  have hA : ∀ q : Nat, s.heap.size ≤ q → A q := fun q h => by rw [← hAe]; exact Or.inr h
  have hS : va_S A s.heap s.heap [] := va_S.rf
  have hP : va_P (dC, dI) vwCl [(xo_6_ririii h bs (nI z) td fp f k), (xI bs cI 120 fb), (xo_3_iiiiiiiirrrrr td tv0 tv1 tv2 tv3 (nI thh) tv5 (nI tww) (nI tkk) tb1 tb2 tb3 tb4 tb5), (xI tb1 cI 6 tg1), (xI tb2 cI 6 tg2), (xI tb3 cI 6 tg3), (xI tb4 cI 6 tg4), (xI tb5 cI 6 tg5)] s.heap := hP
  have hl := lv_entry ([.ref h]) (n := 1) (Nat.le_of_ble_eq_true rfl)
  rw [lg_entry_eq]
  generalize (lg_sl ([.ref h]) ++ List.replicate (1 - (lg_sl ([.ref h])).length) Slot.unset).toArray = ls at hl ⊢
  have hl : lv_has ls 1 [(0, .ref h)] := hl
  refine lv_aload_n hx hb dX6_read_0 rfl (lv_at hl 0 rfl) ?_
  refine lv_iconst (v := 0) hx hb dX6_read_1 (by decide) ?_
  refine va_put (D := (dC, dI)) (ci := 6) (v := .int 0) (ty := .int) (C := RX6) (T := TX6) (N := 6) hx hb hts i_X6_read_X6 tyX6 tyX6_ok nmX6 hown hK hP hD hS 0 rfl rfl 4 (by decide) (hts _ mx_X6_read_1) (fun _ h9 => h9) rfl (by decide +kernel) rfl rfl (Nat.le_of_ble_eq_true rfl) dX6_read_2 (fun H locs hP hD hS => ?_)
  have hP : va_P (dC, dI) vwCl [(xo_6_ririii h bs (nI z) td fp 0 k), (xI bs cI 120 fb), (xo_3_iiiiiiiirrrrr td tv0 tv1 tv2 tv3 (nI thh) tv5 (nI tww) (nI tkk) tb1 tb2 tb3 tb4 tb5), (xI tb1 cI 6 tg1), (xI tb2 cI 6 tg2), (xI tb3 cI 6 tg3), (xI tb4 cI 6 tg4), (xI tb5 cI 6 tg5)] H := hP
  have hD := dto hP hD
  refine lv_aload_n hx hb dX6_read_5 rfl (lv_at hl 0 rfl) ?_
  refine lv_iconst (v := 0) hx hb dX6_read_6 (by decide) ?_
  refine va_put (D := (dC, dI)) (ci := 6) (v := .int 0) (ty := .int) (C := RX6) (T := TX6) (N := 6) hx hb hts i_X6_read_X6 tyX6 tyX6_ok nmX6 hown hK hP hD hS 0 rfl rfl 3 (by decide) (hts _ mx_X6_read_2) (fun _ h9 => h9) rfl (by decide +kernel) rfl rfl (Nat.le_of_ble_eq_true rfl) dX6_read_7 (fun H locs hP hD hS => ?_)
  have hP : va_P (dC, dI) vwCl [(xo_6_ririii h bs (nI z) td 0 0 k), (xI bs cI 120 fb), (xo_3_iiiiiiiirrrrr td tv0 tv1 tv2 tv3 (nI thh) tv5 (nI tww) (nI tkk) tb1 tb2 tb3 tb4 tb5), (xI tb1 cI 6 tg1), (xI tb2 cI 6 tg2), (xI tb3 cI 6 tg3), (xI tb4 cI 6 tg4), (xI tb5 cI 6 tg5)] H := hP
  have hD := dto hP hD
  refine lv_aload_n hx hb dX6_read_10 rfl (lv_at hl 0 rfl) ?_
  refine lv_iconst (v := 0) hx hb dX6_read_11 (by decide) ?_
  refine va_put (D := (dC, dI)) (ci := 6) (v := .int 0) (ty := .int) (C := RX6) (T := TX6) (N := 6) hx hb hts i_X6_read_X6 tyX6 tyX6_ok nmX6 hown hK hP hD hS 0 rfl rfl 5 (by decide) (hts _ mx_X6_read_3) (fun _ h9 => h9) rfl (by decide +kernel) rfl rfl (Nat.le_of_ble_eq_true rfl) dX6_read_12 (fun H locs hP hD hS => ?_)
  have hP : va_P (dC, dI) vwCl [(xo_6_ririii h bs (nI z) td 0 0 0), (xI bs cI 120 fb), (xo_3_iiiiiiiirrrrr td tv0 tv1 tv2 tv3 (nI thh) tv5 (nI tww) (nI tkk) tb1 tb2 tb3 tb4 tb5), (xI tb1 cI 6 tg1), (xI tb2 cI 6 tg2), (xI tb3 cI 6 tg3), (xI tb4 cI 6 tg4), (xI tb5 cI 6 tg5)] H := hP
  have hD := dto hP hD
  refine lv_aload_n hx hb dX6_read_15 rfl (lv_at hl 0 rfl) ?_
  refine va_get (D := (dC, dI)) (ci := 6) (v := .ref td) (C := RX6) (T := TX6) (N := 6) hx hb hts i_X6_read_X6 hown hK hP 0 rfl rfl 2 (by decide) (hts _ mx_X6_read_4) (fun _ h9 => h9) rfl dX6_read_16 ?_
  have hc_1 := cutW (wc := [(xo_3_iiiiiiiirrrrr td tv0 tv1 tv2 tv3 (nI thh) tv5 (nI tww) (nI tkk) tb1 tb2 tb3 tb4 tb5), (xI tb1 cI 6 tg1), (xI tb2 cI 6 tg2), (xI tb3 cI 6 tg3), (xI tb4 cI 6 tg4), (xI tb5 cI 6 tg5)]) hP hD hS hA [2, 3, 4, 5, 6, 7] (by decide +kernel) rfl
  refine va_callv (va_runV (As := []) (rest := []) ⟨hx, hb, hml, hown, hts⟩ (r_X3_begin l dC dI cI cZ cL cJ H.size td tv0 tv1 tv2 tv3 tv5 thh tww tkk tb1 tb2 tb3 tb4 tb5 tg1 tg2 tg3 tg4 tg5 (by omega) (htww) (htkk)) (cwV 0 hts gX6_read_X3_begin rfl rfl rfl (by decide +kernel) ⟨Nat.le_of_ble_eq_true rfl, Nat.le_of_ble_eq_true rfl⟩) (pvW 3 2 hK hP rfl rfl hc_1) rfl rfl hl.1 rfl (lv_room (Nat.le_of_ble_eq_true rfl)) dX6_read_19 ⟨Nat.le_of_ble_eq_true rfl, Nat.le_of_ble_eq_true rfl⟩) hS (fun q _ h => hc_1.2.2 q h) hc_1.2.2 (fun u_1 t_1 H1 locs ht hvm h_1 hB hz1 hk1 hS => ?_)
  refine xl_0_2 hB (fun hP1 hD1 => ?_)
  clear hB
  rw [ht] at hP1
  obtain ⟨hP, hD⟩ := va_join (wr := [(xo_6_ririii h bs (nI z) td 0 0 0), (xI bs cI 120 fb)]) (w1 := [(xo_3_iiiiiiiirrrrr td 0 0 0 1 0 0 0 0 tb1 tb2 tb3 tb4 tb5), (xI tb1 cI 6 tg1), (xI tb2 cI 6 tg2), (xI tb3 cI 6 tg3), (xI tb4 cI 6 tg4), (xI tb5 cI 6 tg5)]) hP hD [2, 3, 4, 5, 6, 7] [0, 1] rfl rfl (by decide +kernel) (by decide +kernel) hk1 hc_1.2.2 hP1 hD1
  generalize H1 = H at hP hS ⊢
  have hP : va_P (dC, dI) vwCl [(xo_6_ririii h bs (nI z) td 0 0 0), (xI bs cI 120 fb), (xo_3_iiiiiiiirrrrr td 0 0 0 1 0 0 0 0 tb1 tb2 tb3 tb4 tb5), (xI tb1 cI 6 tg1), (xI tb2 cI 6 tg2), (xI tb3 cI 6 tg3), (xI tb4 cI 6 tg4), (xI tb5 cI 6 tg5)] H := hP
  have hD := dto hP hD
  refine lv_aload_n hx hb dX6_read_22 rfl (lv_at hl 0 rfl) ?_
  have hc_2 := cutW (wc := [(xo_6_ririii h bs (nI z) td 0 0 0), (xI bs cI 120 fb), (xo_3_iiiiiiiirrrrr td 0 0 0 1 (nI 0) 0 (nI 0) (nI 0) tb1 tb2 tb3 tb4 tb5), (xI tb1 cI 6 tg1), (xI tb2 cI 6 tg2), (xI tb3 cI 6 tg3), (xI tb4 cI 6 tg4), (xI tb5 cI 6 tg5)]) hP hD hS hA [0, 1, 2, 3, 4, 5, 6, 7] (by decide +kernel) rfl
  refine va_callv (va_runV (As := []) (rest := []) ⟨hx, hb, hml, hown, hts⟩ (r_X6_readLaw l dC dI cI cZ cL cJ H.size h bs td z 0 0 0 fb 0 0 0 1 0 0 0 0 tb1 tb2 tb3 tb4 tb5 tg1 tg2 tg3 tg4 tg5 (hz) (by omega) (by omega)) (cwV 0 hts gX6_read_X6_readLaw rfl rfl rfl (by decide +kernel) ⟨Nat.le_of_ble_eq_true rfl, Nat.le_of_ble_eq_true rfl⟩) (pvW 6 0 hK hP rfl rfl hc_2) rfl rfl hl.1 rfl (lv_room (Nat.le_of_ble_eq_true rfl)) dX6_read_23 ⟨Nat.le_of_ble_eq_true rfl, Nat.le_of_ble_eq_true rfl⟩) hS (fun q _ h => hc_2.2.2 q h) hc_2.2.2 (fun u_2 t_2 H1 locs ht hvm h_2 hB hz1 hk1 hS => ?_)
  refine xl_6_6 hB (fun fpn_2 fn_2 kn_2 tv0n_2 tv1n_2 tv2n_2 hP1 hD1 hF_2_0 hF_2_1 hF_2_2 hF_2_3 => ?_)
  clear hB
  rw [ht] at hP1
  obtain ⟨hP, hD⟩ := va_join (wr := []) (w1 := [(xo_6_ririii h bs (nI z) td fpn_2 fn_2 kn_2), (xI bs cI 120 fb), (xo_3_iiiiiiiirrrrr td tv0n_2 tv1n_2 tv2n_2 1 (nI 0) 0 (nI 0) (nI 0) tb1 tb2 tb3 tb4 tb5), (xI tb1 cI 6 tg1), (xI tb2 cI 6 tg2), (xI tb3 cI 6 tg3), (xI tb4 cI 6 tg4), (xI tb5 cI 6 tg5)]) hP hD [0, 1, 2, 3, 4, 5, 6, 7] [] rfl rfl (by decide +kernel) (by decide +kernel) hk1 hc_2.2.2 hP1 hD1
  generalize H1 = H at hP hS ⊢
  have hP : va_P (dC, dI) vwCl [(xo_6_ririii h bs (nI z) td fpn_2 fn_2 kn_2), (xI bs cI 120 fb), (xo_3_iiiiiiiirrrrr td tv0n_2 tv1n_2 tv2n_2 1 (nI 0) 0 (nI 0) (nI 0) tb1 tb2 tb3 tb4 tb5), (xI tb1 cI 6 tg1), (xI tb2 cI 6 tg2), (xI tb3 cI 6 tg3), (xI tb4 cI 6 tg4), (xI tb5 cI 6 tg5)] H := hP
  have hD := dto hP hD
  refine lv_aload_n hx hb dX6_read_26 rfl (lv_at hl 0 rfl) ?_
  have hc_3 := cutW (wc := [(xo_6_ririii h bs (nI z) td fpn_2 fn_2 kn_2), (xI bs cI 120 fb), (xo_3_iiiiiiiirrrrr td tv0n_2 tv1n_2 tv2n_2 1 (nI 0) 0 (nI 0) (nI 0) tb1 tb2 tb3 tb4 tb5), (xI tb1 cI 6 tg1), (xI tb2 cI 6 tg2), (xI tb3 cI 6 tg3), (xI tb4 cI 6 tg4), (xI tb5 cI 6 tg5)]) hP hD hS hA [0, 1, 2, 3, 4, 5, 6, 7] (by decide +kernel) rfl
  refine va_callv (va_runV (As := []) (rest := []) ⟨hx, hb, hml, hown, hts⟩ (r_X6_readWinds l dC dI cI cZ cL cJ H.size h bs td z fpn_2 fn_2 kn_2 fb tv0n_2 tv1n_2 tv2n_2 1 0 0 0 0 tb1 tb2 tb3 tb4 tb5 tg1 tg2 tg3 tg4 tg5 (hz) (by omega) (by omega)) (cwV 0 hts gX6_read_X6_readWinds rfl rfl rfl (by decide +kernel) ⟨Nat.le_of_ble_eq_true rfl, Nat.le_of_ble_eq_true rfl⟩) (pvW 6 0 hK hP rfl rfl hc_3) rfl rfl hl.1 rfl (lv_room (Nat.le_of_ble_eq_true rfl)) dX6_read_27 ⟨Nat.le_of_ble_eq_true rfl, Nat.le_of_ble_eq_true rfl⟩) hS (fun q _ h => hc_3.2.2 q h) hc_3.2.2 (fun u_3 t_3 H1 locs ht hvm h_3 hB hz1 hk1 hS => ?_)
  refine xl_5_4 hB (fun fpn_3 fn_3 kn_3 tn_3 tg1n_3 hP1 hD1 hF_3_0 hF_3_1 => ?_)
  clear hB
  rw [ht] at hP1
  obtain ⟨hP, hD⟩ := va_join (wr := []) (w1 := [(xo_6_ririii h bs (nI z) td fpn_3 fn_3 kn_3), (xI bs cI 120 fb), (xo_3_iiiiiiiirrrrr td tv0n_2 tv1n_2 tv2n_2 1 (nI 0) 0 (nI tn_3) (nI 0) tb1 tb2 tb3 tb4 tb5), (xI tb1 cI 6 tg1n_3), (xI tb2 cI 6 tg2), (xI tb3 cI 6 tg3), (xI tb4 cI 6 tg4), (xI tb5 cI 6 tg5)]) hP hD [0, 1, 2, 3, 4, 5, 6, 7] [] rfl rfl (by decide +kernel) (by decide +kernel) hk1 hc_3.2.2 hP1 hD1
  generalize H1 = H at hP hS ⊢
  have hP : va_P (dC, dI) vwCl [(xo_6_ririii h bs (nI z) td fpn_3 fn_3 kn_3), (xI bs cI 120 fb), (xo_3_iiiiiiiirrrrr td tv0n_2 tv1n_2 tv2n_2 1 (nI 0) 0 (nI tn_3) (nI 0) tb1 tb2 tb3 tb4 tb5), (xI tb1 cI 6 tg1n_3), (xI tb2 cI 6 tg2), (xI tb3 cI 6 tg3), (xI tb4 cI 6 tg4), (xI tb5 cI 6 tg5)] H := hP
  have hD := dto hP hD
  refine lv_aload_n hx hb dX6_read_30 rfl (lv_at hl 0 rfl) ?_
  have hc_4 := cutW (wc := [(xo_6_ririii h bs (nI z) td fpn_3 fn_3 kn_3), (xI bs cI 120 fb), (xo_3_iiiiiiiirrrrr td tv0n_2 tv1n_2 tv2n_2 1 (nI 0) 0 (nI tn_3) (nI 0) tb1 tb2 tb3 tb4 tb5), (xI tb1 cI 6 tg1n_3), (xI tb2 cI 6 tg2), (xI tb3 cI 6 tg3), (xI tb4 cI 6 tg4), (xI tb5 cI 6 tg5)]) hP hD hS hA [0, 1, 2, 3, 4, 5, 6, 7] (by decide +kernel) rfl
  refine va_callv (va_runV (As := []) (rest := []) ⟨hx, hb, hml, hown, hts⟩ (r_X6_readSounds l dC dI cI cZ cL cJ H.size h bs td z fpn_3 fn_3 kn_3 fb tv0n_2 tv1n_2 tv2n_2 1 0 0 tn_3 0 tb1 tb2 tb3 tb4 tb5 tg1n_3 tg2 tg3 tg4 tg5 (by omega) (hz) (by omega) (by omega)) (cwV 0 hts gX6_read_X6_readSounds rfl rfl rfl (by decide +kernel) ⟨Nat.le_of_ble_eq_true rfl, Nat.le_of_ble_eq_true rfl⟩) (pvW 6 0 hK hP rfl rfl hc_4) rfl rfl hl.1 rfl (lv_room (Nat.le_of_ble_eq_true rfl)) dX6_read_31 ⟨Nat.le_of_ble_eq_true rfl, Nat.le_of_ble_eq_true rfl⟩) hS (fun q _ h => hc_4.2.2 q h) hc_4.2.2 (fun u_4 t_4 H1 locs ht hvm h_4 hB hz1 hk1 hS => ?_)
  refine xl_8_4 hB (fun fpn_4 fn_4 kn_4 tn_4 tg2n_4 tg3n_4 tg4n_4 tg5n_4 hP1 hD1 hF_4_0 hF_4_1 => ?_)
  clear hB
  rw [ht] at hP1
  obtain ⟨hP, hD⟩ := va_join (wr := []) (w1 := [(xo_6_ririii h bs (nI z) td fpn_4 fn_4 kn_4), (xI bs cI 120 fb), (xo_3_iiiiiiiirrrrr td tv0n_2 tv1n_2 tv2n_2 1 (nI 0) 0 (nI tn_3) (nI tn_4) tb1 tb2 tb3 tb4 tb5), (xI tb1 cI 6 tg1n_3), (xI tb2 cI 6 tg2n_4), (xI tb3 cI 6 tg3n_4), (xI tb4 cI 6 tg4n_4), (xI tb5 cI 6 tg5n_4)]) hP hD [0, 1, 2, 3, 4, 5, 6, 7] [] rfl rfl (by decide +kernel) (by decide +kernel) hk1 hc_4.2.2 hP1 hD1
  generalize H1 = H at hP hS ⊢
  have hP : va_P (dC, dI) vwCl [(xo_6_ririii h bs (nI z) td fpn_4 fn_4 kn_4), (xI bs cI 120 fb), (xo_3_iiiiiiiirrrrr td tv0n_2 tv1n_2 tv2n_2 1 (nI 0) 0 (nI tn_3) (nI tn_4) tb1 tb2 tb3 tb4 tb5), (xI tb1 cI 6 tg1n_3), (xI tb2 cI 6 tg2n_4), (xI tb3 cI 6 tg3n_4), (xI tb4 cI 6 tg4n_4), (xI tb5 cI 6 tg5n_4)] H := hP
  have hD := dto hP hD
  refine lv_aload_n hx hb dX6_read_34 rfl (lv_at hl 0 rfl) ?_
  refine lv_iconst (v := 0) hx hb dX6_read_35 (by decide) ?_
  refine va_put (D := (dC, dI)) (ci := 6) (v := .int 0) (ty := .int) (C := RX6) (T := TX6) (N := 6) hx hb hts i_X6_read_X6 tyX6 tyX6_ok nmX6 hown hK hP hD hS 0 rfl rfl 1 (by decide) (hts _ mx_X6_read_5) (fun _ h9 => h9) rfl (by decide +kernel) rfl rfl (Nat.le_of_ble_eq_true rfl) dX6_read_36 (fun H locs hP hD hS => ?_)
  have hP : va_P (dC, dI) vwCl [(xo_6_ririii h bs 0 td fpn_4 fn_4 kn_4), (xI bs cI 120 fb), (xo_3_iiiiiiiirrrrr td tv0n_2 tv1n_2 tv2n_2 1 (nI 0) 0 (nI tn_3) (nI tn_4) tb1 tb2 tb3 tb4 tb5), (xI tb1 cI 6 tg1n_3), (xI tb2 cI 6 tg2n_4), (xI tb3 cI 6 tg3n_4), (xI tb4 cI 6 tg4n_4), (xI tb5 cI 6 tg5n_4)] H := hP
  have hD := dto hP hD
  refine lv_aload_n hx hb dX6_read_39 rfl (lv_at hl 0 rfl) ?_
  refine va_get (D := (dC, dI)) (ci := 6) (v := .int fn_4) (C := RX6) (T := TX6) (N := 6) hx hb hts i_X6_read_X6 hown hK hP 0 rfl rfl 4 (by decide) (hts _ mx_X6_read_1) (fun _ h9 => h9) rfl dX6_read_40 ?_
  have hX9 := cut2 (wc := [(xo_6_ririii h bs 0 td fpn_4 fn_4 kn_4), (xI bs cI 120 fb), (xo_3_iiiiiiiirrrrr td tv0n_2 tv1n_2 tv2n_2 1 (nI 0) 0 (nI tn_3) (nI tn_4) tb1 tb2 tb3 tb4 tb5), (xI tb1 cI 6 tg1n_3), (xI tb2 cI 6 tg2n_4), (xI tb3 cI 6 tg3n_4), (xI tb4 cI 6 tg4n_4), (xI tb5 cI 6 tg5n_4)]) hP hD [0, 1, 2, 3, 4, 5, 6, 7] (by decide +kernel) rfl
  exact W.iret (v := fn_4) hx hb hr (fun t ht hW => ⟨⟨fn_4, (), rfl, (lf_X6_read_8 thb hz htww htkk hF_2_0 hF_2_1 hF_2_2 hF_2_3 hF_3_0 hF_3_1 hF_4_0 hF_4_1), ⟨fpn_4, fn_4, kn_4, tv0n_2, tv1n_2, tv2n_2, tn_3, tn_4, tg1n_3, tg2n_4, tg3n_4, tg4n_4, tg5n_4, va_Ht ht hX9.1, hX9.2, (lf_X6_read_1 thb hz htww htkk hF_2_0 hF_2_1 hF_2_2 hF_2_3 hF_3_0 hF_3_1 hF_4_0 hF_4_1), (lf_X6_read_2 thb hz htww htkk hF_2_0 hF_2_1 hF_2_2 hF_2_3 hF_3_0 hF_3_1 hF_4_0 hF_4_1), (lf_X6_read_3 thb hz htww htkk hF_2_0 hF_2_1 hF_2_2 hF_2_3 hF_3_0 hF_3_1 hF_4_0 hF_4_1), (lf_X6_read_4 thb hz htww htkk hF_2_0 hF_2_1 hF_2_2 hF_2_3 hF_3_0 hF_3_1 hF_4_0 hF_4_1), (lf_X6_read_5 thb hz htww htkk hF_2_0 hF_2_1 hF_2_2 hF_2_3 hF_3_0 hF_3_1 hF_4_0 hF_4_1), (lf_X6_read_6 thb hz htww htkk hF_2_0 hF_2_1 hF_2_2 hF_2_3 hF_3_0 hF_3_1 hF_4_0 hF_4_1), (lf_X6_read_7 thb hz htww htkk hF_2_0 hF_2_1 hF_2_2 hF_2_3 hF_3_0 hF_3_1 hF_4_0 hF_4_1)⟩⟩, hS.F ht⟩) hS.2.2 dX6_read_43
-- 18.cap_d
/-! caps searched -/
noncomputable def bcX (br hrs n : Int32) : Int32 := (br >>> ((hrs - 1 - n) &&& 31)) &&& 1
noncomputable def woX (wa m th : Int32) : Int32 := if wa = -1 then m else if wa &&& (th ^^^ (-1)) = 0 then 1 else 0
/-- the best worth, its turns, its row -/
noncomputable abbrev B3 := Int32 × Int32 × Int32
noncomputable def jdX (v x y : Int32) (b : B3) : B3 := if b.1 < v ∨ (v = b.1 ∧ y < b.2.1) then (v, y, x) else b
noncomputable def tnX (c k : Int32) : Int32 := if c = k then 0 else 1
noncomputable def thS (r : RF) (n : Int32) : Int32 := thR (fun s => r (26 + s)) n (r 4).toNatClampNeg
noncomputable def woB (wa : Int32) (r : RF) : Int32 := woX wa (r 7) (thS r 1)
noncomputable def trB (wa : Int32) : Nat → RF → Int32 → Int32 → B3 → B3
  | 0, r, x, y, b => jdX (woB wa r) x y b
  | n + 1, r, x, y, b => trB wa n (mH (upd r 6 1)) ((x <<< ((1 : Int32) &&& 31)) ||| 1) (y + tnX (r 6) 1) (trB wa n (mH (upd r 6 0)) ((x <<< ((1 : Int32) &&& 31)) ||| 0) (y + tnX (r 6) 0) b)
theorem thR_c {h g : RF} {m : Int32} : ∀ n : Nat, (∀ i : Nat, i < n → h i = g i) → thR h m n = thR g m n
  | 0, _ => rfl
  | n + 1, e => by
    show thR h m n ||| (if h n = m then (1 : Int32) <<< (nI n &&& 31) else 0) = thR g m n ||| (if g n = m then (1 : Int32) <<< (nI n &&& 31) else 0)
    rw [thR_c n (fun i hi => e i (by omega)), e n (by omega)]
theorem th_nrm {v0 v1 v2 v3 v5 : Int32} {hh ww kk : Nat} {g1 g2 g3 g4 g5 : RF} {n : Int32} (hk : kk ≤ 6) : thS (nrm v0 v1 v2 v3 hh v5 ww kk g1 g2 g3 g4 g5) n = thR g5 n kk := by
  unfold thS
  rw [nr4, nI_clamp (by omega)]
  exact thR_c kk (fun i hi => nrg5 hi hk)
theorem nrV6 {v : Nat → Int32} {g : Nat → RF} : nrV v g 6 = v 3 := rfl
theorem woB_V {wa : Int32} {v : Nat → Int32} {g : Nat → RF} {kk : Nat} (e7 : v 7 = nI kk) (hk : kk ≤ 6) : woB wa (nrV v g) = woX wa (v 5) (thR (g 4) 1 kk) := by
  unfold woB nrV
  rw [e7, nI_clamp (by omega), th_nrm hk]
  rfl
/-- a level that is told, in its bounds -/
noncomputable def okN (H : Nat) (r : RF) : Prop := ∃ (v0 v1 v2 v3 : Int32) (hh : Nat) (v5 : Int32) (ww kk : Nat) (g1 g2 g3 g4 g5 : RF), r = nrm v0 v1 v2 v3 hh v5 ww kk g1 g2 g3 g4 g5 ∧ hh ≤ H ∧ ww ≤ 6 ∧ kk ≤ 6 ∧ okRow H r
/-- the level with another cap, an hour later -/
theorem cap_nx {v V0 : Nat → Int32} {g G0 : Nat → RF} {hh ww kk dp : Nat} {k v5n : Int32} {f1 f2 f3 f4 f5 g3n g4n g5n : RF} (hv : v = V0) (hg : g = G0) (hN : okN (999 + dp) (nrV V0 G0)) (e4 : V0 4 = nI hh) (e6 : V0 6 = nI ww) (e7 : V0 7 = nI kk) (hhb : hh ≤ 999 + dp) (hw : ww ≤ 6) (hk : kk ≤ 6) (hd : dp ≤ 8) (hc : k = 0 ∨ k = 1) (c1 : ∀ j : Nat, j < 6 → f1 j = g 0 j) (c2 : ∀ j : Nat, j < 6 → f2 j = g 1 j) (c3 : ∀ j : Nat, j < 6 → f3 j = g 2 j) (c4 : ∀ j : Nat, j < 6 → f4 j = g 3 j) (c5 : ∀ j : Nat, j < 6 → f5 j = g 4 j) (e : paX (v 0) (v 1) (v 2) k f2 (wdX f1 ww hh 0) kk (v 5, f3, f4, f5) = (v5n, g3n, g4n, g5n)) :
    nrV (fun i => [v 0, v 1, v 2, k, nI (hh + 1), v5n, nI ww, nI kk].getD i 0) (fun i => [f1, f2, g3n, g4n, g5n].getD i (fun _ => 0)) = mH (upd (nrV V0 G0) 6 k) ∧ okN (999 + (dp + 1)) (nrV (fun i => [v 0, v 1, v 2, k, nI (hh + 1), v5n, nI ww, nI kk].getD i 0) (fun i => [f1, f2, g3n, g4n, g5n].getD i (fun _ => 0))) := by
  subst hv hg
  have r1 := nrV_out (v := v) (g := g) e4 (by omega) e6 (by omega) e7 (by omega)
  have r2 : nrm (v 0) (v 1) (v 2) (v 3) hh (v 5) ww kk f1 f2 f3 f4 f5 = nrV v g := (nr_eq hw hk c1 c2 c3 c4 c5).trans r1.symm
  obtain ⟨_, _, _, _, _, _, _, _, _, _, _, _, _, -, -, -, -, hr⟩ := hN
  rw [← r2] at hr
  obtain ⟨c, m, re, ca, me, ⟨E0, E1, E2, E3, E4⟩, ⟨B1, B2, B3, B4, B5, B6, B7, B8, B9⟩, W, S⟩ := okRow_X hr hw hk (by omega)
  have hr2 : okRow (999 + dp) (nrm (v 0) (v 1) (v 2) k hh (v 5) ww kk f1 f2 f3 f4 f5) := by
    rcases hc with rfl | rfl
    · exact okRow_of (ca := 0) ⟨E0, E1, E2, rfl, E4⟩ ⟨B1, B2, B3, B4, B5, B6, B7, by decide, B9⟩ hw hk W S
    · exact okRow_of (ca := 1) ⟨E0, E1, E2, rfl, E4⟩ ⟨B1, B2, B3, B4, B5, B6, B7, by decide, B9⟩ hw hk W S
  obtain ⟨p1, p2⟩ := pass_row hk hw (by omega) hr2 e
  have q : nrV (fun i => [v 0, v 1, v 2, k, nI (hh + 1), v5n, nI ww, nI kk].getD i 0) (fun i => [f1, f2, g3n, g4n, g5n].getD i (fun _ => 0)) = nrm (v 0) (v 1) (v 2) k (hh + 1) v5n ww kk f1 f2 g3n g4n g5n := nrV_lev (by omega) hw hk (fun _ _ => rfl) (fun _ _ => rfl) (fun _ _ => rfl) (fun _ _ => rfl) (fun _ _ => rfl)
  rw [q, ← r2, nru6]
  exact ⟨p1, ⟨_, _, _, _, _, _, _, _, _, _, _, _, _, rfl, by omega, hw, hk, p2⟩⟩
theorem dX2_bestCap_0 : decode cX2_bestCap 0 = .ok (.aload_n 0, 1) := dq_42 (by decide +kernel)
theorem dX2_bestCap_1 : decode cX2_bestCap 1 = .ok (.getfield 25, 3) := dq_180 (b1 := 0) (b2 := 25) (by decide +kernel) (by decide)
theorem dX2_bestCap_10 : decode cX2_bestCap 10 = .ok (.iload_n 1, 1) := dq_27 (by decide +kernel)
theorem dX2_bestCap_11 : decode cX2_bestCap 11 = .ok (.isub, 1) := dq_100 (by decide +kernel)
theorem dX2_bestCap_12 : decode cX2_bestCap 12 = .ok (.ishr, 1) := dq_122 (by decide +kernel)
theorem dX2_bestCap_13 : decode cX2_bestCap 13 = .ok (.iconst 1, 1) := dq_4 (by decide +kernel)
theorem dX2_bestCap_14 : decode cX2_bestCap 14 = .ok (.iand, 1) := dq_126 (by decide +kernel)
theorem dX2_bestCap_15 : decode cX2_bestCap 15 = .ok (.ireturn, 1) := dq_172 (by decide +kernel)
theorem dX2_bestCap_4 : decode cX2_bestCap 4 = .ok (.aload_n 0, 1) := dq_42 (by decide +kernel)
theorem dX2_bestCap_5 : decode cX2_bestCap 5 = .ok (.getfield 18, 3) := dq_180 (b1 := 0) (b2 := 18) (by decide +kernel) (by decide)
theorem dX2_bestCap_8 : decode cX2_bestCap 8 = .ok (.iconst 1, 1) := dq_4 (by decide +kernel)
theorem dX2_bestCap_9 : decode cX2_bestCap 9 = .ok (.isub, 1) := dq_100 (by decide +kernel)
theorem dX2_isLength_0 : decode cX2_isLength 0 = .ok (.iload_n 0, 1) := dq_26 (by decide +kernel)
theorem dX2_isLength_1 : decode cX2_isLength 1 = .ok (.iconst 1, 1) := dq_4 (by decide +kernel)
theorem dX2_isLength_11 : decode cX2_isLength 11 = .ok (.iconst 1, 1) := dq_4 (by decide +kernel)
theorem dX2_isLength_12 : decode cX2_isLength 12 = .ok (.goto 4, 3) := dq_167 (b1 := 0) (b2 := 4) (by decide +kernel) (by decide)
theorem dX2_isLength_15 : decode cX2_isLength 15 = .ok (.iconst 0, 1) := dq_3 (by decide +kernel)
theorem dX2_isLength_16 : decode cX2_isLength 16 = .ok (.ireturn, 1) := dq_172 (by decide +kernel)
theorem dX2_isLength_2 : decode cX2_isLength 2 = .ok (.if_icmp .lt 13, 3) := dq_161 (b1 := 0) (b2 := 13) (by decide +kernel) (by decide)
theorem dX2_isLength_5 : decode cX2_isLength 5 = .ok (.iload_n 0, 1) := dq_26 (by decide +kernel)
theorem dX2_isLength_6 : decode cX2_isLength 6 = .ok (.bipush 8, 2) := dq_16 (b1 := 8) (by decide +kernel) (by decide)
theorem dX2_isLength_8 : decode cX2_isLength 8 = .ok (.if_icmp .gt 7, 3) := dq_163 (b1 := 0) (b2 := 7) (by decide +kernel) (by decide)
theorem dX2_judge_0 : decode cX2_judge 0 = .ok (.aload_n 0, 1) := dq_42 (by decide +kernel)
theorem dX2_judge_1 : decode cX2_judge 1 = .ok (.aload_n 1, 1) := dq_43 (by decide +kernel)
theorem dX2_judge_10 : decode cX2_judge 10 = .ok (.getfield 28, 3) := dq_180 (b1 := 0) (b2 := 28) (by decide +kernel) (by decide)
theorem dX2_judge_13 : decode cX2_judge 13 = .ok (.if_icmp .gt 20, 3) := dq_163 (b1 := 0) (b2 := 20) (by decide +kernel) (by decide)
theorem dX2_judge_16 : decode cX2_judge 16 = .ok (.iload 4, 2) := dq_21 (b1 := 4) (by decide +kernel) (by decide)
theorem dX2_judge_18 : decode cX2_judge 18 = .ok (.aload_n 0, 1) := dq_42 (by decide +kernel)
theorem dX2_judge_19 : decode cX2_judge 19 = .ok (.getfield 28, 3) := dq_180 (b1 := 0) (b2 := 28) (by decide +kernel) (by decide)
theorem dX2_judge_2 : decode cX2_judge 2 = .ok (.invokevirtual 52, 3) := dq_182 (b1 := 0) (b2 := 52) (by decide +kernel) (by decide)
theorem dX2_judge_22 : decode cX2_judge 22 = .ok (.if_icmp .ne 27, 3) := dq_160 (b1 := 0) (b2 := 27) (by decide +kernel) (by decide)
theorem dX2_judge_25 : decode cX2_judge 25 = .ok (.iload_n 3, 1) := dq_29 (by decide +kernel)
theorem dX2_judge_26 : decode cX2_judge 26 = .ok (.aload_n 0, 1) := dq_42 (by decide +kernel)
theorem dX2_judge_27 : decode cX2_judge 27 = .ok (.getfield 31, 3) := dq_180 (b1 := 0) (b2 := 31) (by decide +kernel) (by decide)
theorem dX2_judge_30 : decode cX2_judge 30 = .ok (.if_icmp .ge 19, 3) := dq_162 (b1 := 0) (b2 := 19) (by decide +kernel) (by decide)
theorem dX2_judge_33 : decode cX2_judge 33 = .ok (.aload_n 0, 1) := dq_42 (by decide +kernel)
theorem dX2_judge_34 : decode cX2_judge 34 = .ok (.iload 4, 2) := dq_21 (b1 := 4) (by decide +kernel) (by decide)
theorem dX2_judge_36 : decode cX2_judge 36 = .ok (.putfield 28, 3) := dq_181 (b1 := 0) (b2 := 28) (by decide +kernel) (by decide)
theorem dX2_judge_39 : decode cX2_judge 39 = .ok (.aload_n 0, 1) := dq_42 (by decide +kernel)
theorem dX2_judge_40 : decode cX2_judge 40 = .ok (.iload_n 3, 1) := dq_29 (by decide +kernel)
theorem dX2_judge_41 : decode cX2_judge 41 = .ok (.putfield 31, 3) := dq_181 (b1 := 0) (b2 := 31) (by decide +kernel) (by decide)
theorem dX2_judge_44 : decode cX2_judge 44 = .ok (.aload_n 0, 1) := dq_42 (by decide +kernel)
theorem dX2_judge_45 : decode cX2_judge 45 = .ok (.iload_n 2, 1) := dq_28 (by decide +kernel)
theorem dX2_judge_46 : decode cX2_judge 46 = .ok (.putfield 25, 3) := dq_181 (b1 := 0) (b2 := 25) (by decide +kernel) (by decide)
theorem dX2_judge_49 : decode cX2_judge 49 = .ok (.return_, 1) := dq_177 (by decide +kernel)
theorem dX2_judge_5 : decode cX2_judge 5 = .ok (.istore 4, 2) := dq_54 (b1 := 4) (by decide +kernel) (by decide)
theorem dX2_judge_7 : decode cX2_judge 7 = .ok (.iload 4, 2) := dq_21 (b1 := 4) (by decide +kernel) (by decide)
theorem dX2_judge_9 : decode cX2_judge 9 = .ok (.aload_n 0, 1) := dq_42 (by decide +kernel)
theorem dX2_search_0 : decode cX2_search 0 = .ok (.aload_n 0, 1) := dq_42 (by decide +kernel)
theorem dX2_search_1 : decode cX2_search 1 = .ok (.iload_n 2, 1) := dq_28 (by decide +kernel)
theorem dX2_search_10 : decode cX2_search 10 = .ok (.aload_n 0, 1) := dq_42 (by decide +kernel)
theorem dX2_search_11 : decode cX2_search 11 = .ok (.iconst 0, 1) := dq_3 (by decide +kernel)
theorem dX2_search_12 : decode cX2_search 12 = .ok (.putfield 25, 3) := dq_181 (b1 := 0) (b2 := 25) (by decide +kernel) (by decide)
theorem dX2_search_15 : decode cX2_search 15 = .ok (.aload_n 0, 1) := dq_42 (by decide +kernel)
theorem dX2_search_16 : decode cX2_search 16 = .ok (.iconst (-1), 1) := dq_2 (by decide +kernel)
theorem dX2_search_17 : decode cX2_search 17 = .ok (.putfield 28, 3) := dq_181 (b1 := 0) (b2 := 28) (by decide +kernel) (by decide)
theorem dX2_search_2 : decode cX2_search 2 = .ok (.putfield 18, 3) := dq_181 (b1 := 0) (b2 := 18) (by decide +kernel) (by decide)
theorem dX2_search_20 : decode cX2_search 20 = .ok (.aload_n 0, 1) := dq_42 (by decide +kernel)
theorem dX2_search_21 : decode cX2_search 21 = .ok (.iconst 0, 1) := dq_3 (by decide +kernel)
theorem dX2_search_22 : decode cX2_search 22 = .ok (.putfield 31, 3) := dq_181 (b1 := 0) (b2 := 31) (by decide +kernel) (by decide)
theorem dX2_search_25 : decode cX2_search 25 = .ok (.aload_n 0, 1) := dq_42 (by decide +kernel)
theorem dX2_search_26 : decode cX2_search 26 = .ok (.getfield 13, 3) := dq_180 (b1 := 0) (b2 := 13) (by decide +kernel) (by decide)
theorem dX2_search_29 : decode cX2_search 29 = .ok (.iconst 0, 1) := dq_3 (by decide +kernel)
theorem dX2_search_30 : decode cX2_search 30 = .ok (.aaload, 1) := dq_50 (by decide +kernel)
theorem dX2_search_31 : decode cX2_search 31 = .ok (.aload_n 1, 1) := dq_43 (by decide +kernel)
theorem dX2_search_32 : decode cX2_search 32 = .ok (.invokevirtual 34, 3) := dq_182 (b1 := 0) (b2 := 34) (by decide +kernel) (by decide)
theorem dX2_search_35 : decode cX2_search 35 = .ok (.aload_n 0, 1) := dq_42 (by decide +kernel)
theorem dX2_search_36 : decode cX2_search 36 = .ok (.iconst 0, 1) := dq_3 (by decide +kernel)
theorem dX2_search_37 : decode cX2_search 37 = .ok (.iconst 0, 1) := dq_3 (by decide +kernel)
theorem dX2_search_38 : decode cX2_search 38 = .ok (.iconst 0, 1) := dq_3 (by decide +kernel)
theorem dX2_search_39 : decode cX2_search 39 = .ok (.invokevirtual 38, 3) := dq_182 (b1 := 0) (b2 := 38) (by decide +kernel) (by decide)
theorem dX2_search_42 : decode cX2_search 42 = .ok (.return_, 1) := dq_177 (by decide +kernel)
theorem dX2_search_5 : decode cX2_search 5 = .ok (.aload_n 0, 1) := dq_42 (by decide +kernel)
theorem dX2_search_6 : decode cX2_search 6 = .ok (.iload_n 3, 1) := dq_29 (by decide +kernel)
theorem dX2_search_7 : decode cX2_search 7 = .ok (.putfield 22, 3) := dq_181 (b1 := 0) (b2 := 22) (by decide +kernel) (by decide)
theorem dX2_tryRows_0 : decode cX2_tryRows 0 = .ok (.iload_n 1, 1) := dq_27 (by decide +kernel)
theorem dX2_tryRows_1 : decode cX2_tryRows 1 = .ok (.aload_n 0, 1) := dq_42 (by decide +kernel)
theorem dX2_tryRows_100 : decode cX2_tryRows 100 = .ok (.invokevirtual 38, 3) := dq_182 (b1 := 0) (b2 := 38) (by decide +kernel) (by decide)
theorem dX2_tryRows_103 : decode cX2_tryRows 103 = .ok (.iinc 4 1, 3) := dq_132 (b1 := 4) (b2 := 1) (by decide +kernel) (by decide) (by decide)
theorem dX2_tryRows_106 : decode cX2_tryRows 106 = .ok (.goto (-76), 3) := dq_167 (b1 := 255) (b2 := 180) (by decide +kernel) (by decide)
theorem dX2_tryRows_109 : decode cX2_tryRows 109 = .ok (.return_, 1) := dq_177 (by decide +kernel)
theorem dX2_tryRows_11 : decode cX2_tryRows 11 = .ok (.if_icmp .lt 16, 3) := dq_161 (b1 := 0) (b2 := 16) (by decide +kernel) (by decide)
theorem dX2_tryRows_14 : decode cX2_tryRows 14 = .ok (.aload_n 0, 1) := dq_42 (by decide +kernel)
theorem dX2_tryRows_15 : decode cX2_tryRows 15 = .ok (.aload_n 0, 1) := dq_42 (by decide +kernel)
theorem dX2_tryRows_16 : decode cX2_tryRows 16 = .ok (.getfield 13, 3) := dq_180 (b1 := 0) (b2 := 13) (by decide +kernel) (by decide)
theorem dX2_tryRows_19 : decode cX2_tryRows 19 = .ok (.iload_n 1, 1) := dq_27 (by decide +kernel)
theorem dX2_tryRows_2 : decode cX2_tryRows 2 = .ok (.getfield 18, 3) := dq_180 (b1 := 0) (b2 := 18) (by decide +kernel) (by decide)
theorem dX2_tryRows_20 : decode cX2_tryRows 20 = .ok (.aaload, 1) := dq_50 (by decide +kernel)
theorem dX2_tryRows_21 : decode cX2_tryRows 21 = .ok (.iload_n 2, 1) := dq_28 (by decide +kernel)
theorem dX2_tryRows_22 : decode cX2_tryRows 22 = .ok (.iload_n 3, 1) := dq_29 (by decide +kernel)
theorem dX2_tryRows_23 : decode cX2_tryRows 23 = .ok (.invokevirtual 42, 3) := dq_182 (b1 := 0) (b2 := 42) (by decide +kernel) (by decide)
theorem dX2_tryRows_26 : decode cX2_tryRows 26 = .ok (.return_, 1) := dq_177 (by decide +kernel)
theorem dX2_tryRows_27 : decode cX2_tryRows 27 = .ok (.iconst 0, 1) := dq_3 (by decide +kernel)
theorem dX2_tryRows_28 : decode cX2_tryRows 28 = .ok (.istore 4, 2) := dq_54 (b1 := 4) (by decide +kernel) (by decide)
theorem dX2_tryRows_30 : decode cX2_tryRows 30 = .ok (.iload 4, 2) := dq_21 (b1 := 4) (by decide +kernel) (by decide)
theorem dX2_tryRows_32 : decode cX2_tryRows 32 = .ok (.iconst 1, 1) := dq_4 (by decide +kernel)
theorem dX2_tryRows_33 : decode cX2_tryRows 33 = .ok (.if_icmp .gt 76, 3) := dq_163 (b1 := 0) (b2 := 76) (by decide +kernel) (by decide)
theorem dX2_tryRows_36 : decode cX2_tryRows 36 = .ok (.aload_n 0, 1) := dq_42 (by decide +kernel)
theorem dX2_tryRows_37 : decode cX2_tryRows 37 = .ok (.getfield 13, 3) := dq_180 (b1 := 0) (b2 := 13) (by decide +kernel) (by decide)
theorem dX2_tryRows_40 : decode cX2_tryRows 40 = .ok (.iload_n 1, 1) := dq_27 (by decide +kernel)
theorem dX2_tryRows_41 : decode cX2_tryRows 41 = .ok (.iconst 1, 1) := dq_4 (by decide +kernel)
theorem dX2_tryRows_42 : decode cX2_tryRows 42 = .ok (.iadd, 1) := dq_96 (by decide +kernel)
theorem dX2_tryRows_43 : decode cX2_tryRows 43 = .ok (.aaload, 1) := dq_50 (by decide +kernel)
theorem dX2_tryRows_44 : decode cX2_tryRows 44 = .ok (.astore 5, 2) := dq_58 (b1 := 5) (by decide +kernel) (by decide)
theorem dX2_tryRows_46 : decode cX2_tryRows 46 = .ok (.aload 5, 2) := dq_25 (b1 := 5) (by decide +kernel) (by decide)
theorem dX2_tryRows_48 : decode cX2_tryRows 48 = .ok (.aload_n 0, 1) := dq_42 (by decide +kernel)
theorem dX2_tryRows_49 : decode cX2_tryRows 49 = .ok (.getfield 13, 3) := dq_180 (b1 := 0) (b2 := 13) (by decide +kernel) (by decide)
theorem dX2_tryRows_5 : decode cX2_tryRows 5 = .ok (.if_icmp .ge 9, 3) := dq_162 (b1 := 0) (b2 := 9) (by decide +kernel) (by decide)
theorem dX2_tryRows_52 : decode cX2_tryRows 52 = .ok (.iload_n 1, 1) := dq_27 (by decide +kernel)
theorem dX2_tryRows_53 : decode cX2_tryRows 53 = .ok (.aaload, 1) := dq_50 (by decide +kernel)
theorem dX2_tryRows_54 : decode cX2_tryRows 54 = .ok (.invokevirtual 34, 3) := dq_182 (b1 := 0) (b2 := 34) (by decide +kernel) (by decide)
theorem dX2_tryRows_57 : decode cX2_tryRows 57 = .ok (.aload 5, 2) := dq_25 (b1 := 5) (by decide +kernel) (by decide)
theorem dX2_tryRows_59 : decode cX2_tryRows 59 = .ok (.getfield 46, 3) := dq_180 (b1 := 0) (b2 := 46) (by decide +kernel) (by decide)
theorem dX2_tryRows_62 : decode cX2_tryRows 62 = .ok (.iload 4, 2) := dq_21 (b1 := 4) (by decide +kernel) (by decide)
theorem dX2_tryRows_64 : decode cX2_tryRows 64 = .ok (.if_icmp .ne 7, 3) := dq_160 (b1 := 0) (b2 := 7) (by decide +kernel) (by decide)
theorem dX2_tryRows_67 : decode cX2_tryRows 67 = .ok (.iconst 0, 1) := dq_3 (by decide +kernel)
theorem dX2_tryRows_68 : decode cX2_tryRows 68 = .ok (.goto 4, 3) := dq_167 (b1 := 0) (b2 := 4) (by decide +kernel) (by decide)
theorem dX2_tryRows_71 : decode cX2_tryRows 71 = .ok (.iconst 1, 1) := dq_4 (by decide +kernel)
theorem dX2_tryRows_72 : decode cX2_tryRows 72 = .ok (.istore 6, 2) := dq_54 (b1 := 6) (by decide +kernel) (by decide)
theorem dX2_tryRows_74 : decode cX2_tryRows 74 = .ok (.aload 5, 2) := dq_25 (b1 := 5) (by decide +kernel) (by decide)
theorem dX2_tryRows_76 : decode cX2_tryRows 76 = .ok (.iload 4, 2) := dq_21 (b1 := 4) (by decide +kernel) (by decide)
theorem dX2_tryRows_78 : decode cX2_tryRows 78 = .ok (.putfield 46, 3) := dq_181 (b1 := 0) (b2 := 46) (by decide +kernel) (by decide)
theorem dX2_tryRows_8 : decode cX2_tryRows 8 = .ok (.iload_n 1, 1) := dq_27 (by decide +kernel)
theorem dX2_tryRows_81 : decode cX2_tryRows 81 = .ok (.aload 5, 2) := dq_25 (b1 := 5) (by decide +kernel) (by decide)
theorem dX2_tryRows_83 : decode cX2_tryRows 83 = .ok (.invokevirtual 49, 3) := dq_182 (b1 := 0) (b2 := 49) (by decide +kernel) (by decide)
theorem dX2_tryRows_86 : decode cX2_tryRows 86 = .ok (.aload_n 0, 1) := dq_42 (by decide +kernel)
theorem dX2_tryRows_87 : decode cX2_tryRows 87 = .ok (.iload_n 1, 1) := dq_27 (by decide +kernel)
theorem dX2_tryRows_88 : decode cX2_tryRows 88 = .ok (.iconst 1, 1) := dq_4 (by decide +kernel)
theorem dX2_tryRows_89 : decode cX2_tryRows 89 = .ok (.iadd, 1) := dq_96 (by decide +kernel)
theorem dX2_tryRows_9 : decode cX2_tryRows 9 = .ok (.bipush 8, 2) := dq_16 (b1 := 8) (by decide +kernel) (by decide)
theorem dX2_tryRows_90 : decode cX2_tryRows 90 = .ok (.iload_n 2, 1) := dq_28 (by decide +kernel)
theorem dX2_tryRows_91 : decode cX2_tryRows 91 = .ok (.iconst 1, 1) := dq_4 (by decide +kernel)
theorem dX2_tryRows_92 : decode cX2_tryRows 92 = .ok (.ishl, 1) := dq_120 (by decide +kernel)
theorem dX2_tryRows_93 : decode cX2_tryRows 93 = .ok (.iload 4, 2) := dq_21 (b1 := 4) (by decide +kernel) (by decide)
theorem dX2_tryRows_95 : decode cX2_tryRows 95 = .ok (.ior, 1) := dq_128 (by decide +kernel)
theorem dX2_tryRows_96 : decode cX2_tryRows 96 = .ok (.iload_n 3, 1) := dq_29 (by decide +kernel)
theorem dX2_tryRows_97 : decode cX2_tryRows 97 = .ok (.iload 6, 2) := dq_21 (b1 := 6) (by decide +kernel) (by decide)
theorem dX2_tryRows_99 : decode cX2_tryRows 99 = .ok (.iadd, 1) := dq_96 (by decide +kernel)
theorem dX2_worthOf_0 : decode cX2_worthOf 0 = .ok (.aload_n 0, 1) := dq_42 (by decide +kernel)
theorem dX2_worthOf_1 : decode cX2_worthOf 1 = .ok (.getfield 22, 3) := dq_180 (b1 := 0) (b2 := 22) (by decide +kernel) (by decide)
theorem dX2_worthOf_12 : decode cX2_worthOf 12 = .ok (.ireturn, 1) := dq_172 (by decide +kernel)
theorem dX2_worthOf_13 : decode cX2_worthOf 13 = .ok (.aload_n 0, 1) := dq_42 (by decide +kernel)
theorem dX2_worthOf_14 : decode cX2_worthOf 14 = .ok (.getfield 22, 3) := dq_180 (b1 := 0) (b2 := 22) (by decide +kernel) (by decide)
theorem dX2_worthOf_17 : decode cX2_worthOf 17 = .ok (.aload_n 1, 1) := dq_43 (by decide +kernel)
theorem dX2_worthOf_18 : decode cX2_worthOf 18 = .ok (.iconst 1, 1) := dq_4 (by decide +kernel)
theorem dX2_worthOf_19 : decode cX2_worthOf 19 = .ok (.invokevirtual 59, 3) := dq_182 (b1 := 0) (b2 := 59) (by decide +kernel) (by decide)
theorem dX2_worthOf_22 : decode cX2_worthOf 22 = .ok (.iconst (-1), 1) := dq_2 (by decide +kernel)
theorem dX2_worthOf_23 : decode cX2_worthOf 23 = .ok (.ixor, 1) := dq_130 (by decide +kernel)
theorem dX2_worthOf_24 : decode cX2_worthOf 24 = .ok (.iand, 1) := dq_126 (by decide +kernel)
theorem dX2_worthOf_25 : decode cX2_worthOf 25 = .ok (.ifCond .ne 7, 3) := dq_154 (b1 := 0) (b2 := 7) (by decide +kernel) (by decide)
theorem dX2_worthOf_28 : decode cX2_worthOf 28 = .ok (.iconst 1, 1) := dq_4 (by decide +kernel)
theorem dX2_worthOf_29 : decode cX2_worthOf 29 = .ok (.goto 4, 3) := dq_167 (b1 := 0) (b2 := 4) (by decide +kernel) (by decide)
theorem dX2_worthOf_32 : decode cX2_worthOf 32 = .ok (.iconst 0, 1) := dq_3 (by decide +kernel)
theorem dX2_worthOf_33 : decode cX2_worthOf 33 = .ok (.ireturn, 1) := dq_172 (by decide +kernel)
theorem dX2_worthOf_4 : decode cX2_worthOf 4 = .ok (.iconst (-1), 1) := dq_2 (by decide +kernel)
theorem dX2_worthOf_5 : decode cX2_worthOf 5 = .ok (.if_icmp .ne 8, 3) := dq_160 (b1 := 0) (b2 := 8) (by decide +kernel) (by decide)
theorem dX2_worthOf_8 : decode cX2_worthOf 8 = .ok (.aload_n 1, 1) := dq_43 (by decide +kernel)
theorem dX2_worthOf_9 : decode cX2_worthOf 9 = .ok (.getfield 56, 3) := dq_180 (b1 := 0) (b2 := 56) (by decide +kernel) (by decide)
theorem mx_X2_judge_8 : Cond.code yX2_worthOf cX2_worthOf 2 (some .int) ∈ wsX2_judge := by unfold wsX2_judge; exact List.mem_cons_of_mem _ (List.mem_append_left _ (List.mem_append_left _ (List.mem_of_getElem? (i := 7) rfl)))
theorem mx_X2_judge_9 : Cond.fieldLink RX2 22 "MillTalk$CapSearch" "wanted" "I" ∈ wsX2_judge := by unfold wsX2_judge; exact List.mem_cons_of_mem _ (List.mem_append_left _ (List.mem_append_left _ (List.mem_of_getElem? (i := 8) rfl)))
theorem mx_X2_judge_10 : Cond.fieldLink RX2 56 "MillTalk$Level" "meal" "I" ∈ wsX2_judge := by unfold wsX2_judge; exact List.mem_cons_of_mem _ (List.mem_append_left _ (List.mem_append_left _ (List.mem_of_getElem? (i := 9) rfl)))
theorem mx_X2_judge_11 : Cond.methodLink RX2 59 yX3_soundsThatAre ∈ wsX2_judge := by unfold wsX2_judge; exact List.mem_cons_of_mem _ (List.mem_append_left _ (List.mem_append_left _ (List.mem_of_getElem? (i := 10) rfl)))
theorem mx_X2_judge_12 : Cond.instanceMethod yX3_soundsThatAre ∈ wsX2_judge := by unfold wsX2_judge; exact List.mem_cons_of_mem _ (List.mem_append_left _ (List.mem_append_left _ (List.mem_of_getElem? (i := 11) rfl)))
theorem mx_X2_judge_13 : Cond.selects RX3 yX3_soundsThatAre yX3_soundsThatAre ∈ wsX2_judge := by unfold wsX2_judge; exact List.mem_cons_of_mem _ (List.mem_append_left _ (List.mem_append_left _ (List.mem_of_getElem? (i := 12) rfl)))
theorem mx_X2_judge_14 : Cond.initialized RX3 ∈ wsX2_judge := by unfold wsX2_judge; exact List.mem_cons_of_mem _ (List.mem_append_left _ (List.mem_append_left _ (List.mem_of_getElem? (i := 13) rfl)))
theorem mx_X2_judge_15 : Cond.code yX3_soundsThatAre cX3_soundsThatAre 4 (some .int) ∈ wsX2_judge := by unfold wsX2_judge; exact List.mem_cons_of_mem _ (List.mem_append_left _ (List.mem_append_left _ (List.mem_of_getElem? (i := 14) rfl)))
theorem mx_X2_judge_16 : Cond.fieldLink RX3 49 "MillTalk$Level" "soundCount" "I" ∈ wsX2_judge := by unfold wsX2_judge; exact List.mem_cons_of_mem _ (List.mem_append_left _ (List.mem_append_left _ (List.mem_of_getElem? (i := 15) rfl)))
theorem mx_X2_judge_17 : Cond.fieldLink RX3 24 "MillTalk$Level" "hows" "[I" ∈ wsX2_judge := by unfold wsX2_judge; exact List.mem_cons_of_mem _ (List.mem_append_left _ (List.mem_append_left _ (List.mem_of_getElem? (i := 16) rfl)))
theorem mb_X2_judge_wsX20 {w : Cond} (h : w ∈ wsX20) : w ∈ wsX2_judge := by unfold wsX2_judge; exact List.mem_cons_of_mem _ (List.mem_append_left _ (List.mem_append_right _ (h)))
theorem mb_X2_judge_wsX30 {w : Cond} (h : w ∈ wsX30) : w ∈ wsX2_judge := by unfold wsX2_judge; exact List.mem_cons_of_mem _ (List.mem_append_right _ (h))
theorem ggX2_judge_X2_worthOf : GoodIn wsX2_judge wsX2_worthOf := goodIn_sub (by unfold wsX2_worthOf; exact List.forall_mem_cons.mpr ⟨mx_X2_judge_8, List.forall_mem_append.mpr ⟨List.forall_mem_append.mpr ⟨List.forall_mem_cons.mpr ⟨mx_X2_judge_9, List.forall_mem_cons.mpr ⟨mx_X2_judge_10, List.forall_mem_cons.mpr ⟨mx_X2_judge_11, List.forall_mem_cons.mpr ⟨mx_X2_judge_12, List.forall_mem_cons.mpr ⟨mx_X2_judge_13, List.forall_mem_cons.mpr ⟨mx_X2_judge_14, List.forall_mem_cons.mpr ⟨mx_X2_judge_15, List.forall_mem_cons.mpr ⟨mx_X2_judge_16, List.forall_mem_cons.mpr ⟨mx_X2_judge_17, fun _ h_ => absurd h_ List.not_mem_nil⟩⟩⟩⟩⟩⟩⟩⟩⟩, (fun _ h_ => mb_X2_judge_wsX20 h_)⟩, (fun _ h_ => mb_X2_judge_wsX30 h_)⟩⟩) (by decide +kernel)
theorem mx_X2_judge_4 : Cond.methodLink RX2 52 yX2_worthOf ∈ wsX2_judge := by unfold wsX2_judge; exact List.mem_cons_of_mem _ (List.mem_append_left _ (List.mem_append_left _ (List.mem_of_getElem? (i := 3) rfl)))
theorem mx_X2_judge_5 : Cond.instanceMethod yX2_worthOf ∈ wsX2_judge := by unfold wsX2_judge; exact List.mem_cons_of_mem _ (List.mem_append_left _ (List.mem_append_left _ (List.mem_of_getElem? (i := 4) rfl)))
theorem mx_X2_judge_6 : Cond.selects RX2 yX2_worthOf yX2_worthOf ∈ wsX2_judge := by unfold wsX2_judge; exact List.mem_cons_of_mem _ (List.mem_append_left _ (List.mem_append_left _ (List.mem_of_getElem? (i := 5) rfl)))
theorem mx_X2_judge_7 : Cond.initialized RX2 ∈ wsX2_judge := by unfold wsX2_judge; exact List.mem_cons_of_mem _ (List.mem_append_left _ (List.mem_append_left _ (List.mem_of_getElem? (i := 6) rfl)))
theorem gX2_judge_X2_worthOf : GoodIn wsX2_judge (wsV RX2 52 RX2 yX2_worthOf wsX2_worthOf) := goodIn_app (goodIn_sub (List.forall_mem_cons.mpr ⟨mx_X2_judge_4, List.forall_mem_cons.mpr ⟨mx_X2_judge_5, List.forall_mem_cons.mpr ⟨mx_X2_judge_6, List.forall_mem_cons.mpr ⟨mx_X2_judge_7, fun _ h_ => absurd h_ List.not_mem_nil⟩⟩⟩⟩) (by decide +kernel)) ggX2_judge_X2_worthOf
theorem mb_X2_search_wsX2_search_r2 {w : Cond} (h : w ∈ wsX2_search_r2) : w ∈ wsX2_search := by unfold wsX2_search; exact List.mem_cons_of_mem _ (List.mem_append_left _ (List.mem_append_left _ (List.mem_append_right _ (List.mem_append_left _ (h)))))
theorem mx_X2_search_33 : Cond.code yX2_tryRows cX2_tryRows 7 none ∈ wsX2_search := mb_X2_search_wsX2_search_r2 (List.mem_of_getElem? (i := 8) rfl)
theorem mb_X2_search_wsX2_search_r1 {w : Cond} (h : w ∈ wsX2_search_r1) : w ∈ wsX2_search := by unfold wsX2_search; exact List.mem_cons_of_mem _ (List.mem_append_left _ (List.mem_append_left _ (List.mem_append_left _ (h))))
theorem mx_X2_search_1 : Cond.fieldLink RX2 18 "MillTalk$CapSearch" "hours" "I" ∈ wsX2_search := mb_X2_search_wsX2_search_r1 (List.mem_of_getElem? (i := 0) rfl)
theorem mx_X2_search_6 : Cond.fieldLink RX2 13 "MillTalk$CapSearch" "behind" "[LMillTalk$Level;" ∈ wsX2_search := mb_X2_search_wsX2_search_r1 (List.mem_of_getElem? (i := 5) rfl)
theorem mx_X2_search_34 : Cond.fieldLink RX2 46 "MillTalk$Level" "cap" "I" ∈ wsX2_search := mb_X2_search_wsX2_search_r2 (List.mem_of_getElem? (i := 9) rfl)
theorem mx_X2_search_35 : Cond.methodLink RX2 42 yX2_judge ∈ wsX2_search := mb_X2_search_wsX2_search_r2 (List.mem_of_getElem? (i := 10) rfl)
theorem mx_X2_search_36 : Cond.instanceMethod yX2_judge ∈ wsX2_search := mb_X2_search_wsX2_search_r2 (List.mem_of_getElem? (i := 11) rfl)
theorem mx_X2_search_37 : Cond.selects RX2 yX2_judge yX2_judge ∈ wsX2_search := mb_X2_search_wsX2_search_r2 (List.mem_of_getElem? (i := 12) rfl)
theorem mx_X2_search_32 : Cond.initialized RX2 ∈ wsX2_search := mb_X2_search_wsX2_search_r2 (List.mem_of_getElem? (i := 7) rfl)
theorem mx_X2_search_38 : Cond.code yX2_judge cX2_judge 5 none ∈ wsX2_search := mb_X2_search_wsX2_search_r2 (List.mem_of_getElem? (i := 13) rfl)
theorem mx_X2_search_4 : Cond.fieldLink RX2 28 "MillTalk$CapSearch" "bestWorth" "I" ∈ wsX2_search := mb_X2_search_wsX2_search_r1 (List.mem_of_getElem? (i := 3) rfl)
theorem mx_X2_search_5 : Cond.fieldLink RX2 31 "MillTalk$CapSearch" "bestTurns" "I" ∈ wsX2_search := mb_X2_search_wsX2_search_r1 (List.mem_of_getElem? (i := 4) rfl)
theorem mx_X2_search_3 : Cond.fieldLink RX2 25 "MillTalk$CapSearch" "bestRow" "I" ∈ wsX2_search := mb_X2_search_wsX2_search_r1 (List.mem_of_getElem? (i := 2) rfl)
theorem mx_X2_search_39 : Cond.methodLink RX2 52 yX2_worthOf ∈ wsX2_search := mb_X2_search_wsX2_search_r2 (List.mem_of_getElem? (i := 14) rfl)
theorem mx_X2_search_40 : Cond.instanceMethod yX2_worthOf ∈ wsX2_search := mb_X2_search_wsX2_search_r2 (List.mem_of_getElem? (i := 15) rfl)
theorem mx_X2_search_41 : Cond.selects RX2 yX2_worthOf yX2_worthOf ∈ wsX2_search := mb_X2_search_wsX2_search_r2 (List.mem_of_getElem? (i := 16) rfl)
theorem mx_X2_search_42 : Cond.code yX2_worthOf cX2_worthOf 2 (some .int) ∈ wsX2_search := mb_X2_search_wsX2_search_r2 (List.mem_of_getElem? (i := 17) rfl)
theorem mx_X2_search_2 : Cond.fieldLink RX2 22 "MillTalk$CapSearch" "wanted" "I" ∈ wsX2_search := mb_X2_search_wsX2_search_r1 (List.mem_of_getElem? (i := 1) rfl)
theorem mx_X2_search_43 : Cond.fieldLink RX2 56 "MillTalk$Level" "meal" "I" ∈ wsX2_search := mb_X2_search_wsX2_search_r2 (List.mem_of_getElem? (i := 18) rfl)
theorem mx_X2_search_44 : Cond.methodLink RX2 59 yX3_soundsThatAre ∈ wsX2_search := mb_X2_search_wsX2_search_r2 (List.mem_of_getElem? (i := 19) rfl)
theorem mx_X2_search_45 : Cond.instanceMethod yX3_soundsThatAre ∈ wsX2_search := mb_X2_search_wsX2_search_r2 (List.mem_of_getElem? (i := 20) rfl)
theorem mx_X2_search_46 : Cond.selects RX3 yX3_soundsThatAre yX3_soundsThatAre ∈ wsX2_search := mb_X2_search_wsX2_search_r2 (List.mem_of_getElem? (i := 21) rfl)
theorem mx_X2_search_10 : Cond.initialized RX3 ∈ wsX2_search := mb_X2_search_wsX2_search_r1 (List.mem_of_getElem? (i := 9) rfl)
theorem mx_X2_search_47 : Cond.code yX3_soundsThatAre cX3_soundsThatAre 4 (some .int) ∈ wsX2_search := mb_X2_search_wsX2_search_r2 (List.mem_of_getElem? (i := 22) rfl)
theorem mx_X2_search_19 : Cond.fieldLink RX3 49 "MillTalk$Level" "soundCount" "I" ∈ wsX2_search := mb_X2_search_wsX2_search_r1 (List.mem_of_getElem? (i := 18) rfl)
theorem mx_X2_search_28 : Cond.fieldLink RX3 24 "MillTalk$Level" "hows" "[I" ∈ wsX2_search := mb_X2_search_wsX2_search_r2 (List.mem_of_getElem? (i := 3) rfl)
theorem mx_X2_search_7 : Cond.methodLink RX2 34 yX3_becomeLike ∈ wsX2_search := mb_X2_search_wsX2_search_r1 (List.mem_of_getElem? (i := 6) rfl)
theorem mx_X2_search_8 : Cond.instanceMethod yX3_becomeLike ∈ wsX2_search := mb_X2_search_wsX2_search_r1 (List.mem_of_getElem? (i := 7) rfl)
theorem mx_X2_search_9 : Cond.selects RX3 yX3_becomeLike yX3_becomeLike ∈ wsX2_search := mb_X2_search_wsX2_search_r1 (List.mem_of_getElem? (i := 8) rfl)
theorem mx_X2_search_11 : Cond.code yX3_becomeLike cX3_becomeLike 2 none ∈ wsX2_search := mb_X2_search_wsX2_search_r1 (List.mem_of_getElem? (i := 10) rfl)
theorem mx_X2_search_12 : Cond.fieldLink RX3 27 "MillTalk$Level" "cells" "I" ∈ wsX2_search := mb_X2_search_wsX2_search_r1 (List.mem_of_getElem? (i := 11) rfl)
theorem mx_X2_search_13 : Cond.fieldLink RX3 31 "MillTalk$Level" "mill" "I" ∈ wsX2_search := mb_X2_search_wsX2_search_r1 (List.mem_of_getElem? (i := 12) rfl)
theorem mx_X2_search_14 : Cond.fieldLink RX3 34 "MillTalk$Level" "reach" "I" ∈ wsX2_search := mb_X2_search_wsX2_search_r1 (List.mem_of_getElem? (i := 13) rfl)
theorem mx_X2_search_15 : Cond.fieldLink RX3 37 "MillTalk$Level" "cap" "I" ∈ wsX2_search := mb_X2_search_wsX2_search_r1 (List.mem_of_getElem? (i := 14) rfl)
theorem mx_X2_search_16 : Cond.fieldLink RX3 40 "MillTalk$Level" "hour" "I" ∈ wsX2_search := mb_X2_search_wsX2_search_r1 (List.mem_of_getElem? (i := 15) rfl)
theorem mx_X2_search_17 : Cond.fieldLink RX3 43 "MillTalk$Level" "meal" "I" ∈ wsX2_search := mb_X2_search_wsX2_search_r1 (List.mem_of_getElem? (i := 16) rfl)
theorem mx_X2_search_18 : Cond.fieldLink RX3 46 "MillTalk$Level" "windCount" "I" ∈ wsX2_search := mb_X2_search_wsX2_search_r1 (List.mem_of_getElem? (i := 17) rfl)
theorem mx_X2_search_20 : Cond.fieldLink RX3 9 "MillTalk$Level" "winds" "[I" ∈ wsX2_search := mb_X2_search_wsX2_search_r1 (List.mem_of_getElem? (i := 19) rfl)
theorem mx_X2_search_21 : Cond.methodLink RX3 52 arraycopyName ∈ wsX2_search := mb_X2_search_wsX2_search_r1 (List.mem_of_getElem? (i := 20) rfl)
theorem mx_X2_search_22 : Cond.native arraycopyName ∈ wsX2_search := mb_X2_search_wsX2_search_r1 (List.mem_of_getElem? (i := 21) rfl)
theorem mx_X2_search_23 : Cond.static arraycopyName ∈ wsX2_search := mb_X2_search_wsX2_search_r1 (List.mem_of_getElem? (i := 22) rfl)
theorem mx_X2_search_24 : Cond.initialized "java/lang/System" ∈ wsX2_search := mb_X2_search_wsX2_search_r1 (List.mem_of_getElem? (i := 23) rfl)
theorem mx_X2_search_25 : Cond.fieldLink RX3 15 "MillTalk$Level" "kinds" "[I" ∈ wsX2_search := mb_X2_search_wsX2_search_r2 (List.mem_of_getElem? (i := 0) rfl)
theorem mx_X2_search_26 : Cond.fieldLink RX3 18 "MillTalk$Level" "places" "[I" ∈ wsX2_search := mb_X2_search_wsX2_search_r2 (List.mem_of_getElem? (i := 1) rfl)
theorem mx_X2_search_27 : Cond.fieldLink RX3 21 "MillTalk$Level" "louds" "[I" ∈ wsX2_search := mb_X2_search_wsX2_search_r2 (List.mem_of_getElem? (i := 2) rfl)
theorem mx_X2_search_48 : Cond.methodLink RX2 49 yX3_pass ∈ wsX2_search := mb_X2_search_wsX2_search_r2 (List.mem_of_getElem? (i := 23) rfl)
theorem mb_X2_search_wsX2_search_r3 {w : Cond} (h : w ∈ wsX2_search_r3) : w ∈ wsX2_search := by unfold wsX2_search; exact List.mem_cons_of_mem _ (List.mem_append_left _ (List.mem_append_left _ (List.mem_append_right _ (List.mem_append_right _ (List.mem_append_left _ (h))))))
theorem mx_X2_search_49 : Cond.instanceMethod yX3_pass ∈ wsX2_search := mb_X2_search_wsX2_search_r3 (List.mem_of_getElem? (i := 0) rfl)
theorem mx_X2_search_50 : Cond.selects RX3 yX3_pass yX3_pass ∈ wsX2_search := mb_X2_search_wsX2_search_r3 (List.mem_of_getElem? (i := 1) rfl)
theorem mx_X2_search_51 : Cond.code yX3_pass cX3_pass 3 none ∈ wsX2_search := mb_X2_search_wsX2_search_r3 (List.mem_of_getElem? (i := 2) rfl)
theorem mx_X2_search_52 : Cond.methodLink RX3 87 yX3_windOn ∈ wsX2_search := mb_X2_search_wsX2_search_r3 (List.mem_of_getElem? (i := 3) rfl)
theorem mx_X2_search_53 : Cond.instanceMethod yX3_windOn ∈ wsX2_search := mb_X2_search_wsX2_search_r3 (List.mem_of_getElem? (i := 4) rfl)
theorem mx_X2_search_54 : Cond.selects RX3 yX3_windOn yX3_windOn ∈ wsX2_search := mb_X2_search_wsX2_search_r3 (List.mem_of_getElem? (i := 5) rfl)
theorem mx_X2_search_55 : Cond.code yX3_windOn cX3_windOn 2 (some .int) ∈ wsX2_search := mb_X2_search_wsX2_search_r3 (List.mem_of_getElem? (i := 6) rfl)
theorem mx_X2_search_56 : Cond.methodLink RX3 90 yX3_passSound ∈ wsX2_search := mb_X2_search_wsX2_search_r3 (List.mem_of_getElem? (i := 7) rfl)
theorem mx_X2_search_57 : Cond.instanceMethod yX3_passSound ∈ wsX2_search := mb_X2_search_wsX2_search_r3 (List.mem_of_getElem? (i := 8) rfl)
theorem mx_X2_search_58 : Cond.selects RX3 yX3_passSound yX3_passSound ∈ wsX2_search := mb_X2_search_wsX2_search_r3 (List.mem_of_getElem? (i := 9) rfl)
theorem mx_X2_search_59 : Cond.code yX3_passSound cX3_passSound 5 none ∈ wsX2_search := mb_X2_search_wsX2_search_r3 (List.mem_of_getElem? (i := 10) rfl)
theorem mx_X2_search_60 : Cond.methodLink RX3 63 Lib.Math.min.name ∈ wsX2_search := mb_X2_search_wsX2_search_r3 (List.mem_of_getElem? (i := 11) rfl)
theorem mx_X2_search_61 : Cond.static Lib.Math.min.name ∈ wsX2_search := mb_X2_search_wsX2_search_r3 (List.mem_of_getElem? (i := 12) rfl)
theorem mx_X2_search_62 : Cond.initialized "java/lang/Math" ∈ wsX2_search := mb_X2_search_wsX2_search_r3 (List.mem_of_getElem? (i := 13) rfl)
theorem mx_X2_search_63 : Cond.code Lib.Math.min.name Lib.Math.min.code 2 (some .int) ∈ wsX2_search := mb_X2_search_wsX2_search_r3 (List.mem_of_getElem? (i := 14) rfl)
theorem mx_X2_search_64 : Cond.methodLink RX3 58 yX3_isLoose ∈ wsX2_search := mb_X2_search_wsX2_search_r3 (List.mem_of_getElem? (i := 15) rfl)
theorem mx_X2_search_65 : Cond.instanceMethod yX3_isLoose ∈ wsX2_search := mb_X2_search_wsX2_search_r3 (List.mem_of_getElem? (i := 16) rfl)
theorem mx_X2_search_66 : Cond.selects RX3 yX3_isLoose yX3_isLoose ∈ wsX2_search := mb_X2_search_wsX2_search_r3 (List.mem_of_getElem? (i := 17) rfl)
theorem mx_X2_search_67 : Cond.code yX3_isLoose cX3_isLoose 2 (some .boolean) ∈ wsX2_search := mb_X2_search_wsX2_search_r3 (List.mem_of_getElem? (i := 18) rfl)
theorem mx_X2_search_68 : Cond.methodLink RX3 69 yX3_driftOf ∈ wsX2_search := mb_X2_search_wsX2_search_r3 (List.mem_of_getElem? (i := 19) rfl)
theorem mx_X2_search_69 : Cond.instanceMethod yX3_driftOf ∈ wsX2_search := mb_X2_search_wsX2_search_r3 (List.mem_of_getElem? (i := 20) rfl)
theorem mx_X2_search_70 : Cond.selects RX3 yX3_driftOf yX3_driftOf ∈ wsX2_search := mb_X2_search_wsX2_search_r3 (List.mem_of_getElem? (i := 21) rfl)
theorem mx_X2_search_71 : Cond.code yX3_driftOf cX3_driftOf 4 (some .int) ∈ wsX2_search := mb_X2_search_wsX2_search_r3 (List.mem_of_getElem? (i := 22) rfl)
theorem mx_X2_search_72 : Cond.methodLink RX3 72 yX3_loudBehindHour ∈ wsX2_search := mb_X2_search_wsX2_search_r3 (List.mem_of_getElem? (i := 23) rfl)
theorem mb_X2_search_wsX2_search_r4 {w : Cond} (h : w ∈ wsX2_search_r4) : w ∈ wsX2_search := by unfold wsX2_search; exact List.mem_cons_of_mem _ (List.mem_append_left _ (List.mem_append_left _ (List.mem_append_right _ (List.mem_append_right _ (List.mem_append_right _ (h))))))
theorem mx_X2_search_73 : Cond.instanceMethod yX3_loudBehindHour ∈ wsX2_search := mb_X2_search_wsX2_search_r4 (List.mem_of_getElem? (i := 0) rfl)
theorem mx_X2_search_74 : Cond.selects RX3 yX3_loudBehindHour yX3_loudBehindHour ∈ wsX2_search := mb_X2_search_wsX2_search_r4 (List.mem_of_getElem? (i := 1) rfl)
theorem mx_X2_search_75 : Cond.code yX3_loudBehindHour cX3_loudBehindHour 2 (some .int) ∈ wsX2_search := mb_X2_search_wsX2_search_r4 (List.mem_of_getElem? (i := 2) rfl)
theorem mx_X2_search_76 : Cond.methodLink RX3 76 yX3_hasCell ∈ wsX2_search := mb_X2_search_wsX2_search_r4 (List.mem_of_getElem? (i := 3) rfl)
theorem mx_X2_search_77 : Cond.instanceMethod yX3_hasCell ∈ wsX2_search := mb_X2_search_wsX2_search_r4 (List.mem_of_getElem? (i := 4) rfl)
theorem mx_X2_search_78 : Cond.selects RX3 yX3_hasCell yX3_hasCell ∈ wsX2_search := mb_X2_search_wsX2_search_r4 (List.mem_of_getElem? (i := 5) rfl)
theorem mx_X2_search_79 : Cond.code yX3_hasCell cX3_hasCell 2 (some .boolean) ∈ wsX2_search := mb_X2_search_wsX2_search_r4 (List.mem_of_getElem? (i := 6) rfl)
theorem mx_X2_search_80 : Cond.methodLink RX3 79 yX3_letLoose ∈ wsX2_search := mb_X2_search_wsX2_search_r4 (List.mem_of_getElem? (i := 7) rfl)
theorem mx_X2_search_81 : Cond.instanceMethod yX3_letLoose ∈ wsX2_search := mb_X2_search_wsX2_search_r4 (List.mem_of_getElem? (i := 8) rfl)
theorem mx_X2_search_82 : Cond.selects RX3 yX3_letLoose yX3_letLoose ∈ wsX2_search := mb_X2_search_wsX2_search_r4 (List.mem_of_getElem? (i := 9) rfl)
theorem mx_X2_search_83 : Cond.code yX3_letLoose cX3_letLoose 4 none ∈ wsX2_search := mb_X2_search_wsX2_search_r4 (List.mem_of_getElem? (i := 10) rfl)
theorem mx_X2_search_84 : Cond.methodLink RX3 83 yX3_grindsAt ∈ wsX2_search := mb_X2_search_wsX2_search_r4 (List.mem_of_getElem? (i := 11) rfl)
theorem mx_X2_search_85 : Cond.instanceMethod yX3_grindsAt ∈ wsX2_search := mb_X2_search_wsX2_search_r4 (List.mem_of_getElem? (i := 12) rfl)
theorem mx_X2_search_86 : Cond.selects RX3 yX3_grindsAt yX3_grindsAt ∈ wsX2_search := mb_X2_search_wsX2_search_r4 (List.mem_of_getElem? (i := 13) rfl)
theorem mx_X2_search_87 : Cond.code yX3_grindsAt cX3_grindsAt 4 (some .boolean) ∈ wsX2_search := mb_X2_search_wsX2_search_r4 (List.mem_of_getElem? (i := 14) rfl)
theorem mx_X2_search_29 : Cond.methodLink RX2 38 yX2_tryRows ∈ wsX2_search := mb_X2_search_wsX2_search_r2 (List.mem_of_getElem? (i := 4) rfl)
theorem mx_X2_search_30 : Cond.instanceMethod yX2_tryRows ∈ wsX2_search := mb_X2_search_wsX2_search_r2 (List.mem_of_getElem? (i := 5) rfl)
theorem mx_X2_search_31 : Cond.selects RX2 yX2_tryRows yX2_tryRows ∈ wsX2_search := mb_X2_search_wsX2_search_r2 (List.mem_of_getElem? (i := 6) rfl)
theorem mb_X2_search_wsX20 {w : Cond} (h : w ∈ wsX20) : w ∈ wsX2_search := by unfold wsX2_search; exact List.mem_cons_of_mem _ (List.mem_append_left _ (List.mem_append_right _ (h)))
theorem mb_X2_search_wsX30 {w : Cond} (h : w ∈ wsX30) : w ∈ wsX2_search := by unfold wsX2_search; exact List.mem_cons_of_mem _ (List.mem_append_right _ (h))
theorem ggX2_search_X2_tryRows : GoodIn wsX2_search wsX2_tryRows := goodIn_sub (by unfold wsX2_tryRows; exact List.forall_mem_cons.mpr ⟨mx_X2_search_33, List.forall_mem_append.mpr ⟨List.forall_mem_append.mpr ⟨List.forall_mem_append.mpr ⟨(by unfold wsX2_tryRows_r1; exact List.forall_mem_cons.mpr ⟨mx_X2_search_1, List.forall_mem_cons.mpr ⟨mx_X2_search_6, List.forall_mem_cons.mpr ⟨mx_X2_search_34, List.forall_mem_cons.mpr ⟨mx_X2_search_35, List.forall_mem_cons.mpr ⟨mx_X2_search_36, List.forall_mem_cons.mpr ⟨mx_X2_search_37, List.forall_mem_cons.mpr ⟨mx_X2_search_32, List.forall_mem_cons.mpr ⟨mx_X2_search_38, List.forall_mem_cons.mpr ⟨mx_X2_search_4, List.forall_mem_cons.mpr ⟨mx_X2_search_5, List.forall_mem_cons.mpr ⟨mx_X2_search_3, List.forall_mem_cons.mpr ⟨mx_X2_search_39, List.forall_mem_cons.mpr ⟨mx_X2_search_40, List.forall_mem_cons.mpr ⟨mx_X2_search_41, List.forall_mem_cons.mpr ⟨mx_X2_search_42, List.forall_mem_cons.mpr ⟨mx_X2_search_2, List.forall_mem_cons.mpr ⟨mx_X2_search_43, List.forall_mem_cons.mpr ⟨mx_X2_search_44, List.forall_mem_cons.mpr ⟨mx_X2_search_45, List.forall_mem_cons.mpr ⟨mx_X2_search_46, List.forall_mem_cons.mpr ⟨mx_X2_search_10, List.forall_mem_cons.mpr ⟨mx_X2_search_47, List.forall_mem_cons.mpr ⟨mx_X2_search_19, List.forall_mem_cons.mpr ⟨mx_X2_search_28, fun _ h_ => absurd h_ List.not_mem_nil⟩⟩⟩⟩⟩⟩⟩⟩⟩⟩⟩⟩⟩⟩⟩⟩⟩⟩⟩⟩⟩⟩⟩⟩), List.forall_mem_append.mpr ⟨(by unfold wsX2_tryRows_r2; exact List.forall_mem_cons.mpr ⟨mx_X2_search_7, List.forall_mem_cons.mpr ⟨mx_X2_search_8, List.forall_mem_cons.mpr ⟨mx_X2_search_9, List.forall_mem_cons.mpr ⟨mx_X2_search_11, List.forall_mem_cons.mpr ⟨mx_X2_search_12, List.forall_mem_cons.mpr ⟨mx_X2_search_13, List.forall_mem_cons.mpr ⟨mx_X2_search_14, List.forall_mem_cons.mpr ⟨mx_X2_search_15, List.forall_mem_cons.mpr ⟨mx_X2_search_16, List.forall_mem_cons.mpr ⟨mx_X2_search_17, List.forall_mem_cons.mpr ⟨mx_X2_search_18, List.forall_mem_cons.mpr ⟨mx_X2_search_20, List.forall_mem_cons.mpr ⟨mx_X2_search_21, List.forall_mem_cons.mpr ⟨mx_X2_search_22, List.forall_mem_cons.mpr ⟨mx_X2_search_23, List.forall_mem_cons.mpr ⟨mx_X2_search_24, List.forall_mem_cons.mpr ⟨mx_X2_search_25, List.forall_mem_cons.mpr ⟨mx_X2_search_26, List.forall_mem_cons.mpr ⟨mx_X2_search_27, List.forall_mem_cons.mpr ⟨mx_X2_search_48, List.forall_mem_cons.mpr ⟨mx_X2_search_49, List.forall_mem_cons.mpr ⟨mx_X2_search_50, List.forall_mem_cons.mpr ⟨mx_X2_search_51, List.forall_mem_cons.mpr ⟨mx_X2_search_52, fun _ h_ => absurd h_ List.not_mem_nil⟩⟩⟩⟩⟩⟩⟩⟩⟩⟩⟩⟩⟩⟩⟩⟩⟩⟩⟩⟩⟩⟩⟩⟩), List.forall_mem_append.mpr ⟨(by unfold wsX2_tryRows_r3; exact List.forall_mem_cons.mpr ⟨mx_X2_search_53, List.forall_mem_cons.mpr ⟨mx_X2_search_54, List.forall_mem_cons.mpr ⟨mx_X2_search_55, List.forall_mem_cons.mpr ⟨mx_X2_search_56, List.forall_mem_cons.mpr ⟨mx_X2_search_57, List.forall_mem_cons.mpr ⟨mx_X2_search_58, List.forall_mem_cons.mpr ⟨mx_X2_search_59, List.forall_mem_cons.mpr ⟨mx_X2_search_60, List.forall_mem_cons.mpr ⟨mx_X2_search_61, List.forall_mem_cons.mpr ⟨mx_X2_search_62, List.forall_mem_cons.mpr ⟨mx_X2_search_63, List.forall_mem_cons.mpr ⟨mx_X2_search_64, List.forall_mem_cons.mpr ⟨mx_X2_search_65, List.forall_mem_cons.mpr ⟨mx_X2_search_66, List.forall_mem_cons.mpr ⟨mx_X2_search_67, List.forall_mem_cons.mpr ⟨mx_X2_search_68, List.forall_mem_cons.mpr ⟨mx_X2_search_69, List.forall_mem_cons.mpr ⟨mx_X2_search_70, List.forall_mem_cons.mpr ⟨mx_X2_search_71, List.forall_mem_cons.mpr ⟨mx_X2_search_72, List.forall_mem_cons.mpr ⟨mx_X2_search_73, List.forall_mem_cons.mpr ⟨mx_X2_search_74, List.forall_mem_cons.mpr ⟨mx_X2_search_75, List.forall_mem_cons.mpr ⟨mx_X2_search_76, fun _ h_ => absurd h_ List.not_mem_nil⟩⟩⟩⟩⟩⟩⟩⟩⟩⟩⟩⟩⟩⟩⟩⟩⟩⟩⟩⟩⟩⟩⟩⟩), (by unfold wsX2_tryRows_r4; exact List.forall_mem_cons.mpr ⟨mx_X2_search_77, List.forall_mem_cons.mpr ⟨mx_X2_search_78, List.forall_mem_cons.mpr ⟨mx_X2_search_79, List.forall_mem_cons.mpr ⟨mx_X2_search_80, List.forall_mem_cons.mpr ⟨mx_X2_search_81, List.forall_mem_cons.mpr ⟨mx_X2_search_82, List.forall_mem_cons.mpr ⟨mx_X2_search_83, List.forall_mem_cons.mpr ⟨mx_X2_search_84, List.forall_mem_cons.mpr ⟨mx_X2_search_85, List.forall_mem_cons.mpr ⟨mx_X2_search_86, List.forall_mem_cons.mpr ⟨mx_X2_search_87, List.forall_mem_cons.mpr ⟨mx_X2_search_29, List.forall_mem_cons.mpr ⟨mx_X2_search_30, List.forall_mem_cons.mpr ⟨mx_X2_search_31, fun _ h_ => absurd h_ List.not_mem_nil⟩⟩⟩⟩⟩⟩⟩⟩⟩⟩⟩⟩⟩⟩)⟩⟩⟩, (fun _ h_ => mb_X2_search_wsX20 h_)⟩, (fun _ h_ => mb_X2_search_wsX30 h_)⟩⟩) (by decide +kernel)
theorem gX2_search_X2_tryRows : GoodIn wsX2_search (wsV RX2 38 RX2 yX2_tryRows wsX2_tryRows) := goodIn_app (goodIn_sub (List.forall_mem_cons.mpr ⟨mx_X2_search_29, List.forall_mem_cons.mpr ⟨mx_X2_search_30, List.forall_mem_cons.mpr ⟨mx_X2_search_31, List.forall_mem_cons.mpr ⟨mx_X2_search_32, fun _ h_ => absurd h_ List.not_mem_nil⟩⟩⟩⟩) (by decide +kernel)) ggX2_search_X2_tryRows
theorem ggX2_search_X3_becomeLike : GoodIn wsX2_search wsX3_becomeLike := goodIn_sub (by unfold wsX3_becomeLike; exact List.forall_mem_cons.mpr ⟨mx_X2_search_11, List.forall_mem_append.mpr ⟨List.forall_mem_cons.mpr ⟨mx_X2_search_12, List.forall_mem_cons.mpr ⟨mx_X2_search_13, List.forall_mem_cons.mpr ⟨mx_X2_search_14, List.forall_mem_cons.mpr ⟨mx_X2_search_15, List.forall_mem_cons.mpr ⟨mx_X2_search_16, List.forall_mem_cons.mpr ⟨mx_X2_search_17, List.forall_mem_cons.mpr ⟨mx_X2_search_18, List.forall_mem_cons.mpr ⟨mx_X2_search_19, List.forall_mem_cons.mpr ⟨mx_X2_search_20, List.forall_mem_cons.mpr ⟨mx_X2_search_21, List.forall_mem_cons.mpr ⟨mx_X2_search_22, List.forall_mem_cons.mpr ⟨mx_X2_search_23, List.forall_mem_cons.mpr ⟨mx_X2_search_24, List.forall_mem_cons.mpr ⟨mx_X2_search_25, List.forall_mem_cons.mpr ⟨mx_X2_search_26, List.forall_mem_cons.mpr ⟨mx_X2_search_27, List.forall_mem_cons.mpr ⟨mx_X2_search_28, fun _ h_ => absurd h_ List.not_mem_nil⟩⟩⟩⟩⟩⟩⟩⟩⟩⟩⟩⟩⟩⟩⟩⟩⟩, (fun _ h_ => mb_X2_search_wsX30 h_)⟩⟩) (by decide +kernel)
theorem gX2_search_X3_becomeLike : GoodIn wsX2_search (wsV RX2 34 RX3 yX3_becomeLike wsX3_becomeLike) := goodIn_app (goodIn_sub (List.forall_mem_cons.mpr ⟨mx_X2_search_7, List.forall_mem_cons.mpr ⟨mx_X2_search_8, List.forall_mem_cons.mpr ⟨mx_X2_search_9, List.forall_mem_cons.mpr ⟨mx_X2_search_10, fun _ h_ => absurd h_ List.not_mem_nil⟩⟩⟩⟩) (by decide +kernel)) ggX2_search_X3_becomeLike
theorem mb_X2_tryRows_wsX2_tryRows_r1 {w : Cond} (h : w ∈ wsX2_tryRows_r1) : w ∈ wsX2_tryRows := by unfold wsX2_tryRows; exact List.mem_cons_of_mem _ (List.mem_append_left _ (List.mem_append_left _ (List.mem_append_left _ (h))))
theorem mx_X2_tryRows_8 : Cond.code yX2_judge cX2_judge 5 none ∈ wsX2_tryRows := mb_X2_tryRows_wsX2_tryRows_r1 (List.mem_of_getElem? (i := 7) rfl)
theorem mx_X2_tryRows_9 : Cond.fieldLink RX2 28 "MillTalk$CapSearch" "bestWorth" "I" ∈ wsX2_tryRows := mb_X2_tryRows_wsX2_tryRows_r1 (List.mem_of_getElem? (i := 8) rfl)
theorem mx_X2_tryRows_10 : Cond.fieldLink RX2 31 "MillTalk$CapSearch" "bestTurns" "I" ∈ wsX2_tryRows := mb_X2_tryRows_wsX2_tryRows_r1 (List.mem_of_getElem? (i := 9) rfl)
theorem mx_X2_tryRows_11 : Cond.fieldLink RX2 25 "MillTalk$CapSearch" "bestRow" "I" ∈ wsX2_tryRows := mb_X2_tryRows_wsX2_tryRows_r1 (List.mem_of_getElem? (i := 10) rfl)
theorem mx_X2_tryRows_12 : Cond.methodLink RX2 52 yX2_worthOf ∈ wsX2_tryRows := mb_X2_tryRows_wsX2_tryRows_r1 (List.mem_of_getElem? (i := 11) rfl)
theorem mx_X2_tryRows_13 : Cond.instanceMethod yX2_worthOf ∈ wsX2_tryRows := mb_X2_tryRows_wsX2_tryRows_r1 (List.mem_of_getElem? (i := 12) rfl)
theorem mx_X2_tryRows_14 : Cond.selects RX2 yX2_worthOf yX2_worthOf ∈ wsX2_tryRows := mb_X2_tryRows_wsX2_tryRows_r1 (List.mem_of_getElem? (i := 13) rfl)
theorem mx_X2_tryRows_7 : Cond.initialized RX2 ∈ wsX2_tryRows := mb_X2_tryRows_wsX2_tryRows_r1 (List.mem_of_getElem? (i := 6) rfl)
theorem mx_X2_tryRows_15 : Cond.code yX2_worthOf cX2_worthOf 2 (some .int) ∈ wsX2_tryRows := mb_X2_tryRows_wsX2_tryRows_r1 (List.mem_of_getElem? (i := 14) rfl)
theorem mx_X2_tryRows_16 : Cond.fieldLink RX2 22 "MillTalk$CapSearch" "wanted" "I" ∈ wsX2_tryRows := mb_X2_tryRows_wsX2_tryRows_r1 (List.mem_of_getElem? (i := 15) rfl)
theorem mx_X2_tryRows_17 : Cond.fieldLink RX2 56 "MillTalk$Level" "meal" "I" ∈ wsX2_tryRows := mb_X2_tryRows_wsX2_tryRows_r1 (List.mem_of_getElem? (i := 16) rfl)
theorem mx_X2_tryRows_18 : Cond.methodLink RX2 59 yX3_soundsThatAre ∈ wsX2_tryRows := mb_X2_tryRows_wsX2_tryRows_r1 (List.mem_of_getElem? (i := 17) rfl)
theorem mx_X2_tryRows_19 : Cond.instanceMethod yX3_soundsThatAre ∈ wsX2_tryRows := mb_X2_tryRows_wsX2_tryRows_r1 (List.mem_of_getElem? (i := 18) rfl)
theorem mx_X2_tryRows_20 : Cond.selects RX3 yX3_soundsThatAre yX3_soundsThatAre ∈ wsX2_tryRows := mb_X2_tryRows_wsX2_tryRows_r1 (List.mem_of_getElem? (i := 19) rfl)
theorem mx_X2_tryRows_21 : Cond.initialized RX3 ∈ wsX2_tryRows := mb_X2_tryRows_wsX2_tryRows_r1 (List.mem_of_getElem? (i := 20) rfl)
theorem mx_X2_tryRows_22 : Cond.code yX3_soundsThatAre cX3_soundsThatAre 4 (some .int) ∈ wsX2_tryRows := mb_X2_tryRows_wsX2_tryRows_r1 (List.mem_of_getElem? (i := 21) rfl)
theorem mx_X2_tryRows_23 : Cond.fieldLink RX3 49 "MillTalk$Level" "soundCount" "I" ∈ wsX2_tryRows := mb_X2_tryRows_wsX2_tryRows_r1 (List.mem_of_getElem? (i := 22) rfl)
theorem mx_X2_tryRows_24 : Cond.fieldLink RX3 24 "MillTalk$Level" "hows" "[I" ∈ wsX2_tryRows := mb_X2_tryRows_wsX2_tryRows_r1 (List.mem_of_getElem? (i := 23) rfl)
theorem mb_X2_tryRows_wsX20 {w : Cond} (h : w ∈ wsX20) : w ∈ wsX2_tryRows := by unfold wsX2_tryRows; exact List.mem_cons_of_mem _ (List.mem_append_left _ (List.mem_append_right _ (h)))
theorem mb_X2_tryRows_wsX30 {w : Cond} (h : w ∈ wsX30) : w ∈ wsX2_tryRows := by unfold wsX2_tryRows; exact List.mem_cons_of_mem _ (List.mem_append_right _ (h))
theorem ggX2_tryRows_X2_judge : GoodIn wsX2_tryRows wsX2_judge := goodIn_sub (by unfold wsX2_judge; exact List.forall_mem_cons.mpr ⟨mx_X2_tryRows_8, List.forall_mem_append.mpr ⟨List.forall_mem_append.mpr ⟨List.forall_mem_cons.mpr ⟨mx_X2_tryRows_9, List.forall_mem_cons.mpr ⟨mx_X2_tryRows_10, List.forall_mem_cons.mpr ⟨mx_X2_tryRows_11, List.forall_mem_cons.mpr ⟨mx_X2_tryRows_12, List.forall_mem_cons.mpr ⟨mx_X2_tryRows_13, List.forall_mem_cons.mpr ⟨mx_X2_tryRows_14, List.forall_mem_cons.mpr ⟨mx_X2_tryRows_7, List.forall_mem_cons.mpr ⟨mx_X2_tryRows_15, List.forall_mem_cons.mpr ⟨mx_X2_tryRows_16, List.forall_mem_cons.mpr ⟨mx_X2_tryRows_17, List.forall_mem_cons.mpr ⟨mx_X2_tryRows_18, List.forall_mem_cons.mpr ⟨mx_X2_tryRows_19, List.forall_mem_cons.mpr ⟨mx_X2_tryRows_20, List.forall_mem_cons.mpr ⟨mx_X2_tryRows_21, List.forall_mem_cons.mpr ⟨mx_X2_tryRows_22, List.forall_mem_cons.mpr ⟨mx_X2_tryRows_23, List.forall_mem_cons.mpr ⟨mx_X2_tryRows_24, fun _ h_ => absurd h_ List.not_mem_nil⟩⟩⟩⟩⟩⟩⟩⟩⟩⟩⟩⟩⟩⟩⟩⟩⟩, (fun _ h_ => mb_X2_tryRows_wsX20 h_)⟩, (fun _ h_ => mb_X2_tryRows_wsX30 h_)⟩⟩) (by decide +kernel)
theorem mx_X2_tryRows_4 : Cond.methodLink RX2 42 yX2_judge ∈ wsX2_tryRows := mb_X2_tryRows_wsX2_tryRows_r1 (List.mem_of_getElem? (i := 3) rfl)
theorem mx_X2_tryRows_5 : Cond.instanceMethod yX2_judge ∈ wsX2_tryRows := mb_X2_tryRows_wsX2_tryRows_r1 (List.mem_of_getElem? (i := 4) rfl)
theorem mx_X2_tryRows_6 : Cond.selects RX2 yX2_judge yX2_judge ∈ wsX2_tryRows := mb_X2_tryRows_wsX2_tryRows_r1 (List.mem_of_getElem? (i := 5) rfl)
theorem gX2_tryRows_X2_judge : GoodIn wsX2_tryRows (wsV RX2 42 RX2 yX2_judge wsX2_judge) := goodIn_app (goodIn_sub (List.forall_mem_cons.mpr ⟨mx_X2_tryRows_4, List.forall_mem_cons.mpr ⟨mx_X2_tryRows_5, List.forall_mem_cons.mpr ⟨mx_X2_tryRows_6, List.forall_mem_cons.mpr ⟨mx_X2_tryRows_7, fun _ h_ => absurd h_ List.not_mem_nil⟩⟩⟩⟩) (by decide +kernel)) ggX2_tryRows_X2_judge
theorem mx_X2_tryRows_0 : Cond.code yX2_tryRows cX2_tryRows 7 none ∈ wsX2_tryRows := by unfold wsX2_tryRows; exact List.mem_cons_self
theorem mx_X2_tryRows_1 : Cond.fieldLink RX2 18 "MillTalk$CapSearch" "hours" "I" ∈ wsX2_tryRows := mb_X2_tryRows_wsX2_tryRows_r1 (List.mem_of_getElem? (i := 0) rfl)
theorem mx_X2_tryRows_2 : Cond.fieldLink RX2 13 "MillTalk$CapSearch" "behind" "[LMillTalk$Level;" ∈ wsX2_tryRows := mb_X2_tryRows_wsX2_tryRows_r1 (List.mem_of_getElem? (i := 1) rfl)
theorem mx_X2_tryRows_3 : Cond.fieldLink RX2 46 "MillTalk$Level" "cap" "I" ∈ wsX2_tryRows := mb_X2_tryRows_wsX2_tryRows_r1 (List.mem_of_getElem? (i := 2) rfl)
theorem mb_X2_tryRows_wsX2_tryRows_r2 {w : Cond} (h : w ∈ wsX2_tryRows_r2) : w ∈ wsX2_tryRows := by unfold wsX2_tryRows; exact List.mem_cons_of_mem _ (List.mem_append_left _ (List.mem_append_left _ (List.mem_append_right _ (List.mem_append_left _ (h)))))
theorem mx_X2_tryRows_25 : Cond.methodLink RX2 34 yX3_becomeLike ∈ wsX2_tryRows := mb_X2_tryRows_wsX2_tryRows_r2 (List.mem_of_getElem? (i := 0) rfl)
theorem mx_X2_tryRows_26 : Cond.instanceMethod yX3_becomeLike ∈ wsX2_tryRows := mb_X2_tryRows_wsX2_tryRows_r2 (List.mem_of_getElem? (i := 1) rfl)
theorem mx_X2_tryRows_27 : Cond.selects RX3 yX3_becomeLike yX3_becomeLike ∈ wsX2_tryRows := mb_X2_tryRows_wsX2_tryRows_r2 (List.mem_of_getElem? (i := 2) rfl)
theorem mx_X2_tryRows_28 : Cond.code yX3_becomeLike cX3_becomeLike 2 none ∈ wsX2_tryRows := mb_X2_tryRows_wsX2_tryRows_r2 (List.mem_of_getElem? (i := 3) rfl)
theorem mx_X2_tryRows_29 : Cond.fieldLink RX3 27 "MillTalk$Level" "cells" "I" ∈ wsX2_tryRows := mb_X2_tryRows_wsX2_tryRows_r2 (List.mem_of_getElem? (i := 4) rfl)
theorem mx_X2_tryRows_30 : Cond.fieldLink RX3 31 "MillTalk$Level" "mill" "I" ∈ wsX2_tryRows := mb_X2_tryRows_wsX2_tryRows_r2 (List.mem_of_getElem? (i := 5) rfl)
theorem mx_X2_tryRows_31 : Cond.fieldLink RX3 34 "MillTalk$Level" "reach" "I" ∈ wsX2_tryRows := mb_X2_tryRows_wsX2_tryRows_r2 (List.mem_of_getElem? (i := 6) rfl)
theorem mx_X2_tryRows_32 : Cond.fieldLink RX3 37 "MillTalk$Level" "cap" "I" ∈ wsX2_tryRows := mb_X2_tryRows_wsX2_tryRows_r2 (List.mem_of_getElem? (i := 7) rfl)
theorem mx_X2_tryRows_33 : Cond.fieldLink RX3 40 "MillTalk$Level" "hour" "I" ∈ wsX2_tryRows := mb_X2_tryRows_wsX2_tryRows_r2 (List.mem_of_getElem? (i := 8) rfl)
theorem mx_X2_tryRows_34 : Cond.fieldLink RX3 43 "MillTalk$Level" "meal" "I" ∈ wsX2_tryRows := mb_X2_tryRows_wsX2_tryRows_r2 (List.mem_of_getElem? (i := 9) rfl)
theorem mx_X2_tryRows_35 : Cond.fieldLink RX3 46 "MillTalk$Level" "windCount" "I" ∈ wsX2_tryRows := mb_X2_tryRows_wsX2_tryRows_r2 (List.mem_of_getElem? (i := 10) rfl)
theorem mx_X2_tryRows_36 : Cond.fieldLink RX3 9 "MillTalk$Level" "winds" "[I" ∈ wsX2_tryRows := mb_X2_tryRows_wsX2_tryRows_r2 (List.mem_of_getElem? (i := 11) rfl)
theorem mx_X2_tryRows_37 : Cond.methodLink RX3 52 arraycopyName ∈ wsX2_tryRows := mb_X2_tryRows_wsX2_tryRows_r2 (List.mem_of_getElem? (i := 12) rfl)
theorem mx_X2_tryRows_38 : Cond.native arraycopyName ∈ wsX2_tryRows := mb_X2_tryRows_wsX2_tryRows_r2 (List.mem_of_getElem? (i := 13) rfl)
theorem mx_X2_tryRows_39 : Cond.static arraycopyName ∈ wsX2_tryRows := mb_X2_tryRows_wsX2_tryRows_r2 (List.mem_of_getElem? (i := 14) rfl)
theorem mx_X2_tryRows_40 : Cond.initialized "java/lang/System" ∈ wsX2_tryRows := mb_X2_tryRows_wsX2_tryRows_r2 (List.mem_of_getElem? (i := 15) rfl)
theorem mx_X2_tryRows_41 : Cond.fieldLink RX3 15 "MillTalk$Level" "kinds" "[I" ∈ wsX2_tryRows := mb_X2_tryRows_wsX2_tryRows_r2 (List.mem_of_getElem? (i := 16) rfl)
theorem mx_X2_tryRows_42 : Cond.fieldLink RX3 18 "MillTalk$Level" "places" "[I" ∈ wsX2_tryRows := mb_X2_tryRows_wsX2_tryRows_r2 (List.mem_of_getElem? (i := 17) rfl)
theorem mx_X2_tryRows_43 : Cond.fieldLink RX3 21 "MillTalk$Level" "louds" "[I" ∈ wsX2_tryRows := mb_X2_tryRows_wsX2_tryRows_r2 (List.mem_of_getElem? (i := 18) rfl)
theorem mx_X2_tryRows_44 : Cond.methodLink RX2 49 yX3_pass ∈ wsX2_tryRows := mb_X2_tryRows_wsX2_tryRows_r2 (List.mem_of_getElem? (i := 19) rfl)
theorem mx_X2_tryRows_45 : Cond.instanceMethod yX3_pass ∈ wsX2_tryRows := mb_X2_tryRows_wsX2_tryRows_r2 (List.mem_of_getElem? (i := 20) rfl)
theorem mx_X2_tryRows_46 : Cond.selects RX3 yX3_pass yX3_pass ∈ wsX2_tryRows := mb_X2_tryRows_wsX2_tryRows_r2 (List.mem_of_getElem? (i := 21) rfl)
theorem mx_X2_tryRows_47 : Cond.code yX3_pass cX3_pass 3 none ∈ wsX2_tryRows := mb_X2_tryRows_wsX2_tryRows_r2 (List.mem_of_getElem? (i := 22) rfl)
theorem mx_X2_tryRows_48 : Cond.methodLink RX3 87 yX3_windOn ∈ wsX2_tryRows := mb_X2_tryRows_wsX2_tryRows_r2 (List.mem_of_getElem? (i := 23) rfl)
theorem mb_X2_tryRows_wsX2_tryRows_r3 {w : Cond} (h : w ∈ wsX2_tryRows_r3) : w ∈ wsX2_tryRows := by unfold wsX2_tryRows; exact List.mem_cons_of_mem _ (List.mem_append_left _ (List.mem_append_left _ (List.mem_append_right _ (List.mem_append_right _ (List.mem_append_left _ (h))))))
theorem mx_X2_tryRows_49 : Cond.instanceMethod yX3_windOn ∈ wsX2_tryRows := mb_X2_tryRows_wsX2_tryRows_r3 (List.mem_of_getElem? (i := 0) rfl)
theorem mx_X2_tryRows_50 : Cond.selects RX3 yX3_windOn yX3_windOn ∈ wsX2_tryRows := mb_X2_tryRows_wsX2_tryRows_r3 (List.mem_of_getElem? (i := 1) rfl)
theorem mx_X2_tryRows_51 : Cond.code yX3_windOn cX3_windOn 2 (some .int) ∈ wsX2_tryRows := mb_X2_tryRows_wsX2_tryRows_r3 (List.mem_of_getElem? (i := 2) rfl)
theorem mx_X2_tryRows_52 : Cond.methodLink RX3 90 yX3_passSound ∈ wsX2_tryRows := mb_X2_tryRows_wsX2_tryRows_r3 (List.mem_of_getElem? (i := 3) rfl)
theorem mx_X2_tryRows_53 : Cond.instanceMethod yX3_passSound ∈ wsX2_tryRows := mb_X2_tryRows_wsX2_tryRows_r3 (List.mem_of_getElem? (i := 4) rfl)
theorem mx_X2_tryRows_54 : Cond.selects RX3 yX3_passSound yX3_passSound ∈ wsX2_tryRows := mb_X2_tryRows_wsX2_tryRows_r3 (List.mem_of_getElem? (i := 5) rfl)
theorem mx_X2_tryRows_55 : Cond.code yX3_passSound cX3_passSound 5 none ∈ wsX2_tryRows := mb_X2_tryRows_wsX2_tryRows_r3 (List.mem_of_getElem? (i := 6) rfl)
theorem mx_X2_tryRows_56 : Cond.methodLink RX3 63 Lib.Math.min.name ∈ wsX2_tryRows := mb_X2_tryRows_wsX2_tryRows_r3 (List.mem_of_getElem? (i := 7) rfl)
theorem mx_X2_tryRows_57 : Cond.static Lib.Math.min.name ∈ wsX2_tryRows := mb_X2_tryRows_wsX2_tryRows_r3 (List.mem_of_getElem? (i := 8) rfl)
theorem mx_X2_tryRows_58 : Cond.initialized "java/lang/Math" ∈ wsX2_tryRows := mb_X2_tryRows_wsX2_tryRows_r3 (List.mem_of_getElem? (i := 9) rfl)
theorem mx_X2_tryRows_59 : Cond.code Lib.Math.min.name Lib.Math.min.code 2 (some .int) ∈ wsX2_tryRows := mb_X2_tryRows_wsX2_tryRows_r3 (List.mem_of_getElem? (i := 10) rfl)
theorem mx_X2_tryRows_60 : Cond.methodLink RX3 58 yX3_isLoose ∈ wsX2_tryRows := mb_X2_tryRows_wsX2_tryRows_r3 (List.mem_of_getElem? (i := 11) rfl)
theorem mx_X2_tryRows_61 : Cond.instanceMethod yX3_isLoose ∈ wsX2_tryRows := mb_X2_tryRows_wsX2_tryRows_r3 (List.mem_of_getElem? (i := 12) rfl)
theorem mx_X2_tryRows_62 : Cond.selects RX3 yX3_isLoose yX3_isLoose ∈ wsX2_tryRows := mb_X2_tryRows_wsX2_tryRows_r3 (List.mem_of_getElem? (i := 13) rfl)
theorem mx_X2_tryRows_63 : Cond.code yX3_isLoose cX3_isLoose 2 (some .boolean) ∈ wsX2_tryRows := mb_X2_tryRows_wsX2_tryRows_r3 (List.mem_of_getElem? (i := 14) rfl)
theorem mx_X2_tryRows_64 : Cond.methodLink RX3 69 yX3_driftOf ∈ wsX2_tryRows := mb_X2_tryRows_wsX2_tryRows_r3 (List.mem_of_getElem? (i := 15) rfl)
theorem mx_X2_tryRows_65 : Cond.instanceMethod yX3_driftOf ∈ wsX2_tryRows := mb_X2_tryRows_wsX2_tryRows_r3 (List.mem_of_getElem? (i := 16) rfl)
theorem mx_X2_tryRows_66 : Cond.selects RX3 yX3_driftOf yX3_driftOf ∈ wsX2_tryRows := mb_X2_tryRows_wsX2_tryRows_r3 (List.mem_of_getElem? (i := 17) rfl)
theorem mx_X2_tryRows_67 : Cond.code yX3_driftOf cX3_driftOf 4 (some .int) ∈ wsX2_tryRows := mb_X2_tryRows_wsX2_tryRows_r3 (List.mem_of_getElem? (i := 18) rfl)
theorem mx_X2_tryRows_68 : Cond.methodLink RX3 72 yX3_loudBehindHour ∈ wsX2_tryRows := mb_X2_tryRows_wsX2_tryRows_r3 (List.mem_of_getElem? (i := 19) rfl)
theorem mx_X2_tryRows_69 : Cond.instanceMethod yX3_loudBehindHour ∈ wsX2_tryRows := mb_X2_tryRows_wsX2_tryRows_r3 (List.mem_of_getElem? (i := 20) rfl)
theorem mx_X2_tryRows_70 : Cond.selects RX3 yX3_loudBehindHour yX3_loudBehindHour ∈ wsX2_tryRows := mb_X2_tryRows_wsX2_tryRows_r3 (List.mem_of_getElem? (i := 21) rfl)
theorem mx_X2_tryRows_71 : Cond.code yX3_loudBehindHour cX3_loudBehindHour 2 (some .int) ∈ wsX2_tryRows := mb_X2_tryRows_wsX2_tryRows_r3 (List.mem_of_getElem? (i := 22) rfl)
theorem mx_X2_tryRows_72 : Cond.methodLink RX3 76 yX3_hasCell ∈ wsX2_tryRows := mb_X2_tryRows_wsX2_tryRows_r3 (List.mem_of_getElem? (i := 23) rfl)
theorem mb_X2_tryRows_wsX2_tryRows_r4 {w : Cond} (h : w ∈ wsX2_tryRows_r4) : w ∈ wsX2_tryRows := by unfold wsX2_tryRows; exact List.mem_cons_of_mem _ (List.mem_append_left _ (List.mem_append_left _ (List.mem_append_right _ (List.mem_append_right _ (List.mem_append_right _ (h))))))
theorem mx_X2_tryRows_73 : Cond.instanceMethod yX3_hasCell ∈ wsX2_tryRows := mb_X2_tryRows_wsX2_tryRows_r4 (List.mem_of_getElem? (i := 0) rfl)
theorem mx_X2_tryRows_74 : Cond.selects RX3 yX3_hasCell yX3_hasCell ∈ wsX2_tryRows := mb_X2_tryRows_wsX2_tryRows_r4 (List.mem_of_getElem? (i := 1) rfl)
theorem mx_X2_tryRows_75 : Cond.code yX3_hasCell cX3_hasCell 2 (some .boolean) ∈ wsX2_tryRows := mb_X2_tryRows_wsX2_tryRows_r4 (List.mem_of_getElem? (i := 2) rfl)
theorem mx_X2_tryRows_76 : Cond.methodLink RX3 79 yX3_letLoose ∈ wsX2_tryRows := mb_X2_tryRows_wsX2_tryRows_r4 (List.mem_of_getElem? (i := 3) rfl)
theorem mx_X2_tryRows_77 : Cond.instanceMethod yX3_letLoose ∈ wsX2_tryRows := mb_X2_tryRows_wsX2_tryRows_r4 (List.mem_of_getElem? (i := 4) rfl)
theorem mx_X2_tryRows_78 : Cond.selects RX3 yX3_letLoose yX3_letLoose ∈ wsX2_tryRows := mb_X2_tryRows_wsX2_tryRows_r4 (List.mem_of_getElem? (i := 5) rfl)
theorem mx_X2_tryRows_79 : Cond.code yX3_letLoose cX3_letLoose 4 none ∈ wsX2_tryRows := mb_X2_tryRows_wsX2_tryRows_r4 (List.mem_of_getElem? (i := 6) rfl)
theorem mx_X2_tryRows_80 : Cond.methodLink RX3 83 yX3_grindsAt ∈ wsX2_tryRows := mb_X2_tryRows_wsX2_tryRows_r4 (List.mem_of_getElem? (i := 7) rfl)
theorem mx_X2_tryRows_81 : Cond.instanceMethod yX3_grindsAt ∈ wsX2_tryRows := mb_X2_tryRows_wsX2_tryRows_r4 (List.mem_of_getElem? (i := 8) rfl)
theorem mx_X2_tryRows_82 : Cond.selects RX3 yX3_grindsAt yX3_grindsAt ∈ wsX2_tryRows := mb_X2_tryRows_wsX2_tryRows_r4 (List.mem_of_getElem? (i := 9) rfl)
theorem mx_X2_tryRows_83 : Cond.code yX3_grindsAt cX3_grindsAt 4 (some .boolean) ∈ wsX2_tryRows := mb_X2_tryRows_wsX2_tryRows_r4 (List.mem_of_getElem? (i := 10) rfl)
theorem mx_X2_tryRows_84 : Cond.methodLink RX2 38 yX2_tryRows ∈ wsX2_tryRows := mb_X2_tryRows_wsX2_tryRows_r4 (List.mem_of_getElem? (i := 11) rfl)
theorem mx_X2_tryRows_85 : Cond.instanceMethod yX2_tryRows ∈ wsX2_tryRows := mb_X2_tryRows_wsX2_tryRows_r4 (List.mem_of_getElem? (i := 12) rfl)
theorem mx_X2_tryRows_86 : Cond.selects RX2 yX2_tryRows yX2_tryRows ∈ wsX2_tryRows := mb_X2_tryRows_wsX2_tryRows_r4 (List.mem_of_getElem? (i := 13) rfl)
theorem ggX2_tryRows_X2_tryRows : GoodIn wsX2_tryRows wsX2_tryRows := goodIn_sub (by unfold wsX2_tryRows; exact List.forall_mem_cons.mpr ⟨mx_X2_tryRows_0, List.forall_mem_append.mpr ⟨List.forall_mem_append.mpr ⟨List.forall_mem_append.mpr ⟨(by unfold wsX2_tryRows_r1; exact List.forall_mem_cons.mpr ⟨mx_X2_tryRows_1, List.forall_mem_cons.mpr ⟨mx_X2_tryRows_2, List.forall_mem_cons.mpr ⟨mx_X2_tryRows_3, List.forall_mem_cons.mpr ⟨mx_X2_tryRows_4, List.forall_mem_cons.mpr ⟨mx_X2_tryRows_5, List.forall_mem_cons.mpr ⟨mx_X2_tryRows_6, List.forall_mem_cons.mpr ⟨mx_X2_tryRows_7, List.forall_mem_cons.mpr ⟨mx_X2_tryRows_8, List.forall_mem_cons.mpr ⟨mx_X2_tryRows_9, List.forall_mem_cons.mpr ⟨mx_X2_tryRows_10, List.forall_mem_cons.mpr ⟨mx_X2_tryRows_11, List.forall_mem_cons.mpr ⟨mx_X2_tryRows_12, List.forall_mem_cons.mpr ⟨mx_X2_tryRows_13, List.forall_mem_cons.mpr ⟨mx_X2_tryRows_14, List.forall_mem_cons.mpr ⟨mx_X2_tryRows_15, List.forall_mem_cons.mpr ⟨mx_X2_tryRows_16, List.forall_mem_cons.mpr ⟨mx_X2_tryRows_17, List.forall_mem_cons.mpr ⟨mx_X2_tryRows_18, List.forall_mem_cons.mpr ⟨mx_X2_tryRows_19, List.forall_mem_cons.mpr ⟨mx_X2_tryRows_20, List.forall_mem_cons.mpr ⟨mx_X2_tryRows_21, List.forall_mem_cons.mpr ⟨mx_X2_tryRows_22, List.forall_mem_cons.mpr ⟨mx_X2_tryRows_23, List.forall_mem_cons.mpr ⟨mx_X2_tryRows_24, fun _ h_ => absurd h_ List.not_mem_nil⟩⟩⟩⟩⟩⟩⟩⟩⟩⟩⟩⟩⟩⟩⟩⟩⟩⟩⟩⟩⟩⟩⟩⟩), List.forall_mem_append.mpr ⟨(by unfold wsX2_tryRows_r2; exact List.forall_mem_cons.mpr ⟨mx_X2_tryRows_25, List.forall_mem_cons.mpr ⟨mx_X2_tryRows_26, List.forall_mem_cons.mpr ⟨mx_X2_tryRows_27, List.forall_mem_cons.mpr ⟨mx_X2_tryRows_28, List.forall_mem_cons.mpr ⟨mx_X2_tryRows_29, List.forall_mem_cons.mpr ⟨mx_X2_tryRows_30, List.forall_mem_cons.mpr ⟨mx_X2_tryRows_31, List.forall_mem_cons.mpr ⟨mx_X2_tryRows_32, List.forall_mem_cons.mpr ⟨mx_X2_tryRows_33, List.forall_mem_cons.mpr ⟨mx_X2_tryRows_34, List.forall_mem_cons.mpr ⟨mx_X2_tryRows_35, List.forall_mem_cons.mpr ⟨mx_X2_tryRows_36, List.forall_mem_cons.mpr ⟨mx_X2_tryRows_37, List.forall_mem_cons.mpr ⟨mx_X2_tryRows_38, List.forall_mem_cons.mpr ⟨mx_X2_tryRows_39, List.forall_mem_cons.mpr ⟨mx_X2_tryRows_40, List.forall_mem_cons.mpr ⟨mx_X2_tryRows_41, List.forall_mem_cons.mpr ⟨mx_X2_tryRows_42, List.forall_mem_cons.mpr ⟨mx_X2_tryRows_43, List.forall_mem_cons.mpr ⟨mx_X2_tryRows_44, List.forall_mem_cons.mpr ⟨mx_X2_tryRows_45, List.forall_mem_cons.mpr ⟨mx_X2_tryRows_46, List.forall_mem_cons.mpr ⟨mx_X2_tryRows_47, List.forall_mem_cons.mpr ⟨mx_X2_tryRows_48, fun _ h_ => absurd h_ List.not_mem_nil⟩⟩⟩⟩⟩⟩⟩⟩⟩⟩⟩⟩⟩⟩⟩⟩⟩⟩⟩⟩⟩⟩⟩⟩), List.forall_mem_append.mpr ⟨(by unfold wsX2_tryRows_r3; exact List.forall_mem_cons.mpr ⟨mx_X2_tryRows_49, List.forall_mem_cons.mpr ⟨mx_X2_tryRows_50, List.forall_mem_cons.mpr ⟨mx_X2_tryRows_51, List.forall_mem_cons.mpr ⟨mx_X2_tryRows_52, List.forall_mem_cons.mpr ⟨mx_X2_tryRows_53, List.forall_mem_cons.mpr ⟨mx_X2_tryRows_54, List.forall_mem_cons.mpr ⟨mx_X2_tryRows_55, List.forall_mem_cons.mpr ⟨mx_X2_tryRows_56, List.forall_mem_cons.mpr ⟨mx_X2_tryRows_57, List.forall_mem_cons.mpr ⟨mx_X2_tryRows_58, List.forall_mem_cons.mpr ⟨mx_X2_tryRows_59, List.forall_mem_cons.mpr ⟨mx_X2_tryRows_60, List.forall_mem_cons.mpr ⟨mx_X2_tryRows_61, List.forall_mem_cons.mpr ⟨mx_X2_tryRows_62, List.forall_mem_cons.mpr ⟨mx_X2_tryRows_63, List.forall_mem_cons.mpr ⟨mx_X2_tryRows_64, List.forall_mem_cons.mpr ⟨mx_X2_tryRows_65, List.forall_mem_cons.mpr ⟨mx_X2_tryRows_66, List.forall_mem_cons.mpr ⟨mx_X2_tryRows_67, List.forall_mem_cons.mpr ⟨mx_X2_tryRows_68, List.forall_mem_cons.mpr ⟨mx_X2_tryRows_69, List.forall_mem_cons.mpr ⟨mx_X2_tryRows_70, List.forall_mem_cons.mpr ⟨mx_X2_tryRows_71, List.forall_mem_cons.mpr ⟨mx_X2_tryRows_72, fun _ h_ => absurd h_ List.not_mem_nil⟩⟩⟩⟩⟩⟩⟩⟩⟩⟩⟩⟩⟩⟩⟩⟩⟩⟩⟩⟩⟩⟩⟩⟩), (by unfold wsX2_tryRows_r4; exact List.forall_mem_cons.mpr ⟨mx_X2_tryRows_73, List.forall_mem_cons.mpr ⟨mx_X2_tryRows_74, List.forall_mem_cons.mpr ⟨mx_X2_tryRows_75, List.forall_mem_cons.mpr ⟨mx_X2_tryRows_76, List.forall_mem_cons.mpr ⟨mx_X2_tryRows_77, List.forall_mem_cons.mpr ⟨mx_X2_tryRows_78, List.forall_mem_cons.mpr ⟨mx_X2_tryRows_79, List.forall_mem_cons.mpr ⟨mx_X2_tryRows_80, List.forall_mem_cons.mpr ⟨mx_X2_tryRows_81, List.forall_mem_cons.mpr ⟨mx_X2_tryRows_82, List.forall_mem_cons.mpr ⟨mx_X2_tryRows_83, List.forall_mem_cons.mpr ⟨mx_X2_tryRows_84, List.forall_mem_cons.mpr ⟨mx_X2_tryRows_85, List.forall_mem_cons.mpr ⟨mx_X2_tryRows_86, fun _ h_ => absurd h_ List.not_mem_nil⟩⟩⟩⟩⟩⟩⟩⟩⟩⟩⟩⟩⟩⟩)⟩⟩⟩, (fun _ h_ => mb_X2_tryRows_wsX20 h_)⟩, (fun _ h_ => mb_X2_tryRows_wsX30 h_)⟩⟩) (by decide +kernel)
theorem gX2_tryRows_X2_tryRows : GoodIn wsX2_tryRows (wsV RX2 38 RX2 yX2_tryRows wsX2_tryRows) := goodIn_app (goodIn_sub (List.forall_mem_cons.mpr ⟨mx_X2_tryRows_84, List.forall_mem_cons.mpr ⟨mx_X2_tryRows_85, List.forall_mem_cons.mpr ⟨mx_X2_tryRows_86, List.forall_mem_cons.mpr ⟨mx_X2_tryRows_7, fun _ h_ => absurd h_ List.not_mem_nil⟩⟩⟩⟩) (by decide +kernel)) ggX2_tryRows_X2_tryRows
theorem ggX2_tryRows_X3_becomeLike : GoodIn wsX2_tryRows wsX3_becomeLike := goodIn_sub (by unfold wsX3_becomeLike; exact List.forall_mem_cons.mpr ⟨mx_X2_tryRows_28, List.forall_mem_append.mpr ⟨List.forall_mem_cons.mpr ⟨mx_X2_tryRows_29, List.forall_mem_cons.mpr ⟨mx_X2_tryRows_30, List.forall_mem_cons.mpr ⟨mx_X2_tryRows_31, List.forall_mem_cons.mpr ⟨mx_X2_tryRows_32, List.forall_mem_cons.mpr ⟨mx_X2_tryRows_33, List.forall_mem_cons.mpr ⟨mx_X2_tryRows_34, List.forall_mem_cons.mpr ⟨mx_X2_tryRows_35, List.forall_mem_cons.mpr ⟨mx_X2_tryRows_23, List.forall_mem_cons.mpr ⟨mx_X2_tryRows_36, List.forall_mem_cons.mpr ⟨mx_X2_tryRows_37, List.forall_mem_cons.mpr ⟨mx_X2_tryRows_38, List.forall_mem_cons.mpr ⟨mx_X2_tryRows_39, List.forall_mem_cons.mpr ⟨mx_X2_tryRows_40, List.forall_mem_cons.mpr ⟨mx_X2_tryRows_41, List.forall_mem_cons.mpr ⟨mx_X2_tryRows_42, List.forall_mem_cons.mpr ⟨mx_X2_tryRows_43, List.forall_mem_cons.mpr ⟨mx_X2_tryRows_24, fun _ h_ => absurd h_ List.not_mem_nil⟩⟩⟩⟩⟩⟩⟩⟩⟩⟩⟩⟩⟩⟩⟩⟩⟩, (fun _ h_ => mb_X2_tryRows_wsX30 h_)⟩⟩) (by decide +kernel)
theorem gX2_tryRows_X3_becomeLike : GoodIn wsX2_tryRows (wsV RX2 34 RX3 yX3_becomeLike wsX3_becomeLike) := goodIn_app (goodIn_sub (List.forall_mem_cons.mpr ⟨mx_X2_tryRows_25, List.forall_mem_cons.mpr ⟨mx_X2_tryRows_26, List.forall_mem_cons.mpr ⟨mx_X2_tryRows_27, List.forall_mem_cons.mpr ⟨mx_X2_tryRows_21, fun _ h_ => absurd h_ List.not_mem_nil⟩⟩⟩⟩) (by decide +kernel)) ggX2_tryRows_X3_becomeLike
theorem ggX2_tryRows_X3_pass : GoodIn wsX2_tryRows wsX3_pass := goodIn_sub (by unfold wsX3_pass; exact List.forall_mem_cons.mpr ⟨mx_X2_tryRows_47, List.forall_mem_append.mpr ⟨List.forall_mem_append.mpr ⟨(by unfold wsX3_pass_r1; exact List.forall_mem_cons.mpr ⟨mx_X2_tryRows_23, List.forall_mem_cons.mpr ⟨mx_X2_tryRows_33, List.forall_mem_cons.mpr ⟨mx_X2_tryRows_48, List.forall_mem_cons.mpr ⟨mx_X2_tryRows_49, List.forall_mem_cons.mpr ⟨mx_X2_tryRows_50, List.forall_mem_cons.mpr ⟨mx_X2_tryRows_21, List.forall_mem_cons.mpr ⟨mx_X2_tryRows_51, List.forall_mem_cons.mpr ⟨mx_X2_tryRows_35, List.forall_mem_cons.mpr ⟨mx_X2_tryRows_36, List.forall_mem_cons.mpr ⟨mx_X2_tryRows_52, List.forall_mem_cons.mpr ⟨mx_X2_tryRows_53, List.forall_mem_cons.mpr ⟨mx_X2_tryRows_54, List.forall_mem_cons.mpr ⟨mx_X2_tryRows_55, List.forall_mem_cons.mpr ⟨mx_X2_tryRows_42, List.forall_mem_cons.mpr ⟨mx_X2_tryRows_24, List.forall_mem_cons.mpr ⟨mx_X2_tryRows_34, List.forall_mem_cons.mpr ⟨mx_X2_tryRows_56, List.forall_mem_cons.mpr ⟨mx_X2_tryRows_57, List.forall_mem_cons.mpr ⟨mx_X2_tryRows_58, List.forall_mem_cons.mpr ⟨mx_X2_tryRows_59, List.forall_mem_cons.mpr ⟨mx_X2_tryRows_60, List.forall_mem_cons.mpr ⟨mx_X2_tryRows_61, List.forall_mem_cons.mpr ⟨mx_X2_tryRows_62, List.forall_mem_cons.mpr ⟨mx_X2_tryRows_63, fun _ h_ => absurd h_ List.not_mem_nil⟩⟩⟩⟩⟩⟩⟩⟩⟩⟩⟩⟩⟩⟩⟩⟩⟩⟩⟩⟩⟩⟩⟩⟩), List.forall_mem_append.mpr ⟨(by unfold wsX3_pass_r2; exact List.forall_mem_cons.mpr ⟨mx_X2_tryRows_64, List.forall_mem_cons.mpr ⟨mx_X2_tryRows_65, List.forall_mem_cons.mpr ⟨mx_X2_tryRows_66, List.forall_mem_cons.mpr ⟨mx_X2_tryRows_67, List.forall_mem_cons.mpr ⟨mx_X2_tryRows_41, List.forall_mem_cons.mpr ⟨mx_X2_tryRows_68, List.forall_mem_cons.mpr ⟨mx_X2_tryRows_69, List.forall_mem_cons.mpr ⟨mx_X2_tryRows_70, List.forall_mem_cons.mpr ⟨mx_X2_tryRows_71, List.forall_mem_cons.mpr ⟨mx_X2_tryRows_43, List.forall_mem_cons.mpr ⟨mx_X2_tryRows_72, List.forall_mem_cons.mpr ⟨mx_X2_tryRows_73, List.forall_mem_cons.mpr ⟨mx_X2_tryRows_74, List.forall_mem_cons.mpr ⟨mx_X2_tryRows_75, List.forall_mem_cons.mpr ⟨mx_X2_tryRows_29, List.forall_mem_cons.mpr ⟨mx_X2_tryRows_76, List.forall_mem_cons.mpr ⟨mx_X2_tryRows_77, List.forall_mem_cons.mpr ⟨mx_X2_tryRows_78, List.forall_mem_cons.mpr ⟨mx_X2_tryRows_79, List.forall_mem_cons.mpr ⟨mx_X2_tryRows_80, List.forall_mem_cons.mpr ⟨mx_X2_tryRows_81, List.forall_mem_cons.mpr ⟨mx_X2_tryRows_82, List.forall_mem_cons.mpr ⟨mx_X2_tryRows_83, List.forall_mem_cons.mpr ⟨mx_X2_tryRows_32, fun _ h_ => absurd h_ List.not_mem_nil⟩⟩⟩⟩⟩⟩⟩⟩⟩⟩⟩⟩⟩⟩⟩⟩⟩⟩⟩⟩⟩⟩⟩⟩), (by unfold wsX3_pass_r3; exact List.forall_mem_cons.mpr ⟨mx_X2_tryRows_30, List.forall_mem_cons.mpr ⟨mx_X2_tryRows_31, fun _ h_ => absurd h_ List.not_mem_nil⟩⟩)⟩⟩, (fun _ h_ => mb_X2_tryRows_wsX30 h_)⟩⟩) (by decide +kernel)
theorem gX2_tryRows_X3_pass : GoodIn wsX2_tryRows (wsV RX2 49 RX3 yX3_pass wsX3_pass) := goodIn_app (goodIn_sub (List.forall_mem_cons.mpr ⟨mx_X2_tryRows_44, List.forall_mem_cons.mpr ⟨mx_X2_tryRows_45, List.forall_mem_cons.mpr ⟨mx_X2_tryRows_46, List.forall_mem_cons.mpr ⟨mx_X2_tryRows_21, fun _ h_ => absurd h_ List.not_mem_nil⟩⟩⟩⟩) (by decide +kernel)) ggX2_tryRows_X3_pass
theorem mx_X2_worthOf_7 : Cond.code yX3_soundsThatAre cX3_soundsThatAre 4 (some .int) ∈ wsX2_worthOf := by unfold wsX2_worthOf; exact List.mem_cons_of_mem _ (List.mem_append_left _ (List.mem_append_left _ (List.mem_of_getElem? (i := 6) rfl)))
theorem mx_X2_worthOf_8 : Cond.fieldLink RX3 49 "MillTalk$Level" "soundCount" "I" ∈ wsX2_worthOf := by unfold wsX2_worthOf; exact List.mem_cons_of_mem _ (List.mem_append_left _ (List.mem_append_left _ (List.mem_of_getElem? (i := 7) rfl)))
theorem mx_X2_worthOf_9 : Cond.fieldLink RX3 24 "MillTalk$Level" "hows" "[I" ∈ wsX2_worthOf := by unfold wsX2_worthOf; exact List.mem_cons_of_mem _ (List.mem_append_left _ (List.mem_append_left _ (List.mem_of_getElem? (i := 8) rfl)))
theorem mb_X2_worthOf_wsX30 {w : Cond} (h : w ∈ wsX30) : w ∈ wsX2_worthOf := by unfold wsX2_worthOf; exact List.mem_cons_of_mem _ (List.mem_append_right _ (h))
theorem ggX2_worthOf_X3_soundsThatAre : GoodIn wsX2_worthOf wsX3_soundsThatAre := goodIn_sub (by unfold wsX3_soundsThatAre; exact List.forall_mem_cons.mpr ⟨mx_X2_worthOf_7, List.forall_mem_append.mpr ⟨List.forall_mem_cons.mpr ⟨mx_X2_worthOf_8, List.forall_mem_cons.mpr ⟨mx_X2_worthOf_9, fun _ h_ => absurd h_ List.not_mem_nil⟩⟩, (fun _ h_ => mb_X2_worthOf_wsX30 h_)⟩⟩) (by decide +kernel)
theorem mx_X2_worthOf_3 : Cond.methodLink RX2 59 yX3_soundsThatAre ∈ wsX2_worthOf := by unfold wsX2_worthOf; exact List.mem_cons_of_mem _ (List.mem_append_left _ (List.mem_append_left _ (List.mem_of_getElem? (i := 2) rfl)))
theorem mx_X2_worthOf_4 : Cond.instanceMethod yX3_soundsThatAre ∈ wsX2_worthOf := by unfold wsX2_worthOf; exact List.mem_cons_of_mem _ (List.mem_append_left _ (List.mem_append_left _ (List.mem_of_getElem? (i := 3) rfl)))
theorem mx_X2_worthOf_5 : Cond.selects RX3 yX3_soundsThatAre yX3_soundsThatAre ∈ wsX2_worthOf := by unfold wsX2_worthOf; exact List.mem_cons_of_mem _ (List.mem_append_left _ (List.mem_append_left _ (List.mem_of_getElem? (i := 4) rfl)))
theorem mx_X2_worthOf_6 : Cond.initialized RX3 ∈ wsX2_worthOf := by unfold wsX2_worthOf; exact List.mem_cons_of_mem _ (List.mem_append_left _ (List.mem_append_left _ (List.mem_of_getElem? (i := 5) rfl)))
theorem gX2_worthOf_X3_soundsThatAre : GoodIn wsX2_worthOf (wsV RX2 59 RX3 yX3_soundsThatAre wsX3_soundsThatAre) := goodIn_app (goodIn_sub (List.forall_mem_cons.mpr ⟨mx_X2_worthOf_3, List.forall_mem_cons.mpr ⟨mx_X2_worthOf_4, List.forall_mem_cons.mpr ⟨mx_X2_worthOf_5, List.forall_mem_cons.mpr ⟨mx_X2_worthOf_6, fun _ h_ => absurd h_ List.not_mem_nil⟩⟩⟩⟩) (by decide +kernel)) ggX2_worthOf_X3_soundsThatAre
theorem mb_X2_bestCap_wsX20 {w : Cond} (h : w ∈ wsX20) : w ∈ wsX2_bestCap := by unfold wsX2_bestCap; exact List.mem_cons_of_mem _ (List.mem_append_right _ (h))
theorem i_X2_bestCap_X2 : ∀ w ∈ u_ws RX2 TX2 6, w ∈ wsX2_bestCap := fun _ h_ => mb_X2_bestCap_wsX20 h_
theorem i_X2_judge_X2 : ∀ w ∈ u_ws RX2 TX2 6, w ∈ wsX2_judge := fun _ h_ => mb_X2_judge_wsX20 h_
theorem i_X2_search_X2 : ∀ w ∈ u_ws RX2 TX2 6, w ∈ wsX2_search := fun _ h_ => mb_X2_search_wsX20 h_
theorem i_X2_tryRows_X2 : ∀ w ∈ u_ws RX2 TX2 6, w ∈ wsX2_tryRows := fun _ h_ => mb_X2_tryRows_wsX20 h_
theorem i_X2_tryRows_X3 : ∀ w ∈ u_ws RX3 TX3 13, w ∈ wsX2_tryRows := fun _ h_ => mb_X2_tryRows_wsX30 h_
theorem mb_X2_worthOf_wsX20 {w : Cond} (h : w ∈ wsX20) : w ∈ wsX2_worthOf := by unfold wsX2_worthOf; exact List.mem_cons_of_mem _ (List.mem_append_left _ (List.mem_append_right _ (h)))
theorem i_X2_worthOf_X2 : ∀ w ∈ u_ws RX2 TX2 6, w ∈ wsX2_worthOf := fun _ h_ => mb_X2_worthOf_wsX20 h_
theorem i_X2_worthOf_X3 : ∀ w ∈ u_ws RX3 TX3 13, w ∈ wsX2_worthOf := fun _ h_ => mb_X2_worthOf_wsX30 h_
theorem mx_X2_bestCap_1 : Cond.fieldLink RX2 25 "MillTalk$CapSearch" "bestRow" "I" ∈ wsX2_bestCap := by unfold wsX2_bestCap; exact List.mem_cons_of_mem _ (List.mem_append_left _ (List.mem_of_getElem? (i := 0) rfl))
theorem mx_X2_bestCap_2 : Cond.fieldLink RX2 18 "MillTalk$CapSearch" "hours" "I" ∈ wsX2_bestCap := by unfold wsX2_bestCap; exact List.mem_cons_of_mem _ (List.mem_append_left _ (List.mem_of_getElem? (i := 1) rfl))
theorem mx_X2_worthOf_1 : Cond.fieldLink RX2 22 "MillTalk$CapSearch" "wanted" "I" ∈ wsX2_worthOf := by unfold wsX2_worthOf; exact List.mem_cons_of_mem _ (List.mem_append_left _ (List.mem_append_left _ (List.mem_of_getElem? (i := 0) rfl)))
theorem mx_X2_worthOf_2 : Cond.fieldLink RX2 56 "MillTalk$Level" "meal" "I" ∈ wsX2_worthOf := by unfold wsX2_worthOf; exact List.mem_cons_of_mem _ (List.mem_append_left _ (List.mem_append_left _ (List.mem_of_getElem? (i := 1) rfl)))
theorem mx_X2_judge_1 : Cond.fieldLink RX2 28 "MillTalk$CapSearch" "bestWorth" "I" ∈ wsX2_judge := by unfold wsX2_judge; exact List.mem_cons_of_mem _ (List.mem_append_left _ (List.mem_append_left _ (List.mem_of_getElem? (i := 0) rfl)))
theorem mx_X2_judge_2 : Cond.fieldLink RX2 31 "MillTalk$CapSearch" "bestTurns" "I" ∈ wsX2_judge := by unfold wsX2_judge; exact List.mem_cons_of_mem _ (List.mem_append_left _ (List.mem_append_left _ (List.mem_of_getElem? (i := 1) rfl)))
theorem mx_X2_judge_3 : Cond.fieldLink RX2 25 "MillTalk$CapSearch" "bestRow" "I" ∈ wsX2_judge := by unfold wsX2_judge; exact List.mem_cons_of_mem _ (List.mem_append_left _ (List.mem_append_left _ (List.mem_of_getElem? (i := 2) rfl)))
-- 19.cap
theorem lf_X2_isLength_1 {n : Int32} (c_1 : n < 1) : (n < 1 ∨ 8 < n) := by
  grind
theorem lf_X2_isLength_2 {n : Int32} (c_1 : ¬ (n < 1)) (c_2 : 8 < n) : (n < 1 ∨ 8 < n) := by
  grind
theorem lf_X2_isLength_3 {n : Int32} (c_1 : ¬ (n < 1)) (c_2 : ¬ (8 < n)) : ¬ (n < 1 ∨ 8 < n) := by
  grind
set_option maxHeartbeats 4000000 in
set_option maxRecDepth 100000 in
theorem r_X2_isLength (l : Launch) (dC : Nat → ClassId) (dI : Nat → Nat → Nat) (cI cZ cL cJ : ClassId) (n : Int32)  : Met l yX2_isLength wsX2_isLength ({ frames := 0, cells := 0, slots := 0, locals := 0 }) (va_Pc [.int n] (fun U => va_P (dC, dI) vwCl [] U.heap ∧ va_K (dC, dI) vwCl [(cI, .int), (cZ, .boolean), (cL, .object RX3), (cJ, .array .int)] U)) (vp_Si (fun r => (r = 0 ∧ (n < 1 ∨ 8 < n)) ∨ (r = 1 ∧ vp_in n 9 ∧ ¬ (n < 1 ∨ 8 < n)))) 0 0 (fun _ => False) := by
  refine Met.ofW (cc := cX2_isLength) (maxL := 1) (ret := (some .boolean)) (by decide) rfl ?_
  intro p e s m args below meth c s₁ B hml hv
  obtain ⟨rfl, hP, hK⟩ := hv
  have hx := B.exec
  have hb := B.bytes
  have hr := B.returns
  have hts := atoms_spec (ws := wsX2_isLength) B.pre
  have hown : s.vm.findClass RX2 = some m.cls := findClass_of_methodNamed B.named
  have hlocks := B.notSynchronized
  have hP : va_P (dC, dI) vwCl [] s.heap := hP
  have hl := lv_entry ([.int n]) (n := 1) (Nat.le_of_ble_eq_true rfl)
  rw [lg_entry_eq]
  generalize (lg_sl ([.int n]) ++ List.replicate (1 - (lg_sl ([.int n])).length) Slot.unset).toArray = ls at hl ⊢
  have hl : lv_has ls 1 [(0, .int n)] := hl
  refine lv_iload_n hx hb dX2_isLength_0 rfl (lv_at hl 0 rfl) ?_
  refine lv_iconst (v := 1) hx hb dX2_isLength_1 (by decide) ?_
  refine lv_icmp_lt (tgt := 15) hx hb dX2_isLength_2 (by decide) (fun c_1 => ?_) (fun c_1 => ?_)
  · skip
    refine lv_iconst (v := 0) hx hb dX2_isLength_15 (by decide) ?_
    exact W.zret (v := 0) hx hb hr (by decide) (fun t ht hW => ⟨0, rfl, Or.inl ⟨rfl, (lf_X2_isLength_1 c_1)⟩, ht⟩) (fun _ h => by cases h) dX2_isLength_16
  · skip
    refine lv_iload_n hx hb dX2_isLength_5 rfl (lv_at hl 0 rfl) ?_
    refine lv_bipush (v := 8) hx hb dX2_isLength_6 (by decide) ?_
    refine lv_icmp_gt (tgt := 15) hx hb dX2_isLength_8 (by decide) (fun c_2 => ?_) (fun c_2 => ?_)
    · skip
      refine lv_iconst (v := 0) hx hb dX2_isLength_15 (by decide) ?_
      exact W.zret (v := 0) hx hb hr (by decide) (fun t ht hW => ⟨0, rfl, Or.inl ⟨rfl, (lf_X2_isLength_2 c_1 c_2)⟩, ht⟩) (fun _ h => by cases h) dX2_isLength_16
    · skip
      refine lv_iconst (v := 1) hx hb dX2_isLength_11 (by decide) ?_
      refine lv_goto (tgt := 16) hx hb dX2_isLength_12 (by decide) ?_
      exact W.zret (v := 1) hx hb hr (by decide) (fun t ht hW => ⟨1, rfl, Or.inr ⟨rfl, len_in c_1 c_2, (lf_X2_isLength_3 c_1 c_2)⟩, ht⟩) (fun _ h => by cases h) dX2_isLength_16
theorem lf_X2_bestCap_1 {hrs : Int32} {br : Int32} {n : Int32} {v_1 : Int32} {v_2 : Int32} {v_3 : Int32} {v_4 : Int32} (e_1 : v_1 = (hrs - 1)) (e_2 : v_2 = (v_1 - n)) (e_3 : v_3 = ((br : Int32) >>> ((v_2 : Int32) &&& 31))) (e_4 : v_4 = (v_3 &&& 1)) : v_4 = (bcX br hrs n) := by
  subst_vars; rfl
set_option maxHeartbeats 4000000 in
set_option maxRecDepth 100000 in
theorem r_X2_bestCap (l : Launch) (dC : Nat → ClassId) (dI : Nat → Nat → Nat) (cI cZ cL cJ : ClassId) (c0 : Nat) (be : Nat) (hrs : Int32) (wa : Int32) (br : Int32) (bw : Int32) (bt : Int32) (n : Int32)  : Met l yX2_bestCap wsX2_bestCap ({ frames := 0, cells := 0, slots := 0, locals := 0 }) (va_Pc [.ref c0, .int n] (fun U => va_P (dC, dI) vwCl [(xo_2_riiiii c0 be hrs wa br bw bt)] U.heap ∧ va_K (dC, dI) vwCl [(cI, .int), (cZ, .boolean), (cL, .object RX3), (cJ, .array .int)] U)) (vp_Si (fun r => r = (bcX br hrs n))) 0 0 (fun _ => False) := by
  refine Met.ofW (cc := cX2_bestCap) (maxL := 2) (ret := (some .int)) (by decide) rfl ?_
  intro p e s m args below meth c s₁ B hml hv
  obtain ⟨rfl, hP, hK⟩ := hv
  have hx := B.exec
  have hb := B.bytes
  have hr := B.returns
  have hts := atoms_spec (ws := wsX2_bestCap) B.pre
  have hown : s.vm.findClass RX2 = some m.cls := findClass_of_methodNamed B.named
  have hlocks := B.notSynchronized
  have hP : va_P (dC, dI) vwCl [(xo_2_riiiii c0 be hrs wa br bw bt)] s.heap := hP
  have hl := lv_entry ([.ref c0, .int n]) (n := 2) (Nat.le_of_ble_eq_true rfl)
  rw [lg_entry_eq]
  generalize (lg_sl ([.ref c0, .int n]) ++ List.replicate (2 - (lg_sl ([.ref c0, .int n])).length) Slot.unset).toArray = ls at hl ⊢
  have hl : lv_has ls 2 [(0, .ref c0), (1, .int n)] := hl
  refine lv_aload_n hx hb dX2_bestCap_0 rfl (lv_at hl 0 rfl) ?_
  refine va_get (D := (dC, dI)) (ci := 2) (v := .int br) (C := RX2) (T := TX2) (N := 6) hx hb hts i_X2_bestCap_X2 hown hK hP 0 rfl rfl 3 (by decide) (hts _ mx_X2_bestCap_1) (fun _ h9 => h9) rfl dX2_bestCap_1 ?_
  refine lv_aload_n hx hb dX2_bestCap_4 rfl (lv_at hl 0 rfl) ?_
  refine va_get (D := (dC, dI)) (ci := 2) (v := .int hrs) (C := RX2) (T := TX2) (N := 6) hx hb hts i_X2_bestCap_X2 hown hK hP 0 rfl rfl 1 (by decide) (hts _ mx_X2_bestCap_2) (fun _ h9 => h9) rfl dX2_bestCap_5 ?_
  refine lv_iconst (v := 1) hx hb dX2_bestCap_8 (by decide) ?_
  refine lv_isub hx hb dX2_bestCap_9 ?_
  refine lv_topi (fun v_1 e_1 => ?_)
  refine lv_iload_n hx hb dX2_bestCap_10 rfl (lv_at hl 1 rfl) ?_
  refine lv_isub hx hb dX2_bestCap_11 ?_
  refine lv_topi (fun v_2 e_2 => ?_)
  refine lv_ishr hx hb dX2_bestCap_12 ?_
  refine lv_topi (fun v_3 e_3 => ?_)
  refine lv_iconst (v := 1) hx hb dX2_bestCap_13 (by decide) ?_
  refine lv_iand hx hb dX2_bestCap_14 ?_
  refine lv_topi (fun v_4 e_4 => ?_)
  exact W.iret (v := v_4) hx hb hr (fun t ht hW => ⟨v_4, rfl, (lf_X2_bestCap_1 e_1 e_2 e_3 e_4), ht⟩) (fun _ h => by cases h) dX2_bestCap_15
theorem lf_X2_worthOf_1 {wa : Int32} {v5 : Int32} {hh : Nat} {ww : Nat} {kk : Nat} {g5 : Nat → Int32} {r_2 : Int32} {v_3 : Int32} {v_4 : Int32} (hhb : hh < 2000000000) (hww : ww ≤ 6) (hkk : kk ≤ 6) (c_1 : ¬ (wa = (-1))) (h_2 : r_2 = (thR g5 1 kk)) (e_3 : v_3 = (r_2 ^^^ (-1))) (e_4 : v_4 = (wa &&& v_3)) (c_5 : ¬ (v_4 = 0)) : 0 = (woX wa v5 (thR g5 1 kk)) := by
  simp only [woX]; grind
theorem lf_X2_worthOf_2 {wa : Int32} {v5 : Int32} {hh : Nat} {ww : Nat} {kk : Nat} {g5 : Nat → Int32} {r_2 : Int32} {v_3 : Int32} {v_4 : Int32} (hhb : hh < 2000000000) (hww : ww ≤ 6) (hkk : kk ≤ 6) (c_1 : ¬ (wa = (-1))) (h_2 : r_2 = (thR g5 1 kk)) (e_3 : v_3 = (r_2 ^^^ (-1))) (e_4 : v_4 = (wa &&& v_3)) (c_5 : v_4 = 0) : 1 = (woX wa v5 (thR g5 1 kk)) := by
  simp only [woX]; grind
theorem lf_X2_worthOf_3 {wa : Int32} {v5 : Int32} {hh : Nat} {ww : Nat} {kk : Nat} {g5 : Nat → Int32} (hhb : hh < 2000000000) (hww : ww ≤ 6) (hkk : kk ≤ 6) (c_1 : wa = (-1)) : v5 = (woX wa v5 (thR g5 1 kk)) := by
  simp only [woX]; grind
set_option maxHeartbeats 4000000 in
set_option maxRecDepth 100000 in
theorem r_X2_worthOf (l : Launch) (dC : Nat → ClassId) (dI : Nat → Nat → Nat) (cI cZ cL cJ : ClassId) (c0 : Nat) (be : Nat) (hrs : Int32) (wa : Int32) (br : Int32) (bw : Int32) (bt : Int32) (h : Nat) (v0 : Int32) (v1 : Int32) (v2 : Int32) (v3 : Int32) (v5 : Int32) (hh : Nat) (ww : Nat) (kk : Nat) (b1 : Nat) (b2 : Nat) (b3 : Nat) (b4 : Nat) (b5 : Nat) (g1 : Nat → Int32) (g2 : Nat → Int32) (g3 : Nat → Int32) (g4 : Nat → Int32) (g5 : Nat → Int32) (hhb : hh < 2000000000) (hww : ww ≤ 6) (hkk : kk ≤ 6) : Met l yX2_worthOf wsX2_worthOf ({ frames := 1, cells := 0, slots := 0, locals := 23 }) (va_Pc [.ref c0, .ref h] (fun U => va_P (dC, dI) vwCl [(xo_2_riiiii c0 be hrs wa br bw bt), (xo_3_iiiiiiiirrrrr h v0 v1 v2 v3 (nI hh) v5 (nI ww) (nI kk) b1 b2 b3 b4 b5), (xI b1 cI 6 g1), (xI b2 cI 6 g2), (xI b3 cI 6 g3), (xI b4 cI 6 g4), (xI b5 cI 6 g5)] U.heap ∧ va_K (dC, dI) vwCl [(cI, .int), (cZ, .boolean), (cL, .object RX3), (cJ, .array .int)] U)) (vp_Si (fun r => r = (woX wa v5 (thR g5 1 kk)))) 0 0 (fun _ => False) := by
  refine Met.ofW (cc := cX2_worthOf) (maxL := 2) (ret := (some .int)) (by decide) rfl ?_
  intro p e s m args below meth c s₁ B hml hv
  obtain ⟨rfl, hP, hK⟩ := hv
  have hx := B.exec
  have hb := B.bytes
  have hr := B.returns
  have hts := atoms_spec (ws := wsX2_worthOf) B.pre
  have hown : s.vm.findClass RX2 = some m.cls := findClass_of_methodNamed B.named
  have hlocks := B.notSynchronized
  have hP : va_P (dC, dI) vwCl [(xo_2_riiiii c0 be hrs wa br bw bt), (xo_3_iiiiiiiirrrrr h v0 v1 v2 v3 (nI hh) v5 (nI ww) (nI kk) b1 b2 b3 b4 b5), (xI b1 cI 6 g1), (xI b2 cI 6 g2), (xI b3 cI 6 g3), (xI b4 cI 6 g4), (xI b5 cI 6 g5)] s.heap := hP
  have hl := lv_entry ([.ref c0, .ref h]) (n := 2) (Nat.le_of_ble_eq_true rfl)
  rw [lg_entry_eq]
  generalize (lg_sl ([.ref c0, .ref h]) ++ List.replicate (2 - (lg_sl ([.ref c0, .ref h])).length) Slot.unset).toArray = ls at hl ⊢
  have hl : lv_has ls 2 [(0, .ref c0), (1, .ref h)] := hl
  refine lv_aload_n hx hb dX2_worthOf_0 rfl (lv_at hl 0 rfl) ?_
  refine va_get (D := (dC, dI)) (ci := 2) (v := .int wa) (C := RX2) (T := TX2) (N := 6) hx hb hts i_X2_worthOf_X2 hown hK hP 0 rfl rfl 2 (by decide) (hts _ mx_X2_worthOf_1) (fun _ h9 => h9) rfl dX2_worthOf_1 ?_
  refine lv_iconst (v := (-1)) hx hb dX2_worthOf_4 (by decide) ?_
  refine lv_icmp_ne (tgt := 13) hx hb dX2_worthOf_5 (by decide) (fun c_1 => ?_) (fun c_1 => ?_)
  · skip
    refine lv_aload_n hx hb dX2_worthOf_13 rfl (lv_at hl 0 rfl) ?_
    refine va_get (D := (dC, dI)) (ci := 2) (v := .int wa) (C := RX2) (T := TX2) (N := 6) hx hb hts i_X2_worthOf_X2 hown hK hP 0 rfl rfl 2 (by decide) (hts _ mx_X2_worthOf_1) (fun _ h9 => h9) rfl dX2_worthOf_14 ?_
    refine lv_aload_n hx hb dX2_worthOf_17 rfl (lv_at hl 1 rfl) ?_
    refine lv_iconst (v := 1) hx hb dX2_worthOf_18 (by decide) ?_
    have hPc_2 := hP.sub (ws' := [(xo_3_iiiiiiiirrrrr h v0 v1 v2 v3 (nI hh) v5 (nI ww) (nI kk) b1 b2 b3 b4 b5), (xI b1 cI 6 g1), (xI b2 cI 6 g2), (xI b3 cI 6 g3), (xI b4 cI 6 g4), (xI b5 cI 6 g5)]) [1, 2, 3, 4, 5, 6] rfl
    refine vp_callSi (W.runV (As := [.int 1]) (rest := [.int wa]) ⟨hx, hb, hml, hown, hts⟩ (r_X3_soundsThatAre l dC dI cI cZ cL cJ h v0 v1 v2 v3 v5 hh ww kk b1 b2 b3 b4 b5 g1 g2 g3 g4 g5 1 (hhb) (hww) (hkk)) (cwV 1 hts gX2_worthOf_X3_soundsThatAre rfl rfl rfl (by decide +kernel) ⟨Nat.le_of_ble_eq_true rfl, Nat.le_of_ble_eq_true rfl⟩) (pvP 3 1 hK hP rfl rfl hPc_2) rfl rfl hl.1 rfl (lv_room (Nat.le_of_ble_eq_true rfl)) dX2_worthOf_19 ⟨Nat.le_of_ble_eq_true rfl, Nat.le_of_ble_eq_true rfl⟩) (fun r_2 h_2 => ?_)
    refine lv_iconst (v := (-1)) hx hb dX2_worthOf_22 (by decide) ?_
    refine lv_ixor hx hb dX2_worthOf_23 ?_
    refine lv_topi (fun v_3 e_3 => ?_)
    refine lv_iand hx hb dX2_worthOf_24 ?_
    refine lv_topi (fun v_4 e_4 => ?_)
    refine lv_if_ne (tgt := 32) hx hb dX2_worthOf_25 (by decide) (fun c_5 => ?_) (fun c_5 => ?_)
    · skip
      refine lv_iconst (v := 0) hx hb dX2_worthOf_32 (by decide) ?_
      exact W.iret (v := 0) hx hb hr (fun t ht hW => ⟨0, rfl, (lf_X2_worthOf_1 hhb hww hkk c_1 h_2 e_3 e_4 c_5), ht⟩) (fun _ h => by cases h) dX2_worthOf_33
    · skip
      refine lv_iconst (v := 1) hx hb dX2_worthOf_28 (by decide) ?_
      refine lv_goto (tgt := 33) hx hb dX2_worthOf_29 (by decide) ?_
      exact W.iret (v := 1) hx hb hr (fun t ht hW => ⟨1, rfl, (lf_X2_worthOf_2 hhb hww hkk c_1 h_2 e_3 e_4 c_5), ht⟩) (fun _ h => by cases h) dX2_worthOf_33
  · skip
    refine lv_aload_n hx hb dX2_worthOf_8 rfl (lv_at hl 1 rfl) ?_
    refine va_get (D := (dC, dI)) (ci := 3) (v := .int v5) (C := RX3) (T := TX3) (N := 13) hx hb hts i_X2_worthOf_X3 hown hK hP 1 rfl rfl 5 (by decide) (hts _ mx_X2_worthOf_2) (fun _ h9 => h9) rfl dX2_worthOf_9 ?_
    exact W.iret (v := v5) hx hb hr (fun t ht hW => ⟨v5, rfl, (lf_X2_worthOf_3 hhb hww hkk c_1), ht⟩) (fun _ h => by cases h) dX2_worthOf_12
theorem lf_X2_judge_1 {wa : Int32} {br : Int32} {bw : Int32} {bt : Int32} {v5 : Int32} {hh : Nat} {ww : Nat} {kk : Nat} {g5 : Nat → Int32} {x : Int32} {y : Int32} {r_1 : Int32} (hhb : hh < 2000000000) (hww : ww ≤ 6) (hkk : kk ≤ 6) (h_1 : r_1 = (woX wa v5 (thR g5 1 kk))) (c_2 : bw < r_1) : jdX (woX wa v5 (thR g5 1 kk)) x y (bw, bt, br) = (r_1, y, x) := by
  simp only [jdX]; grind
theorem lf_X2_judge_2 {wa : Int32} {br : Int32} {bw : Int32} {bt : Int32} {v5 : Int32} {hh : Nat} {ww : Nat} {kk : Nat} {g5 : Nat → Int32} {x : Int32} {y : Int32} {r_1 : Int32} (hhb : hh < 2000000000) (hww : ww ≤ 6) (hkk : kk ≤ 6) (h_1 : r_1 = (woX wa v5 (thR g5 1 kk))) (c_2 : ¬ (bw < r_1)) (c_3 : ¬ (r_1 = bw)) : jdX (woX wa v5 (thR g5 1 kk)) x y (bw, bt, br) = (bw, bt, br) := by
  simp only [jdX]; grind
theorem lf_X2_judge_3 {wa : Int32} {br : Int32} {bw : Int32} {bt : Int32} {v5 : Int32} {hh : Nat} {ww : Nat} {kk : Nat} {g5 : Nat → Int32} {x : Int32} {y : Int32} {r_1 : Int32} (hhb : hh < 2000000000) (hww : ww ≤ 6) (hkk : kk ≤ 6) (h_1 : r_1 = (woX wa v5 (thR g5 1 kk))) (c_2 : ¬ (bw < r_1)) (c_3 : r_1 = bw) (c_4 : bt ≤ y) : jdX (woX wa v5 (thR g5 1 kk)) x y (bw, bt, br) = (bw, bt, br) := by
  simp only [jdX]; grind
theorem lf_X2_judge_4 {wa : Int32} {br : Int32} {bw : Int32} {bt : Int32} {v5 : Int32} {hh : Nat} {ww : Nat} {kk : Nat} {g5 : Nat → Int32} {x : Int32} {y : Int32} {r_1 : Int32} (hhb : hh < 2000000000) (hww : ww ≤ 6) (hkk : kk ≤ 6) (h_1 : r_1 = (woX wa v5 (thR g5 1 kk))) (c_2 : ¬ (bw < r_1)) (c_3 : r_1 = bw) (c_4 : ¬ (bt ≤ y)) : jdX (woX wa v5 (thR g5 1 kk)) x y (bw, bt, br) = (r_1, y, x) := by
  simp only [jdX]; grind
set_option maxHeartbeats 4000000 in
set_option maxRecDepth 100000 in
theorem r_X2_judge (l : Launch) (dC : Nat → ClassId) (dI : Nat → Nat → Nat) (cI cZ cL cJ : ClassId) (sz : Nat) (c0 : Nat) (be : Nat) (hrs : Int32) (wa : Int32) (br : Int32) (bw : Int32) (bt : Int32) (h : Nat) (v0 : Int32) (v1 : Int32) (v2 : Int32) (v3 : Int32) (v5 : Int32) (hh : Nat) (ww : Nat) (kk : Nat) (b1 : Nat) (b2 : Nat) (b3 : Nat) (b4 : Nat) (b5 : Nat) (g1 : Nat → Int32) (g2 : Nat → Int32) (g3 : Nat → Int32) (g4 : Nat → Int32) (g5 : Nat → Int32) (x : Int32) (y : Int32) (hhb : hh < 2000000000) (hww : ww ≤ 6) (hkk : kk ≤ 6) : Met l yX2_judge wsX2_judge ({ frames := 2, cells := 0, slots := 0, locals := 44 }) (va_Pc [.ref c0, .ref h, .int x, .int y] (fun U => U.heap.size = sz ∧ va_P (dC, dI) vwCl [(xo_2_riiiii c0 be hrs wa br bw bt), (xo_3_iiiiiiiirrrrr h v0 v1 v2 v3 (nI hh) v5 (nI ww) (nI kk) b1 b2 b3 b4 b5), (xI b1 cI 6 g1), (xI b2 cI 6 g2), (xI b3 cI 6 g3), (xI b4 cI 6 g4), (xI b5 cI 6 g5)] U.heap ∧ va_K (dC, dI) vwCl [(cI, .int), (cZ, .boolean), (cL, .object RX3), (cJ, .array .int)] U ∧ va_D (fun _ => True) [(xo_2_riiiii c0 be hrs wa br bw bt), (xo_3_iiiiiiiirrrrr h v0 v1 v2 v3 (nI hh) v5 (nI ww) (nI kk) b1 b2 b3 b4 b5), (xI b1 cI 6 g1), (xI b2 cI 6 g2), (xI b3 cI 6 g3), (xI b4 cI 6 g4), (xI b5 cI 6 g5)])) (va_Qv (fun (_ : Unit) => True) (fun (_ : Unit) t => ∃ (brn : Int32) (bwn : Int32) (btn : Int32), va_P (dC, dI) vwCl [(xo_2_riiiii c0 be hrs wa brn bwn btn), (xo_3_iiiiiiiirrrrr h v0 v1 v2 v3 (nI hh) v5 (nI ww) (nI kk) b1 b2 b3 b4 b5), (xI b1 cI 6 g1), (xI b2 cI 6 g2), (xI b3 cI 6 g3), (xI b4 cI 6 g4), (xI b5 cI 6 g5)] t.heap ∧ va_D (va_A [(xo_2_riiiii c0 be hrs wa br bw bt), (xo_3_iiiiiiiirrrrr h v0 v1 v2 v3 (nI hh) v5 (nI ww) (nI kk) b1 b2 b3 b4 b5), (xI b1 cI 6 g1), (xI b2 cI 6 g2), (xI b3 cI 6 g3), (xI b4 cI 6 g4), (xI b5 cI 6 g5)] sz) [(xo_2_riiiii c0 be hrs wa brn bwn btn), (xo_3_iiiiiiiirrrrr h v0 v1 v2 v3 (nI hh) v5 (nI ww) (nI kk) b1 b2 b3 b4 b5), (xI b1 cI 6 g1), (xI b2 cI 6 g2), (xI b3 cI 6 g3), (xI b4 cI 6 g4), (xI b5 cI 6 g5)] ∧ jdX (woX wa v5 (thR g5 1 kk)) x y (bw, bt, br) = (bwn, btn, brn)) (va_A [(xo_2_riiiii c0 be hrs wa br bw bt), (xo_3_iiiiiiiirrrrr h v0 v1 v2 v3 (nI hh) v5 (nI ww) (nI kk) b1 b2 b3 b4 b5), (xI b1 cI 6 g1), (xI b2 cI 6 g2), (xI b3 cI 6 g3), (xI b4 cI 6 g4), (xI b5 cI 6 g5)] sz)) 0 0 (va_A [(xo_2_riiiii c0 be hrs wa br bw bt), (xo_3_iiiiiiiirrrrr h v0 v1 v2 v3 (nI hh) v5 (nI ww) (nI kk) b1 b2 b3 b4 b5), (xI b1 cI 6 g1), (xI b2 cI 6 g2), (xI b3 cI 6 g3), (xI b4 cI 6 g4), (xI b5 cI 6 g5)] sz) := by
  refine Met.ofW (cc := cX2_judge) (maxL := 5) (ret := none) (by decide) rfl ?_
  intro p e s m args below meth c s₁ B hml hv
  obtain ⟨rfl, hsz, hP, hK, hD0⟩ := hv
  have hx := B.exec
  have hb := B.bytes
  have hr := B.returns
  have hts := atoms_spec (ws := wsX2_judge) B.pre
  have hown : s.vm.findClass RX2 = some m.cls := findClass_of_methodNamed B.named
  have hlocks := B.notSynchronized
  subst hsz
  have hD := hD0.self (sz := s.heap.size)
  generalize hAe : va_A [(xo_2_riiiii c0 be hrs wa br bw bt), (xo_3_iiiiiiiirrrrr h v0 v1 v2 v3 (nI hh) v5 (nI ww) (nI kk) b1 b2 b3 b4 b5), (xI b1 cI 6 g1), (xI b2 cI 6 g2), (xI b3 cI 6 g3), (xI b4 cI 6 g4), (xI b5 cI 6 g5)] s.heap.size = A at hD ⊢
  have hA : ∀ q : Nat, s.heap.size ≤ q → A q := fun q h => by rw [← hAe]; exact Or.inr h
  have hS : va_S A s.heap s.heap [] := va_S.rf
  have hP : va_P (dC, dI) vwCl [(xo_2_riiiii c0 be hrs wa br bw bt), (xo_3_iiiiiiiirrrrr h v0 v1 v2 v3 (nI hh) v5 (nI ww) (nI kk) b1 b2 b3 b4 b5), (xI b1 cI 6 g1), (xI b2 cI 6 g2), (xI b3 cI 6 g3), (xI b4 cI 6 g4), (xI b5 cI 6 g5)] s.heap := hP
  have hl := lv_entry ([.ref c0, .ref h, .int x, .int y]) (n := 5) (Nat.le_of_ble_eq_true rfl)
  rw [lg_entry_eq]
  generalize (lg_sl ([.ref c0, .ref h, .int x, .int y]) ++ List.replicate (5 - (lg_sl ([.ref c0, .ref h, .int x, .int y])).length) Slot.unset).toArray = ls at hl ⊢
  have hl : lv_has ls 5 [(0, .ref c0), (1, .ref h), (2, .int x), (3, .int y)] := hl
  refine lv_aload_n hx hb dX2_judge_0 rfl (lv_at hl 0 rfl) ?_
  refine lv_aload_n hx hb dX2_judge_1 rfl (lv_at hl 1 rfl) ?_
  have hPc_1 := hP
  refine vp_callSi (W.runV (As := [.ref h]) (rest := []) ⟨hx, hb, hml, hown, hts⟩ (r_X2_worthOf l dC dI cI cZ cL cJ c0 be hrs wa br bw bt h v0 v1 v2 v3 v5 hh ww kk b1 b2 b3 b4 b5 g1 g2 g3 g4 g5 (hhb) (hww) (hkk)) (cwV 1 hts gX2_judge_X2_worthOf rfl rfl rfl (by decide +kernel) ⟨Nat.le_of_ble_eq_true rfl, Nat.le_of_ble_eq_true rfl⟩) (pvP 2 0 hK hP rfl rfl hPc_1) rfl rfl hl.1 rfl (lv_room (Nat.le_of_ble_eq_true rfl)) dX2_judge_2 ⟨Nat.le_of_ble_eq_true rfl, Nat.le_of_ble_eq_true rfl⟩) (fun r_1 h_1 => ?_)
  refine lv_istore (lv' := [(4, .int r_1), (0, .ref c0), (1, .ref h), (2, .int x), (3, .int y)]) hx hb dX2_judge_5 hl (by decide) rfl (fun ls hl => ?_)
  refine lv_iload hx hb dX2_judge_7 (lv_at hl 0 rfl) ?_
  refine lv_aload_n hx hb dX2_judge_9 rfl (lv_at hl 1 rfl) ?_
  refine va_get (D := (dC, dI)) (ci := 2) (v := .int bw) (C := RX2) (T := TX2) (N := 6) hx hb hts i_X2_judge_X2 hown hK hP 0 rfl rfl 4 (by decide) (hts _ mx_X2_judge_1) (fun _ h9 => h9) rfl dX2_judge_10 ?_
  refine lv_icmp_gt (tgt := 33) hx hb dX2_judge_13 (by decide) (fun c_2 => ?_) (fun c_2 => ?_)
  · skip
    refine lv_aload_n hx hb dX2_judge_33 rfl (lv_at hl 1 rfl) ?_
    refine lv_iload hx hb dX2_judge_34 (lv_at hl 0 rfl) ?_
    refine va_put (D := (dC, dI)) (ci := 2) (v := .int r_1) (ty := .int) (C := RX2) (T := TX2) (N := 6) hx hb hts i_X2_judge_X2 tyX2 tyX2_ok nmX2 hown hK hP hD hS 0 rfl rfl 4 (by decide) (hts _ mx_X2_judge_1) (fun _ h9 => h9) rfl (by decide +kernel) rfl rfl (Nat.le_of_ble_eq_true rfl) dX2_judge_36 (fun H locs hP hD hS => ?_)
    have hP : va_P (dC, dI) vwCl [(xo_2_riiiii c0 be hrs wa br r_1 bt), (xo_3_iiiiiiiirrrrr h v0 v1 v2 v3 (nI hh) v5 (nI ww) (nI kk) b1 b2 b3 b4 b5), (xI b1 cI 6 g1), (xI b2 cI 6 g2), (xI b3 cI 6 g3), (xI b4 cI 6 g4), (xI b5 cI 6 g5)] H := hP
    have hD := dto hP hD
    refine lv_aload_n hx hb dX2_judge_39 rfl (lv_at hl 1 rfl) ?_
    refine lv_iload_n hx hb dX2_judge_40 rfl (lv_at hl 4 rfl) ?_
    refine va_put (D := (dC, dI)) (ci := 2) (v := .int y) (ty := .int) (C := RX2) (T := TX2) (N := 6) hx hb hts i_X2_judge_X2 tyX2 tyX2_ok nmX2 hown hK hP hD hS 0 rfl rfl 5 (by decide) (hts _ mx_X2_judge_2) (fun _ h9 => h9) rfl (by decide +kernel) rfl rfl (Nat.le_of_ble_eq_true rfl) dX2_judge_41 (fun H locs hP hD hS => ?_)
    have hP : va_P (dC, dI) vwCl [(xo_2_riiiii c0 be hrs wa br r_1 y), (xo_3_iiiiiiiirrrrr h v0 v1 v2 v3 (nI hh) v5 (nI ww) (nI kk) b1 b2 b3 b4 b5), (xI b1 cI 6 g1), (xI b2 cI 6 g2), (xI b3 cI 6 g3), (xI b4 cI 6 g4), (xI b5 cI 6 g5)] H := hP
    have hD := dto hP hD
    refine lv_aload_n hx hb dX2_judge_44 rfl (lv_at hl 1 rfl) ?_
    refine lv_iload_n hx hb dX2_judge_45 rfl (lv_at hl 3 rfl) ?_
    refine va_put (D := (dC, dI)) (ci := 2) (v := .int x) (ty := .int) (C := RX2) (T := TX2) (N := 6) hx hb hts i_X2_judge_X2 tyX2 tyX2_ok nmX2 hown hK hP hD hS 0 rfl rfl 3 (by decide) (hts _ mx_X2_judge_3) (fun _ h9 => h9) rfl (by decide +kernel) rfl rfl (Nat.le_of_ble_eq_true rfl) dX2_judge_46 (fun H locs hP hD hS => ?_)
    have hP : va_P (dC, dI) vwCl [(xo_2_riiiii c0 be hrs wa x r_1 y), (xo_3_iiiiiiiirrrrr h v0 v1 v2 v3 (nI hh) v5 (nI ww) (nI kk) b1 b2 b3 b4 b5), (xI b1 cI 6 g1), (xI b2 cI 6 g2), (xI b3 cI 6 g3), (xI b4 cI 6 g4), (xI b5 cI 6 g5)] H := hP
    have hD := dto hP hD
    have hX9 := cut2 (wc := [(xo_2_riiiii c0 be hrs wa x r_1 y), (xo_3_iiiiiiiirrrrr h v0 v1 v2 v3 (nI hh) v5 (nI ww) (nI kk) b1 b2 b3 b4 b5), (xI b1 cI 6 g1), (xI b2 cI 6 g2), (xI b3 cI 6 g3), (xI b4 cI 6 g4), (xI b5 cI 6 g5)]) hP hD [0, 1, 2, 3, 4, 5, 6] (by decide +kernel) rfl
    exact W.vret hx hb hr (fun t ht hW => ⟨⟨(), rfl, trivial, ⟨x, r_1, y, va_Ht ht hX9.1, hX9.2, (lf_X2_judge_1 hhb hww hkk h_1 c_2)⟩⟩, hS.F ht⟩) hS.2.2 dX2_judge_49
  · skip
    refine lv_iload hx hb dX2_judge_16 (lv_at hl 0 rfl) ?_
    refine lv_aload_n hx hb dX2_judge_18 rfl (lv_at hl 1 rfl) ?_
    refine va_get (D := (dC, dI)) (ci := 2) (v := .int bw) (C := RX2) (T := TX2) (N := 6) hx hb hts i_X2_judge_X2 hown hK hP 0 rfl rfl 4 (by decide) (hts _ mx_X2_judge_1) (fun _ h9 => h9) rfl dX2_judge_19 ?_
    refine lv_icmp_ne (tgt := 49) hx hb dX2_judge_22 (by decide) (fun c_3 => ?_) (fun c_3 => ?_)
    · skip
      have hX9 := cut2 (wc := [(xo_2_riiiii c0 be hrs wa br bw bt), (xo_3_iiiiiiiirrrrr h v0 v1 v2 v3 (nI hh) v5 (nI ww) (nI kk) b1 b2 b3 b4 b5), (xI b1 cI 6 g1), (xI b2 cI 6 g2), (xI b3 cI 6 g3), (xI b4 cI 6 g4), (xI b5 cI 6 g5)]) hP hD [0, 1, 2, 3, 4, 5, 6] (by decide +kernel) rfl
      exact W.vret hx hb hr (fun t ht hW => ⟨⟨(), rfl, trivial, ⟨br, bw, bt, va_Ht ht hX9.1, hX9.2, (lf_X2_judge_2 hhb hww hkk h_1 c_2 c_3)⟩⟩, hS.F ht⟩) hS.2.2 dX2_judge_49
    · skip
      refine lv_iload_n hx hb dX2_judge_25 rfl (lv_at hl 4 rfl) ?_
      refine lv_aload_n hx hb dX2_judge_26 rfl (lv_at hl 1 rfl) ?_
      refine va_get (D := (dC, dI)) (ci := 2) (v := .int bt) (C := RX2) (T := TX2) (N := 6) hx hb hts i_X2_judge_X2 hown hK hP 0 rfl rfl 5 (by decide) (hts _ mx_X2_judge_2) (fun _ h9 => h9) rfl dX2_judge_27 ?_
      refine lv_icmp_ge (tgt := 49) hx hb dX2_judge_30 (by decide) (fun c_4 => ?_) (fun c_4 => ?_)
      · skip
        have hX9 := cut2 (wc := [(xo_2_riiiii c0 be hrs wa br bw bt), (xo_3_iiiiiiiirrrrr h v0 v1 v2 v3 (nI hh) v5 (nI ww) (nI kk) b1 b2 b3 b4 b5), (xI b1 cI 6 g1), (xI b2 cI 6 g2), (xI b3 cI 6 g3), (xI b4 cI 6 g4), (xI b5 cI 6 g5)]) hP hD [0, 1, 2, 3, 4, 5, 6] (by decide +kernel) rfl
        exact W.vret hx hb hr (fun t ht hW => ⟨⟨(), rfl, trivial, ⟨br, bw, bt, va_Ht ht hX9.1, hX9.2, (lf_X2_judge_3 hhb hww hkk h_1 c_2 c_3 c_4)⟩⟩, hS.F ht⟩) hS.2.2 dX2_judge_49
      · skip
        refine lv_aload_n hx hb dX2_judge_33 rfl (lv_at hl 1 rfl) ?_
        refine lv_iload hx hb dX2_judge_34 (lv_at hl 0 rfl) ?_
        refine va_put (D := (dC, dI)) (ci := 2) (v := .int r_1) (ty := .int) (C := RX2) (T := TX2) (N := 6) hx hb hts i_X2_judge_X2 tyX2 tyX2_ok nmX2 hown hK hP hD hS 0 rfl rfl 4 (by decide) (hts _ mx_X2_judge_1) (fun _ h9 => h9) rfl (by decide +kernel) rfl rfl (Nat.le_of_ble_eq_true rfl) dX2_judge_36 (fun H locs hP hD hS => ?_)
        have hP : va_P (dC, dI) vwCl [(xo_2_riiiii c0 be hrs wa br r_1 bt), (xo_3_iiiiiiiirrrrr h v0 v1 v2 v3 (nI hh) v5 (nI ww) (nI kk) b1 b2 b3 b4 b5), (xI b1 cI 6 g1), (xI b2 cI 6 g2), (xI b3 cI 6 g3), (xI b4 cI 6 g4), (xI b5 cI 6 g5)] H := hP
        have hD := dto hP hD
        refine lv_aload_n hx hb dX2_judge_39 rfl (lv_at hl 1 rfl) ?_
        refine lv_iload_n hx hb dX2_judge_40 rfl (lv_at hl 4 rfl) ?_
        refine va_put (D := (dC, dI)) (ci := 2) (v := .int y) (ty := .int) (C := RX2) (T := TX2) (N := 6) hx hb hts i_X2_judge_X2 tyX2 tyX2_ok nmX2 hown hK hP hD hS 0 rfl rfl 5 (by decide) (hts _ mx_X2_judge_2) (fun _ h9 => h9) rfl (by decide +kernel) rfl rfl (Nat.le_of_ble_eq_true rfl) dX2_judge_41 (fun H locs hP hD hS => ?_)
        have hP : va_P (dC, dI) vwCl [(xo_2_riiiii c0 be hrs wa br r_1 y), (xo_3_iiiiiiiirrrrr h v0 v1 v2 v3 (nI hh) v5 (nI ww) (nI kk) b1 b2 b3 b4 b5), (xI b1 cI 6 g1), (xI b2 cI 6 g2), (xI b3 cI 6 g3), (xI b4 cI 6 g4), (xI b5 cI 6 g5)] H := hP
        have hD := dto hP hD
        refine lv_aload_n hx hb dX2_judge_44 rfl (lv_at hl 1 rfl) ?_
        refine lv_iload_n hx hb dX2_judge_45 rfl (lv_at hl 3 rfl) ?_
        refine va_put (D := (dC, dI)) (ci := 2) (v := .int x) (ty := .int) (C := RX2) (T := TX2) (N := 6) hx hb hts i_X2_judge_X2 tyX2 tyX2_ok nmX2 hown hK hP hD hS 0 rfl rfl 3 (by decide) (hts _ mx_X2_judge_3) (fun _ h9 => h9) rfl (by decide +kernel) rfl rfl (Nat.le_of_ble_eq_true rfl) dX2_judge_46 (fun H locs hP hD hS => ?_)
        have hP : va_P (dC, dI) vwCl [(xo_2_riiiii c0 be hrs wa x r_1 y), (xo_3_iiiiiiiirrrrr h v0 v1 v2 v3 (nI hh) v5 (nI ww) (nI kk) b1 b2 b3 b4 b5), (xI b1 cI 6 g1), (xI b2 cI 6 g2), (xI b3 cI 6 g3), (xI b4 cI 6 g4), (xI b5 cI 6 g5)] H := hP
        have hD := dto hP hD
        have hX9 := cut2 (wc := [(xo_2_riiiii c0 be hrs wa x r_1 y), (xo_3_iiiiiiiirrrrr h v0 v1 v2 v3 (nI hh) v5 (nI ww) (nI kk) b1 b2 b3 b4 b5), (xI b1 cI 6 g1), (xI b2 cI 6 g2), (xI b3 cI 6 g3), (xI b4 cI 6 g4), (xI b5 cI 6 g5)]) hP hD [0, 1, 2, 3, 4, 5, 6] (by decide +kernel) rfl
        exact W.vret hx hb hr (fun t ht hW => ⟨⟨(), rfl, trivial, ⟨x, r_1, y, va_Ht ht hX9.1, hX9.2, (lf_X2_judge_4 hhb hww hkk h_1 c_2 c_3 c_4)⟩⟩, hS.F ht⟩) hS.2.2 dX2_judge_49
theorem lf_X2_tryRows_s_1 {hn : Nat} {wa : Int32} {br : Int32} {bw : Int32} {bt : Int32} {fb : Nat → Option Nat} {ad : Nat → Nat} {V : Nat → Nat → Int32} {G : Nat → Nat → Nat → Int32} {hh : Nat} {ww : Nat} {kk : Nat} {dp : Nat} {x : Int32} {y : Int32} {brn_3 : Int32} {bwn_3 : Int32} {btn_3 : Int32} (hfb : ∀ i : Nat, i < 9 → fb i = some (ad i)) (e4 : V dp 4 = nI hh) (e6 : V dp 6 = nI ww) (e7 : V dp 7 = nI kk) (hhb : hh ≤ 999 + dp) (hww : ww ≤ 6) (hkk : kk ≤ 6) (hdn : dp ≤ hn) (hn8 : hn ≤ 8) (hN : okN (999 + dp) (nrV (V dp) (G dp))) (c_1 : hn ≤ dp) (hF_3_0 : jdX (woX wa (V dp 5) (thR (G dp 4) 1 kk)) x y (bw, bt, br) = (bwn_3, btn_3, brn_3)) : trB wa (hn - dp) (nrV (V dp) (G dp)) x y (bw, bt, br) = (bwn_3, btn_3, brn_3) := by
  first
  | (rw [show hn - dp = 0 by omega]; simp only [trB]; rw [woB_V e7 hkk]; assumption)
  | (rw [show hn - dp = (hn - (dp + 1)) + 1 by omega]; simp only [trB, tnX, nrV6]; grind)
theorem lf_X2_tryRows_s_2 {hn : Nat} {wa : Int32} {br : Int32} {bw : Int32} {bt : Int32} {fb : Nat → Option Nat} {ad : Nat → Nat} {V : Nat → Nat → Int32} {G : Nat → Nat → Nat → Int32} {hh : Nat} {ww : Nat} {kk : Nat} {dp : Nat} {x : Int32} {y : Int32} {f1n_9 : Nat → Int32} {f2n_9 : Nat → Int32} {f3n_9 : Nat → Int32} {f4n_9 : Nat → Int32} {f5n_9 : Nat → Int32} {v5n_11 : Int32} {g3n_11 : Nat → Int32} {g4n_11 : Nat → Int32} {g5n_11 : Nat → Int32} {v_13 : Int32} {v_14 : Int32} {v_15 : Int32} {V_16 : Nat → Nat → Int32} {G_16 : Nat → Nat → Nat → Int32} {Vn_17 : Nat → Nat → Int32} {Gn_17 : Nat → Nat → Nat → Int32} {brn_17 : Int32} {bwn_17 : Int32} {btn_17 : Int32} {f1n_21 : Nat → Int32} {f2n_21 : Nat → Int32} {f3n_21 : Nat → Int32} {f4n_21 : Nat → Int32} {f5n_21 : Nat → Int32} {v5n_23 : Int32} {g3n_23 : Nat → Int32} {g4n_23 : Nat → Int32} {g5n_23 : Nat → Int32} {v_25 : Int32} {v_26 : Int32} {v_27 : Int32} {V_28 : Nat → Nat → Int32} {G_28 : Nat → Nat → Nat → Int32} {Vn_29 : Nat → Nat → Int32} {Gn_29 : Nat → Nat → Nat → Int32} {brn_29 : Int32} {bwn_29 : Int32} {btn_29 : Int32} (hfb : ∀ i : Nat, i < 9 → fb i = some (ad i)) (e4 : V dp 4 = nI hh) (e6 : V dp 6 = nI ww) (e7 : V dp 7 = nI kk) (hhb : hh ≤ 999 + dp) (hww : ww ≤ 6) (hkk : kk ≤ 6) (hdn : dp ≤ hn) (hn8 : hn ≤ 8) (hN : okN (999 + dp) (nrV (V dp) (G dp))) (c_1 : ¬ (hn ≤ dp)) (hF_9_0 : (∀ jq : Nat, jq < 6 → f1n_9 jq = (G dp 0) jq)) (hF_9_1 : (∀ jq : Nat, jq < 6 → f2n_9 jq = (G dp 1) jq)) (hF_9_2 : (∀ jq : Nat, jq < 6 → f3n_9 jq = (G dp 2) jq)) (hF_9_3 : (∀ jq : Nat, jq < 6 → f4n_9 jq = (G dp 3) jq)) (hF_9_4 : (∀ jq : Nat, jq < 6 → f5n_9 jq = (G dp 4) jq)) (c_10 : ¬ ((V dp 3) = 0)) (hF_11_0 : paX (V dp 0) (V dp 1) (V dp 2) 0 f2n_9 (wdX f1n_9 ww hh 0) kk ((V dp 5), f3n_9, f4n_9, f5n_9) = (v5n_11, g3n_11, g4n_11, g5n_11)) (e_13 : v_13 = ((x : Int32) <<< ((1 : Int32) &&& 31))) (e_14 : v_14 = (v_13 ||| 0)) (e_15 : v_15 = (y + 1)) (nx_16 : nrV (V_16 (dp + 1)) (G_16 (dp + 1)) = mH (upd (nrV (V dp) (G dp)) 6 0) ∧ okN (999 + (dp + 1)) (nrV (V_16 (dp + 1)) (G_16 (dp + 1)))) (hF_17_0 : (∀ j : Nat, j < (dp + 1) → Vn_17 j = V_16 j ∧ Gn_17 j = G_16 j)) (hF_17_1 : trB wa (hn - (dp + 1)) (nrV (V_16 (dp + 1)) (G_16 (dp + 1))) v_14 v_15 (bw, bt, br) = (bwn_17, btn_17, brn_17)) (kd_17 : Vn_17 dp = V dp) (hF_21_0 : (∀ jq : Nat, jq < 6 → f1n_21 jq = (Gn_17 dp 0) jq)) (hF_21_1 : (∀ jq : Nat, jq < 6 → f2n_21 jq = (Gn_17 dp 1) jq)) (hF_21_2 : (∀ jq : Nat, jq < 6 → f3n_21 jq = (Gn_17 dp 2) jq)) (hF_21_3 : (∀ jq : Nat, jq < 6 → f4n_21 jq = (Gn_17 dp 3) jq)) (hF_21_4 : (∀ jq : Nat, jq < 6 → f5n_21 jq = (Gn_17 dp 4) jq)) (c_22 : ¬ ((Vn_17 dp 3) = 1)) (hF_23_0 : paX (Vn_17 dp 0) (Vn_17 dp 1) (Vn_17 dp 2) 1 f2n_21 (wdX f1n_21 ww hh 0) kk ((Vn_17 dp 5), f3n_21, f4n_21, f5n_21) = (v5n_23, g3n_23, g4n_23, g5n_23)) (e_25 : v_25 = ((x : Int32) <<< ((1 : Int32) &&& 31))) (e_26 : v_26 = (v_25 ||| 1)) (e_27 : v_27 = (y + 1)) (nx_28 : nrV (V_28 (dp + 1)) (G_28 (dp + 1)) = mH (upd (nrV (V dp) (G dp)) 6 1) ∧ okN (999 + (dp + 1)) (nrV (V_28 (dp + 1)) (G_28 (dp + 1)))) (hF_29_0 : (∀ j : Nat, j < (dp + 1) → Vn_29 j = V_28 j ∧ Gn_29 j = G_28 j)) (hF_29_1 : trB wa (hn - (dp + 1)) (nrV (V_28 (dp + 1)) (G_28 (dp + 1))) v_26 v_27 (bwn_17, btn_17, brn_17) = (bwn_29, btn_29, brn_29)) (kd_29 : Vn_29 dp = V dp) : trB wa (hn - dp) (nrV (V dp) (G dp)) x y (bw, bt, br) = (bwn_29, btn_29, brn_29) := by
  first
  | (rw [show hn - dp = 0 by omega]; simp only [trB]; rw [woB_V e7 hkk]; assumption)
  | (rw [show hn - dp = (hn - (dp + 1)) + 1 by omega]; simp only [trB, tnX, nrV6]; grind)
theorem lf_X2_tryRows_s_3 {hn : Nat} {wa : Int32} {br : Int32} {bw : Int32} {bt : Int32} {fb : Nat → Option Nat} {ad : Nat → Nat} {V : Nat → Nat → Int32} {G : Nat → Nat → Nat → Int32} {hh : Nat} {ww : Nat} {kk : Nat} {dp : Nat} {x : Int32} {y : Int32} {f1n_9 : Nat → Int32} {f2n_9 : Nat → Int32} {f3n_9 : Nat → Int32} {f4n_9 : Nat → Int32} {f5n_9 : Nat → Int32} {v5n_11 : Int32} {g3n_11 : Nat → Int32} {g4n_11 : Nat → Int32} {g5n_11 : Nat → Int32} {v_13 : Int32} {v_14 : Int32} {v_15 : Int32} {V_16 : Nat → Nat → Int32} {G_16 : Nat → Nat → Nat → Int32} {Vn_17 : Nat → Nat → Int32} {Gn_17 : Nat → Nat → Nat → Int32} {brn_17 : Int32} {bwn_17 : Int32} {btn_17 : Int32} {f1n_21 : Nat → Int32} {f2n_21 : Nat → Int32} {f3n_21 : Nat → Int32} {f4n_21 : Nat → Int32} {f5n_21 : Nat → Int32} {v5n_31 : Int32} {g3n_31 : Nat → Int32} {g4n_31 : Nat → Int32} {g5n_31 : Nat → Int32} {v_33 : Int32} {v_34 : Int32} {v_35 : Int32} {V_36 : Nat → Nat → Int32} {G_36 : Nat → Nat → Nat → Int32} {Vn_37 : Nat → Nat → Int32} {Gn_37 : Nat → Nat → Nat → Int32} {brn_37 : Int32} {bwn_37 : Int32} {btn_37 : Int32} (hfb : ∀ i : Nat, i < 9 → fb i = some (ad i)) (e4 : V dp 4 = nI hh) (e6 : V dp 6 = nI ww) (e7 : V dp 7 = nI kk) (hhb : hh ≤ 999 + dp) (hww : ww ≤ 6) (hkk : kk ≤ 6) (hdn : dp ≤ hn) (hn8 : hn ≤ 8) (hN : okN (999 + dp) (nrV (V dp) (G dp))) (c_1 : ¬ (hn ≤ dp)) (hF_9_0 : (∀ jq : Nat, jq < 6 → f1n_9 jq = (G dp 0) jq)) (hF_9_1 : (∀ jq : Nat, jq < 6 → f2n_9 jq = (G dp 1) jq)) (hF_9_2 : (∀ jq : Nat, jq < 6 → f3n_9 jq = (G dp 2) jq)) (hF_9_3 : (∀ jq : Nat, jq < 6 → f4n_9 jq = (G dp 3) jq)) (hF_9_4 : (∀ jq : Nat, jq < 6 → f5n_9 jq = (G dp 4) jq)) (c_10 : ¬ ((V dp 3) = 0)) (hF_11_0 : paX (V dp 0) (V dp 1) (V dp 2) 0 f2n_9 (wdX f1n_9 ww hh 0) kk ((V dp 5), f3n_9, f4n_9, f5n_9) = (v5n_11, g3n_11, g4n_11, g5n_11)) (e_13 : v_13 = ((x : Int32) <<< ((1 : Int32) &&& 31))) (e_14 : v_14 = (v_13 ||| 0)) (e_15 : v_15 = (y + 1)) (nx_16 : nrV (V_16 (dp + 1)) (G_16 (dp + 1)) = mH (upd (nrV (V dp) (G dp)) 6 0) ∧ okN (999 + (dp + 1)) (nrV (V_16 (dp + 1)) (G_16 (dp + 1)))) (hF_17_0 : (∀ j : Nat, j < (dp + 1) → Vn_17 j = V_16 j ∧ Gn_17 j = G_16 j)) (hF_17_1 : trB wa (hn - (dp + 1)) (nrV (V_16 (dp + 1)) (G_16 (dp + 1))) v_14 v_15 (bw, bt, br) = (bwn_17, btn_17, brn_17)) (kd_17 : Vn_17 dp = V dp) (hF_21_0 : (∀ jq : Nat, jq < 6 → f1n_21 jq = (Gn_17 dp 0) jq)) (hF_21_1 : (∀ jq : Nat, jq < 6 → f2n_21 jq = (Gn_17 dp 1) jq)) (hF_21_2 : (∀ jq : Nat, jq < 6 → f3n_21 jq = (Gn_17 dp 2) jq)) (hF_21_3 : (∀ jq : Nat, jq < 6 → f4n_21 jq = (Gn_17 dp 3) jq)) (hF_21_4 : (∀ jq : Nat, jq < 6 → f5n_21 jq = (Gn_17 dp 4) jq)) (c_22 : (Vn_17 dp 3) = 1) (hF_31_0 : paX (Vn_17 dp 0) (Vn_17 dp 1) (Vn_17 dp 2) 1 f2n_21 (wdX f1n_21 ww hh 0) kk ((Vn_17 dp 5), f3n_21, f4n_21, f5n_21) = (v5n_31, g3n_31, g4n_31, g5n_31)) (e_33 : v_33 = ((x : Int32) <<< ((1 : Int32) &&& 31))) (e_34 : v_34 = (v_33 ||| 1)) (e_35 : v_35 = (y + 0)) (nx_36 : nrV (V_36 (dp + 1)) (G_36 (dp + 1)) = mH (upd (nrV (V dp) (G dp)) 6 1) ∧ okN (999 + (dp + 1)) (nrV (V_36 (dp + 1)) (G_36 (dp + 1)))) (hF_37_0 : (∀ j : Nat, j < (dp + 1) → Vn_37 j = V_36 j ∧ Gn_37 j = G_36 j)) (hF_37_1 : trB wa (hn - (dp + 1)) (nrV (V_36 (dp + 1)) (G_36 (dp + 1))) v_34 v_35 (bwn_17, btn_17, brn_17) = (bwn_37, btn_37, brn_37)) (kd_37 : Vn_37 dp = V dp) : trB wa (hn - dp) (nrV (V dp) (G dp)) x y (bw, bt, br) = (bwn_37, btn_37, brn_37) := by
  first
  | (rw [show hn - dp = 0 by omega]; simp only [trB]; rw [woB_V e7 hkk]; assumption)
  | (rw [show hn - dp = (hn - (dp + 1)) + 1 by omega]; simp only [trB, tnX, nrV6]; grind)
theorem lf_X2_tryRows_s_4 {hn : Nat} {wa : Int32} {br : Int32} {bw : Int32} {bt : Int32} {fb : Nat → Option Nat} {ad : Nat → Nat} {V : Nat → Nat → Int32} {G : Nat → Nat → Nat → Int32} {hh : Nat} {ww : Nat} {kk : Nat} {dp : Nat} {x : Int32} {y : Int32} {f1n_9 : Nat → Int32} {f2n_9 : Nat → Int32} {f3n_9 : Nat → Int32} {f4n_9 : Nat → Int32} {f5n_9 : Nat → Int32} {v5n_39 : Int32} {g3n_39 : Nat → Int32} {g4n_39 : Nat → Int32} {g5n_39 : Nat → Int32} {v_41 : Int32} {v_42 : Int32} {v_43 : Int32} {V_44 : Nat → Nat → Int32} {G_44 : Nat → Nat → Nat → Int32} {Vn_45 : Nat → Nat → Int32} {Gn_45 : Nat → Nat → Nat → Int32} {brn_45 : Int32} {bwn_45 : Int32} {btn_45 : Int32} {f1n_49 : Nat → Int32} {f2n_49 : Nat → Int32} {f3n_49 : Nat → Int32} {f4n_49 : Nat → Int32} {f5n_49 : Nat → Int32} {v5n_51 : Int32} {g3n_51 : Nat → Int32} {g4n_51 : Nat → Int32} {g5n_51 : Nat → Int32} {v_53 : Int32} {v_54 : Int32} {v_55 : Int32} {V_56 : Nat → Nat → Int32} {G_56 : Nat → Nat → Nat → Int32} {Vn_57 : Nat → Nat → Int32} {Gn_57 : Nat → Nat → Nat → Int32} {brn_57 : Int32} {bwn_57 : Int32} {btn_57 : Int32} (hfb : ∀ i : Nat, i < 9 → fb i = some (ad i)) (e4 : V dp 4 = nI hh) (e6 : V dp 6 = nI ww) (e7 : V dp 7 = nI kk) (hhb : hh ≤ 999 + dp) (hww : ww ≤ 6) (hkk : kk ≤ 6) (hdn : dp ≤ hn) (hn8 : hn ≤ 8) (hN : okN (999 + dp) (nrV (V dp) (G dp))) (c_1 : ¬ (hn ≤ dp)) (hF_9_0 : (∀ jq : Nat, jq < 6 → f1n_9 jq = (G dp 0) jq)) (hF_9_1 : (∀ jq : Nat, jq < 6 → f2n_9 jq = (G dp 1) jq)) (hF_9_2 : (∀ jq : Nat, jq < 6 → f3n_9 jq = (G dp 2) jq)) (hF_9_3 : (∀ jq : Nat, jq < 6 → f4n_9 jq = (G dp 3) jq)) (hF_9_4 : (∀ jq : Nat, jq < 6 → f5n_9 jq = (G dp 4) jq)) (c_10 : (V dp 3) = 0) (hF_39_0 : paX (V dp 0) (V dp 1) (V dp 2) 0 f2n_9 (wdX f1n_9 ww hh 0) kk ((V dp 5), f3n_9, f4n_9, f5n_9) = (v5n_39, g3n_39, g4n_39, g5n_39)) (e_41 : v_41 = ((x : Int32) <<< ((1 : Int32) &&& 31))) (e_42 : v_42 = (v_41 ||| 0)) (e_43 : v_43 = (y + 0)) (nx_44 : nrV (V_44 (dp + 1)) (G_44 (dp + 1)) = mH (upd (nrV (V dp) (G dp)) 6 0) ∧ okN (999 + (dp + 1)) (nrV (V_44 (dp + 1)) (G_44 (dp + 1)))) (hF_45_0 : (∀ j : Nat, j < (dp + 1) → Vn_45 j = V_44 j ∧ Gn_45 j = G_44 j)) (hF_45_1 : trB wa (hn - (dp + 1)) (nrV (V_44 (dp + 1)) (G_44 (dp + 1))) v_42 v_43 (bw, bt, br) = (bwn_45, btn_45, brn_45)) (kd_45 : Vn_45 dp = V dp) (hF_49_0 : (∀ jq : Nat, jq < 6 → f1n_49 jq = (Gn_45 dp 0) jq)) (hF_49_1 : (∀ jq : Nat, jq < 6 → f2n_49 jq = (Gn_45 dp 1) jq)) (hF_49_2 : (∀ jq : Nat, jq < 6 → f3n_49 jq = (Gn_45 dp 2) jq)) (hF_49_3 : (∀ jq : Nat, jq < 6 → f4n_49 jq = (Gn_45 dp 3) jq)) (hF_49_4 : (∀ jq : Nat, jq < 6 → f5n_49 jq = (Gn_45 dp 4) jq)) (c_50 : ¬ ((Vn_45 dp 3) = 1)) (hF_51_0 : paX (Vn_45 dp 0) (Vn_45 dp 1) (Vn_45 dp 2) 1 f2n_49 (wdX f1n_49 ww hh 0) kk ((Vn_45 dp 5), f3n_49, f4n_49, f5n_49) = (v5n_51, g3n_51, g4n_51, g5n_51)) (e_53 : v_53 = ((x : Int32) <<< ((1 : Int32) &&& 31))) (e_54 : v_54 = (v_53 ||| 1)) (e_55 : v_55 = (y + 1)) (nx_56 : nrV (V_56 (dp + 1)) (G_56 (dp + 1)) = mH (upd (nrV (V dp) (G dp)) 6 1) ∧ okN (999 + (dp + 1)) (nrV (V_56 (dp + 1)) (G_56 (dp + 1)))) (hF_57_0 : (∀ j : Nat, j < (dp + 1) → Vn_57 j = V_56 j ∧ Gn_57 j = G_56 j)) (hF_57_1 : trB wa (hn - (dp + 1)) (nrV (V_56 (dp + 1)) (G_56 (dp + 1))) v_54 v_55 (bwn_45, btn_45, brn_45) = (bwn_57, btn_57, brn_57)) (kd_57 : Vn_57 dp = V dp) : trB wa (hn - dp) (nrV (V dp) (G dp)) x y (bw, bt, br) = (bwn_57, btn_57, brn_57) := by
  first
  | (rw [show hn - dp = 0 by omega]; simp only [trB]; rw [woB_V e7 hkk]; assumption)
  | (rw [show hn - dp = (hn - (dp + 1)) + 1 by omega]; simp only [trB, tnX, nrV6]; grind)
theorem lf_X2_tryRows_s_5 {hn : Nat} {wa : Int32} {br : Int32} {bw : Int32} {bt : Int32} {fb : Nat → Option Nat} {ad : Nat → Nat} {V : Nat → Nat → Int32} {G : Nat → Nat → Nat → Int32} {hh : Nat} {ww : Nat} {kk : Nat} {dp : Nat} {x : Int32} {y : Int32} {f1n_9 : Nat → Int32} {f2n_9 : Nat → Int32} {f3n_9 : Nat → Int32} {f4n_9 : Nat → Int32} {f5n_9 : Nat → Int32} {v5n_39 : Int32} {g3n_39 : Nat → Int32} {g4n_39 : Nat → Int32} {g5n_39 : Nat → Int32} {v_41 : Int32} {v_42 : Int32} {v_43 : Int32} {V_44 : Nat → Nat → Int32} {G_44 : Nat → Nat → Nat → Int32} {Vn_45 : Nat → Nat → Int32} {Gn_45 : Nat → Nat → Nat → Int32} {brn_45 : Int32} {bwn_45 : Int32} {btn_45 : Int32} {f1n_49 : Nat → Int32} {f2n_49 : Nat → Int32} {f3n_49 : Nat → Int32} {f4n_49 : Nat → Int32} {f5n_49 : Nat → Int32} {v5n_59 : Int32} {g3n_59 : Nat → Int32} {g4n_59 : Nat → Int32} {g5n_59 : Nat → Int32} {v_61 : Int32} {v_62 : Int32} {v_63 : Int32} {V_64 : Nat → Nat → Int32} {G_64 : Nat → Nat → Nat → Int32} {Vn_65 : Nat → Nat → Int32} {Gn_65 : Nat → Nat → Nat → Int32} {brn_65 : Int32} {bwn_65 : Int32} {btn_65 : Int32} (hfb : ∀ i : Nat, i < 9 → fb i = some (ad i)) (e4 : V dp 4 = nI hh) (e6 : V dp 6 = nI ww) (e7 : V dp 7 = nI kk) (hhb : hh ≤ 999 + dp) (hww : ww ≤ 6) (hkk : kk ≤ 6) (hdn : dp ≤ hn) (hn8 : hn ≤ 8) (hN : okN (999 + dp) (nrV (V dp) (G dp))) (c_1 : ¬ (hn ≤ dp)) (hF_9_0 : (∀ jq : Nat, jq < 6 → f1n_9 jq = (G dp 0) jq)) (hF_9_1 : (∀ jq : Nat, jq < 6 → f2n_9 jq = (G dp 1) jq)) (hF_9_2 : (∀ jq : Nat, jq < 6 → f3n_9 jq = (G dp 2) jq)) (hF_9_3 : (∀ jq : Nat, jq < 6 → f4n_9 jq = (G dp 3) jq)) (hF_9_4 : (∀ jq : Nat, jq < 6 → f5n_9 jq = (G dp 4) jq)) (c_10 : (V dp 3) = 0) (hF_39_0 : paX (V dp 0) (V dp 1) (V dp 2) 0 f2n_9 (wdX f1n_9 ww hh 0) kk ((V dp 5), f3n_9, f4n_9, f5n_9) = (v5n_39, g3n_39, g4n_39, g5n_39)) (e_41 : v_41 = ((x : Int32) <<< ((1 : Int32) &&& 31))) (e_42 : v_42 = (v_41 ||| 0)) (e_43 : v_43 = (y + 0)) (nx_44 : nrV (V_44 (dp + 1)) (G_44 (dp + 1)) = mH (upd (nrV (V dp) (G dp)) 6 0) ∧ okN (999 + (dp + 1)) (nrV (V_44 (dp + 1)) (G_44 (dp + 1)))) (hF_45_0 : (∀ j : Nat, j < (dp + 1) → Vn_45 j = V_44 j ∧ Gn_45 j = G_44 j)) (hF_45_1 : trB wa (hn - (dp + 1)) (nrV (V_44 (dp + 1)) (G_44 (dp + 1))) v_42 v_43 (bw, bt, br) = (bwn_45, btn_45, brn_45)) (kd_45 : Vn_45 dp = V dp) (hF_49_0 : (∀ jq : Nat, jq < 6 → f1n_49 jq = (Gn_45 dp 0) jq)) (hF_49_1 : (∀ jq : Nat, jq < 6 → f2n_49 jq = (Gn_45 dp 1) jq)) (hF_49_2 : (∀ jq : Nat, jq < 6 → f3n_49 jq = (Gn_45 dp 2) jq)) (hF_49_3 : (∀ jq : Nat, jq < 6 → f4n_49 jq = (Gn_45 dp 3) jq)) (hF_49_4 : (∀ jq : Nat, jq < 6 → f5n_49 jq = (Gn_45 dp 4) jq)) (c_50 : (Vn_45 dp 3) = 1) (hF_59_0 : paX (Vn_45 dp 0) (Vn_45 dp 1) (Vn_45 dp 2) 1 f2n_49 (wdX f1n_49 ww hh 0) kk ((Vn_45 dp 5), f3n_49, f4n_49, f5n_49) = (v5n_59, g3n_59, g4n_59, g5n_59)) (e_61 : v_61 = ((x : Int32) <<< ((1 : Int32) &&& 31))) (e_62 : v_62 = (v_61 ||| 1)) (e_63 : v_63 = (y + 0)) (nx_64 : nrV (V_64 (dp + 1)) (G_64 (dp + 1)) = mH (upd (nrV (V dp) (G dp)) 6 1) ∧ okN (999 + (dp + 1)) (nrV (V_64 (dp + 1)) (G_64 (dp + 1)))) (hF_65_0 : (∀ j : Nat, j < (dp + 1) → Vn_65 j = V_64 j ∧ Gn_65 j = G_64 j)) (hF_65_1 : trB wa (hn - (dp + 1)) (nrV (V_64 (dp + 1)) (G_64 (dp + 1))) v_62 v_63 (bwn_45, btn_45, brn_45) = (bwn_65, btn_65, brn_65)) (kd_65 : Vn_65 dp = V dp) : trB wa (hn - dp) (nrV (V dp) (G dp)) x y (bw, bt, br) = (bwn_65, btn_65, brn_65) := by
  first
  | (rw [show hn - dp = 0 by omega]; simp only [trB]; rw [woB_V e7 hkk]; assumption)
  | (rw [show hn - dp = (hn - (dp + 1)) + 1 by omega]; simp only [trB, tnX, nrV6]; grind)
set_option maxHeartbeats 4000000 in
set_option maxRecDepth 100000 in
theorem r_X2_tryRows_s (l : Launch) (dC : Nat → ClassId) (dI : Nat → Nat → Nat) (cI cZ cL cJ : ClassId) (sz : Nat) (c0 : Nat) (be : Nat) (hn : Nat) (wa : Int32) (br : Int32) (bw : Int32) (bt : Int32) (fb : Nat → Option Nat) (ad : Nat → Nat) (bd : Nat → Nat → Nat) (V : Nat → Nat → Int32) (G : Nat → Nat → Nat → Int32) (hh : Nat) (ww : Nat) (kk : Nat) (dp : Nat) (x : Int32) (y : Int32) (hfb : ∀ i : Nat, i < 9 → fb i = some (ad i)) (e4 : V dp 4 = nI hh) (e6 : V dp 6 = nI ww) (e7 : V dp 7 = nI kk) (hhb : hh ≤ 999 + dp) (hww : ww ≤ 6) (hkk : kk ≤ 6) (hdn : dp ≤ hn) (hn8 : hn ≤ 8) (hN : okN (999 + dp) (nrV (V dp) (G dp))) (IH : ∀ (l : Launch) (dC : Nat → ClassId) (dI : Nat → Nat → Nat) (cI cZ cL cJ : ClassId) (sz : Nat) (c0 : Nat) (be : Nat) (hn : Nat) (wa : Int32) (br : Int32) (bw : Int32) (bt : Int32) (fb : Nat → Option Nat) (ad : Nat → Nat) (bd : Nat → Nat → Nat) (V : Nat → Nat → Int32) (G : Nat → Nat → Nat → Int32) (hh : Nat) (ww : Nat) (kk : Nat) (x : Int32) (y : Int32) (hfb : ∀ i : Nat, i < 9 → fb i = some (ad i)) (e4 : V (dp + 1) 4 = nI hh) (e6 : V (dp + 1) 6 = nI ww) (e7 : V (dp + 1) 7 = nI kk) (hhb : hh ≤ 999 + (dp + 1)) (hww : ww ≤ 6) (hkk : kk ≤ 6) (hdn : (dp + 1) ≤ hn) (hn8 : hn ≤ 8) (hN : okN (999 + (dp + 1)) (nrV (V (dp + 1)) (G (dp + 1)))), Met l yX2_tryRows wsX2_tryRows ({ frames := 14 - (dp + 1), cells := 0, slots := 0, locals := 3000 - 200 * (dp + 1) }) (va_Pc [.ref c0, .int (nI (dp + 1)), .int x, .int y] (fun U => U.heap.size = sz ∧ va_P (dC, dI) vwCl (([(xo_2_riiiii c0 be (nI hn) wa br bw bt), (xJ be cL 9 fb)] : va_W) ++ lvs cI 9 ad bd V G) U.heap ∧ va_K (dC, dI) vwCl [(cI, .int), (cZ, .boolean), (cL, .object RX3), (cJ, .array .int)] U ∧ va_D (fun _ => True) (([(xo_2_riiiii c0 be (nI hn) wa br bw bt), (xJ be cL 9 fb)] : va_W) ++ lvs cI 9 ad bd V G))) (va_Qv (fun (_ : Unit) => True) (fun (_ : Unit) t => ∃ (Vn : Nat → Nat → Int32) (Gn : Nat → Nat → Nat → Int32) (brn : Int32) (bwn : Int32) (btn : Int32), va_P (dC, dI) vwCl (([(xo_2_riiiii c0 be (nI hn) wa brn bwn btn), (xJ be cL 9 fb)] : va_W) ++ lvs cI 9 ad bd Vn Gn) t.heap ∧ va_D (va_A (([(xo_2_riiiii c0 be (nI hn) wa br bw bt), (xJ be cL 9 fb)] : va_W) ++ lvs cI 9 ad bd V G) sz) (([(xo_2_riiiii c0 be (nI hn) wa brn bwn btn), (xJ be cL 9 fb)] : va_W) ++ lvs cI 9 ad bd Vn Gn) ∧ (∀ j : Nat, j < (dp + 1) → Vn j = V j ∧ Gn j = G j) ∧ trB wa (hn - (dp + 1)) (nrV (V (dp + 1)) (G (dp + 1))) x y (bw, bt, br) = (bwn, btn, brn)) (va_A (([(xo_2_riiiii c0 be (nI hn) wa br bw bt), (xJ be cL 9 fb)] : va_W) ++ lvs cI 9 ad bd V G) sz)) 0 0 (va_A (([(xo_2_riiiii c0 be (nI hn) wa br bw bt), (xJ be cL 9 fb)] : va_W) ++ lvs cI 9 ad bd V G) sz)) : Met l yX2_tryRows wsX2_tryRows ({ frames := 14 - dp, cells := 0, slots := 0, locals := 3000 - 200 * dp }) (va_Pc [.ref c0, .int (nI dp), .int x, .int y] (fun U => U.heap.size = sz ∧ va_P (dC, dI) vwCl (([(xo_2_riiiii c0 be (nI hn) wa br bw bt), (xJ be cL 9 fb)] : va_W) ++ lvs cI 9 ad bd V G) U.heap ∧ va_K (dC, dI) vwCl [(cI, .int), (cZ, .boolean), (cL, .object RX3), (cJ, .array .int)] U ∧ va_D (fun _ => True) (([(xo_2_riiiii c0 be (nI hn) wa br bw bt), (xJ be cL 9 fb)] : va_W) ++ lvs cI 9 ad bd V G))) (va_Qv (fun (_ : Unit) => True) (fun (_ : Unit) t => ∃ (Vn : Nat → Nat → Int32) (Gn : Nat → Nat → Nat → Int32) (brn : Int32) (bwn : Int32) (btn : Int32), va_P (dC, dI) vwCl (([(xo_2_riiiii c0 be (nI hn) wa brn bwn btn), (xJ be cL 9 fb)] : va_W) ++ lvs cI 9 ad bd Vn Gn) t.heap ∧ va_D (va_A (([(xo_2_riiiii c0 be (nI hn) wa br bw bt), (xJ be cL 9 fb)] : va_W) ++ lvs cI 9 ad bd V G) sz) (([(xo_2_riiiii c0 be (nI hn) wa brn bwn btn), (xJ be cL 9 fb)] : va_W) ++ lvs cI 9 ad bd Vn Gn) ∧ (∀ j : Nat, j < dp → Vn j = V j ∧ Gn j = G j) ∧ trB wa (hn - dp) (nrV (V dp) (G dp)) x y (bw, bt, br) = (bwn, btn, brn)) (va_A (([(xo_2_riiiii c0 be (nI hn) wa br bw bt), (xJ be cL 9 fb)] : va_W) ++ lvs cI 9 ad bd V G) sz)) 0 0 (va_A (([(xo_2_riiiii c0 be (nI hn) wa br bw bt), (xJ be cL 9 fb)] : va_W) ++ lvs cI 9 ad bd V G) sz) := by
  refine Met.ofW (cc := cX2_tryRows) (maxL := 7) (ret := none) (by decide) rfl ?_
  intro p e s m args below meth c s₁ B hml hv
  obtain ⟨rfl, hsz, hP, hK, hD0⟩ := hv
  have hx := B.exec
  have hb := B.bytes
  have hr := B.returns
  have hts := atoms_spec (ws := wsX2_tryRows) B.pre
  have hown : s.vm.findClass RX2 = some m.cls := findClass_of_methodNamed B.named
  have hlocks := B.notSynchronized
  subst hsz
  have hD := hD0.self (sz := s.heap.size)
  generalize hAe : va_A (([(xo_2_riiiii c0 be (nI hn) wa br bw bt), (xJ be cL 9 fb)] : va_W) ++ lvs cI 9 ad bd V G) s.heap.size = A at hD ⊢
  have hA : ∀ q : Nat, s.heap.size ≤ q → A q := fun q h => by rw [← hAe]; exact Or.inr h
  have hS : va_S A s.heap s.heap [] := va_S.rf
  have hP : va_P (dC, dI) vwCl (([(xo_2_riiiii c0 be (nI hn) wa br bw bt), (xJ be cL 9 fb)] : va_W) ++ lvs cI 9 ad bd V G) s.heap := hP
  have hl := lv_entry ([.ref c0, .int (nI dp), .int x, .int y]) (n := 7) (Nat.le_of_ble_eq_true rfl)
  rw [lg_entry_eq]
  generalize (lg_sl ([.ref c0, .int (nI dp), .int x, .int y]) ++ List.replicate (7 - (lg_sl ([.ref c0, .int (nI dp), .int x, .int y])).length) Slot.unset).toArray = ls at hl ⊢
  have hl : lv_has ls 7 [(0, .ref c0), (1, .int (nI dp)), (2, .int x), (3, .int y)] := hl
  refine lv_iload_n hx hb dX2_tryRows_0 rfl (lv_at hl 1 rfl) ?_
  refine lv_aload_n hx hb dX2_tryRows_1 rfl (lv_at hl 0 rfl) ?_
  refine va_get (D := (dC, dI)) (ci := 2) (v := .int (nI hn)) (C := RX2) (T := TX2) (N := 6) hx hb hts i_X2_tryRows_X2 hown hK hP 0 rfl rfl 1 (by decide) (hts _ mx_X2_tryRows_1) (fun _ h9 => h9) rfl dX2_tryRows_2 ?_
  refine lv_icmp_ge (tgt := 14) hx hb dX2_tryRows_5 (by decide) (fun c_1 => ?_) (fun c_1 => ?_)
  · have c_1 : hn ≤ dp := (nI_leI (a := hn) (b := dp) (by omega) (by omega)).mp c_1
    refine lv_aload_n hx hb dX2_tryRows_14 rfl (lv_at hl 0 rfl) ?_
    refine lv_aload_n hx hb dX2_tryRows_15 rfl (lv_at hl 0 rfl) ?_
    refine va_get (D := (dC, dI)) (ci := 2) (v := .ref be) (C := RX2) (T := TX2) (N := 6) hx hb hts i_X2_tryRows_X2 hown hK hP 0 rfl rfl 0 (by decide) (hts _ mx_X2_tryRows_2) (fun _ h9 => h9) rfl dX2_tryRows_16 ?_
    refine lv_iload_n hx hb dX2_tryRows_19 rfl (lv_at hl 1 rfl) ?_
    refine va_aldq hx hb hK hP 1 2 rfl rfl (vp_in_nI (by omega) (by omega)) dX2_tryRows_20 ?_
    refine W.eq (g2 := F0 m 21 ls (.ref (ad dp) :: [.ref c0])) (by show F0 m 21 ls (va_rf (fb (nI dp).toNatClampNeg) :: _) = _; rw [nI_clamp (by omega), hfb _ (by omega)]; rfl) ?_
    obtain ⟨pl_2, hP, hD, hbP_2, hbD_2⟩ := blk_opn hP hD (i := dp) (by omega)
    have hP : va_P (dC, dI) vwCl (([(xo_2_riiiii c0 be (nI hn) wa br bw bt), (xJ be cL 9 fb), (xo_3_iiiiiiiirrrrr (ad dp) (V dp 0) (V dp 1) (V dp 2) (V dp 3) (V dp 4) (V dp 5) (V dp 6) (V dp 7) (bd dp 0) (bd dp 1) (bd dp 2) (bd dp 3) (bd dp 4)), (xI (bd dp 0) cI 6 (G dp 0)), (xI (bd dp 1) cI 6 (G dp 1)), (xI (bd dp 2) cI 6 (G dp 2)), (xI (bd dp 3) cI 6 (G dp 3)), (xI (bd dp 4) cI 6 (G dp 4))] : va_W) ++ pl_2) s.heap := hP
    have hD : va_D A (([(xo_2_riiiii c0 be (nI hn) wa br bw bt), (xJ be cL 9 fb), (xo_3_iiiiiiiirrrrr (ad dp) (V dp 0) (V dp 1) (V dp 2) (V dp 3) (V dp 4) (V dp 5) (V dp 6) (V dp 7) (bd dp 0) (bd dp 1) (bd dp 2) (bd dp 3) (bd dp 4)), (xI (bd dp 0) cI 6 (G dp 0)), (xI (bd dp 1) cI 6 (G dp 1)), (xI (bd dp 2) cI 6 (G dp 2)), (xI (bd dp 3) cI 6 (G dp 3)), (xI (bd dp 4) cI 6 (G dp 4))] : va_W) ++ pl_2) := hD
    rw [e4, e6, e7] at hP hD
    refine lv_iload_n hx hb dX2_tryRows_21 rfl (lv_at hl 2 rfl) ?_
    refine lv_iload_n hx hb dX2_tryRows_22 rfl (lv_at hl 3 rfl) ?_
    have hc_3 := cutX (wc := [(xo_2_riiiii c0 be (nI hn) wa br bw bt), (xo_3_iiiiiiiirrrrr (ad dp) (V dp 0) (V dp 1) (V dp 2) (V dp 3) (nI hh) (V dp 5) (nI ww) (nI kk) (bd dp 0) (bd dp 1) (bd dp 2) (bd dp 3) (bd dp 4)), (xI (bd dp 0) cI 6 (G dp 0)), (xI (bd dp 1) cI 6 (G dp 1)), (xI (bd dp 2) cI 6 (G dp 2)), (xI (bd dp 3) cI 6 (G dp 3)), (xI (bd dp 4) cI 6 (G dp 4))]) hP hD hS hA [0, 2, 3, 4, 5, 6, 7] (by decide +kernel) rfl
    refine va_callv (va_runV (As := [.ref (ad dp), .int x, .int y]) (rest := []) ⟨hx, hb, hml, hown, hts⟩ (r_X2_judge l dC dI cI cZ cL cJ s.heap.size c0 be (nI hn) wa br bw bt (ad dp) (V dp 0) (V dp 1) (V dp 2) (V dp 3) (V dp 5) hh ww kk (bd dp 0) (bd dp 1) (bd dp 2) (bd dp 3) (bd dp 4) (G dp 0) (G dp 1) (G dp 2) (G dp 3) (G dp 4) x y (by omega) (hww) (hkk)) (cwV 3 hts gX2_tryRows_X2_judge rfl rfl rfl (by decide +kernel) ⟨by show 2 + 1 ≤ 14 - dp; omega, by show 8 + (5 + 11) + 44 ≤ 3000 - 200 * dp; omega⟩) (pvW 2 0 hK hP rfl rfl hc_3) rfl rfl hl.1 rfl (lv_room (Nat.le_of_ble_eq_true rfl)) dX2_tryRows_23 ⟨Nat.le_of_ble_eq_true rfl, Nat.le_of_ble_eq_true rfl⟩) hS (fun q _ h => hc_3.2.2 q h) hc_3.2.2 (fun u_3 t_3 H1 locs ht hvm h_3 hB hz1 hk1 hS => ?_)
    refine xl_3_3 hB (fun brn_3 bwn_3 btn_3 hP1 hD1 hF_3_0 => ?_)
    clear hB
    rw [ht] at hP1
    obtain ⟨hP, hD⟩ := va_joinQ (wr := [(xJ be cL 9 fb)]) (w1 := [(xo_2_riiiii c0 be (nI hn) wa brn_3 bwn_3 btn_3), (xo_3_iiiiiiiirrrrr (ad dp) (V dp 0) (V dp 1) (V dp 2) (V dp 3) (nI hh) (V dp 5) (nI ww) (nI kk) (bd dp 0) (bd dp 1) (bd dp 2) (bd dp 3) (bd dp 4)), (xI (bd dp 0) cI 6 (G dp 0)), (xI (bd dp 1) cI 6 (G dp 1)), (xI (bd dp 2) cI 6 (G dp 2)), (xI (bd dp 3) cI 6 (G dp 3)), (xI (bd dp 4) cI 6 (G dp 4))]) hP hD [0, 2, 3, 4, 5, 6, 7] [1] rfl rfl (by decide +kernel) (by decide +kernel) hk1 hc_3.2.2 hP1 hD1
    generalize H1 = H at hP hS ⊢
    have hP : va_P (dC, dI) vwCl (([(xJ be cL 9 fb), (xo_2_riiiii c0 be (nI hn) wa brn_3 bwn_3 btn_3), (xo_3_iiiiiiiirrrrr (ad dp) (V dp 0) (V dp 1) (V dp 2) (V dp 3) (nI hh) (V dp 5) (nI ww) (nI kk) (bd dp 0) (bd dp 1) (bd dp 2) (bd dp 3) (bd dp 4)), (xI (bd dp 0) cI 6 (G dp 0)), (xI (bd dp 1) cI 6 (G dp 1)), (xI (bd dp 2) cI 6 (G dp 2)), (xI (bd dp 3) cI 6 (G dp 3)), (xI (bd dp 4) cI 6 (G dp 4))] : va_W) ++ pl_2) H := hP
    have hD := dto hP hD
    have hP := hbP_2 [(xJ be cL 9 fb), (xo_2_riiiii c0 be (nI hn) wa brn_3 bwn_3 btn_3)] ((V dp 0)) ((V dp 1)) ((V dp 2)) ((V dp 3)) ((nI hh)) ((V dp 5)) ((nI ww)) ((nI kk)) ((G dp 0)) ((G dp 1)) ((G dp 2)) ((G dp 3)) ((G dp 4)) _ (hP.part (cx := (([(xJ be cL 9 fb), (xo_2_riiiii c0 be (nI hn) wa brn_3 bwn_3 btn_3)] : va_W) ++ ([(xo_3_iiiiiiiirrrrr (ad dp) (V dp 0) (V dp 1) (V dp 2) (V dp 3) (nI hh) (V dp 5) (nI ww) (nI kk) (bd dp 0) (bd dp 1) (bd dp 2) (bd dp 3) (bd dp 4)), (xI (bd dp 0) cI 6 (G dp 0)), (xI (bd dp 1) cI 6 (G dp 1)), (xI (bd dp 2) cI 6 (G dp 2)), (xI (bd dp 3) cI 6 (G dp 3)), (xI (bd dp 4) cI 6 (G dp 4))] : va_W))) [0, 1, 2, 3, 4, 5, 6, 7] rfl)
    have hD := hbD_2 [(xJ be cL 9 fb), (xo_2_riiiii c0 be (nI hn) wa brn_3 bwn_3 btn_3)] ((V dp 0)) ((V dp 1)) ((V dp 2)) ((V dp 3)) ((nI hh)) ((V dp 5)) ((nI ww)) ((nI kk)) ((G dp 0)) ((G dp 1)) ((G dp 2)) ((G dp 3)) ((G dp 4)) _ (hD.part (cx := (([(xJ be cL 9 fb), (xo_2_riiiii c0 be (nI hn) wa brn_3 bwn_3 btn_3)] : va_W) ++ ([(xo_3_iiiiiiiirrrrr (ad dp) (V dp 0) (V dp 1) (V dp 2) (V dp 3) (nI hh) (V dp 5) (nI ww) (nI kk) (bd dp 0) (bd dp 1) (bd dp 2) (bd dp 3) (bd dp 4)), (xI (bd dp 0) cI 6 (G dp 0)), (xI (bd dp 1) cI 6 (G dp 1)), (xI (bd dp 2) cI 6 (G dp 2)), (xI (bd dp 3) cI 6 (G dp 3)), (xI (bd dp 4) cI 6 (G dp 4))] : va_W))) [0, 1, 2, 3, 4, 5, 6, 7] (by decide +kernel) rfl)
    generalize hV_4 : va_up V dp (fun k => [(V dp 0), (V dp 1), (V dp 2), (V dp 3), (nI hh), (V dp 5), (nI ww), (nI kk)].getD k 0) = V_4 at hP hD
    generalize hG_4 : va_up G dp (fun k => [(G dp 0), (G dp 1), (G dp 2), (G dp 3), (G dp 4)].getD k (fun _ => 0)) = G_4 at hP hD
    have hP : va_P (dC, dI) vwCl (([(xJ be cL 9 fb), (xo_2_riiiii c0 be (nI hn) wa brn_3 bwn_3 btn_3)] : va_W) ++ lvs cI 9 ad bd V_4 G_4) H := hP
    have hD : va_D A (([(xJ be cL 9 fb), (xo_2_riiiii c0 be (nI hn) wa brn_3 bwn_3 btn_3)] : va_W) ++ lvs cI 9 ad bd V_4 G_4) := hD
    have kp_4 : ∀ j : Nat, j < dp → V_4 j = V j ∧ G_4 j = G j := fun j hj => by rw [← hV_4, ← hG_4, va_up_ne _ _ (by omega), va_up_ne _ _ (by omega)]; exact ⟨rfl, rfl⟩
    have hX9 := cut2P (cx := [(xo_2_riiiii c0 be (nI hn) wa brn_3 bwn_3 btn_3), (xJ be cL 9 fb)]) hP hD [1, 0] (by decide +kernel) rfl
    exact W.vret hx hb hr (fun t ht hW => ⟨⟨(), rfl, trivial, ⟨V_4, G_4, brn_3, bwn_3, btn_3, va_Ht ht hX9.1, hX9.2, (fun j hj => (kp_4 j hj)), (lf_X2_tryRows_s_1 hfb e4 e6 e7 hhb hww hkk hdn hn8 hN c_1 hF_3_0)⟩⟩, hS.F ht⟩) hS.2.2 dX2_tryRows_26
  · have c_1 : ¬ (hn ≤ dp) := fun q_ => c_1 ((nI_leI (a := hn) (b := dp) (by omega) (by omega)).mpr q_)
    refine lv_iload_n hx hb dX2_tryRows_8 rfl (lv_at hl 1 rfl) ?_
    refine lv_bipush (v := 8) hx hb dX2_tryRows_9 (by decide) ?_
    refine lv_icmp_lt (tgt := 27) hx hb dX2_tryRows_11 (by decide) (fun _ => ?_) (fun c_ => absurd ((nI_ltI (a := dp) (b := 8) (by omega) (by omega)).mpr (by omega)) c_)
    refine lv_iconst (v := 0) hx hb dX2_tryRows_27 (by decide) ?_
    refine lv_istore (lv' := [(4, .int 0), (0, .ref c0), (1, .int (nI dp)), (2, .int x), (3, .int y)]) hx hb dX2_tryRows_28 hl (by decide) rfl (fun ls hl => ?_)
    refine lv_iload hx hb dX2_tryRows_30 (lv_at hl 0 rfl) ?_
    refine lv_iconst (v := 1) hx hb dX2_tryRows_32 (by decide) ?_
    refine lv_icmp_gt (tgt := 109) hx hb dX2_tryRows_33 (by decide) (fun c_ => absurd c_ (by decide)) (fun _ => ?_)
    refine lv_aload_n hx hb dX2_tryRows_36 rfl (lv_at hl 1 rfl) ?_
    refine va_get (D := (dC, dI)) (ci := 2) (v := .ref be) (C := RX2) (T := TX2) (N := 6) hx hb hts i_X2_tryRows_X2 hown hK hP 0 rfl rfl 0 (by decide) (hts _ mx_X2_tryRows_2) (fun _ h9 => h9) rfl dX2_tryRows_37 ?_
    refine lv_iload_n hx hb dX2_tryRows_40 rfl (lv_at hl 2 rfl) ?_
    refine lv_iconst (v := 1) hx hb dX2_tryRows_41 (by decide) ?_
    refine lv_iadd hx hb dX2_tryRows_42 ?_
    refine lv_topi (fun v_7 e_7 => ?_)
    obtain rfl : v_7 = (nI (dp + 1)) := (e_7).trans (nI_add dp 1)
    refine va_aldq hx hb hK hP 1 2 rfl rfl (vp_in_nI (by omega) (by omega)) dX2_tryRows_43 ?_
    refine W.eq (g2 := F0 m 44 ls (.ref (ad (dp + 1)) :: [])) (by show F0 m 44 ls (va_rf (fb (nI (dp + 1)).toNatClampNeg) :: _) = _; rw [nI_clamp (by omega), hfb _ (by omega)]; rfl) ?_
    obtain ⟨pl_8, hP, hD, hbP_8, hbD_8⟩ := blk_opn2 hP hD (i := dp) (by omega)
    have hP : va_P (dC, dI) vwCl (([(xo_2_riiiii c0 be (nI hn) wa br bw bt), (xJ be cL 9 fb), (xo_3_iiiiiiiirrrrr (ad dp) (V dp 0) (V dp 1) (V dp 2) (V dp 3) (V dp 4) (V dp 5) (V dp 6) (V dp 7) (bd dp 0) (bd dp 1) (bd dp 2) (bd dp 3) (bd dp 4)), (xI (bd dp 0) cI 6 (G dp 0)), (xI (bd dp 1) cI 6 (G dp 1)), (xI (bd dp 2) cI 6 (G dp 2)), (xI (bd dp 3) cI 6 (G dp 3)), (xI (bd dp 4) cI 6 (G dp 4)), (xo_3_iiiiiiiirrrrr (ad (dp + 1)) (V (dp + 1) 0) (V (dp + 1) 1) (V (dp + 1) 2) (V (dp + 1) 3) (V (dp + 1) 4) (V (dp + 1) 5) (V (dp + 1) 6) (V (dp + 1) 7) (bd (dp + 1) 0) (bd (dp + 1) 1) (bd (dp + 1) 2) (bd (dp + 1) 3) (bd (dp + 1) 4)), (xI (bd (dp + 1) 0) cI 6 (G (dp + 1) 0)), (xI (bd (dp + 1) 1) cI 6 (G (dp + 1) 1)), (xI (bd (dp + 1) 2) cI 6 (G (dp + 1) 2)), (xI (bd (dp + 1) 3) cI 6 (G (dp + 1) 3)), (xI (bd (dp + 1) 4) cI 6 (G (dp + 1) 4))] : va_W) ++ pl_8) s.heap := hP
    have hD : va_D A (([(xo_2_riiiii c0 be (nI hn) wa br bw bt), (xJ be cL 9 fb), (xo_3_iiiiiiiirrrrr (ad dp) (V dp 0) (V dp 1) (V dp 2) (V dp 3) (V dp 4) (V dp 5) (V dp 6) (V dp 7) (bd dp 0) (bd dp 1) (bd dp 2) (bd dp 3) (bd dp 4)), (xI (bd dp 0) cI 6 (G dp 0)), (xI (bd dp 1) cI 6 (G dp 1)), (xI (bd dp 2) cI 6 (G dp 2)), (xI (bd dp 3) cI 6 (G dp 3)), (xI (bd dp 4) cI 6 (G dp 4)), (xo_3_iiiiiiiirrrrr (ad (dp + 1)) (V (dp + 1) 0) (V (dp + 1) 1) (V (dp + 1) 2) (V (dp + 1) 3) (V (dp + 1) 4) (V (dp + 1) 5) (V (dp + 1) 6) (V (dp + 1) 7) (bd (dp + 1) 0) (bd (dp + 1) 1) (bd (dp + 1) 2) (bd (dp + 1) 3) (bd (dp + 1) 4)), (xI (bd (dp + 1) 0) cI 6 (G (dp + 1) 0)), (xI (bd (dp + 1) 1) cI 6 (G (dp + 1) 1)), (xI (bd (dp + 1) 2) cI 6 (G (dp + 1) 2)), (xI (bd (dp + 1) 3) cI 6 (G (dp + 1) 3)), (xI (bd (dp + 1) 4) cI 6 (G (dp + 1) 4))] : va_W) ++ pl_8) := hD
    rw [e4, e6, e7] at hP hD
    refine lv_astore (lv' := [(5, .ref (ad (dp + 1))), (4, .int 0), (0, .ref c0), (1, .int (nI dp)), (2, .int x), (3, .int y)]) hx hb dX2_tryRows_44 hl (by decide) rfl (fun ls hl => ?_)
    refine lv_aload hx hb dX2_tryRows_46 (lv_at hl 0 rfl) ?_
    refine lv_aload_n hx hb dX2_tryRows_48 rfl (lv_at hl 2 rfl) ?_
    refine va_get (D := (dC, dI)) (ci := 2) (v := .ref be) (C := RX2) (T := TX2) (N := 6) hx hb hts i_X2_tryRows_X2 hown hK hP 0 rfl rfl 0 (by decide) (hts _ mx_X2_tryRows_2) (fun _ h9 => h9) rfl dX2_tryRows_49 ?_
    refine lv_iload_n hx hb dX2_tryRows_52 rfl (lv_at hl 3 rfl) ?_
    refine va_aldq hx hb hK hP 1 2 rfl rfl (vp_in_nI (by omega) (by omega)) dX2_tryRows_53 ?_
    refine W.eq (g2 := F0 m 54 ls (.ref (ad dp) :: [.ref (ad (dp + 1))])) (by show F0 m 54 ls (va_rf (fb (nI dp).toNatClampNeg) :: _) = _; rw [nI_clamp (by omega), hfb _ (by omega)]; rfl) ?_
    have hc_9 := cutX (wc := [(xo_3_iiiiiiiirrrrr (ad (dp + 1)) (V (dp + 1) 0) (V (dp + 1) 1) (V (dp + 1) 2) (V (dp + 1) 3) (V (dp + 1) 4) (V (dp + 1) 5) (V (dp + 1) 6) (V (dp + 1) 7) (bd (dp + 1) 0) (bd (dp + 1) 1) (bd (dp + 1) 2) (bd (dp + 1) 3) (bd (dp + 1) 4)), (xI (bd (dp + 1) 0) cI 6 (G (dp + 1) 0)), (xI (bd (dp + 1) 1) cI 6 (G (dp + 1) 1)), (xI (bd (dp + 1) 2) cI 6 (G (dp + 1) 2)), (xI (bd (dp + 1) 3) cI 6 (G (dp + 1) 3)), (xI (bd (dp + 1) 4) cI 6 (G (dp + 1) 4)), (xo_3_iiiiiiiirrrrr (ad dp) (V dp 0) (V dp 1) (V dp 2) (V dp 3) (nI hh) (V dp 5) (nI ww) (nI kk) (bd dp 0) (bd dp 1) (bd dp 2) (bd dp 3) (bd dp 4)), (xI (bd dp 0) cI 6 (G dp 0)), (xI (bd dp 1) cI 6 (G dp 1)), (xI (bd dp 2) cI 6 (G dp 2)), (xI (bd dp 3) cI 6 (G dp 3)), (xI (bd dp 4) cI 6 (G dp 4))]) hP hD hS hA [8, 9, 10, 11, 12, 13, 2, 3, 4, 5, 6, 7] (by decide +kernel) rfl
    refine va_callv (va_runV (As := [.ref (ad dp)]) (rest := []) ⟨hx, hb, hml, hown, hts⟩ (r_X3_becomeLike l dC dI cI cZ cL cJ s.heap.size (ad (dp + 1)) (V (dp + 1) 0) (V (dp + 1) 1) (V (dp + 1) 2) (V (dp + 1) 3) (V (dp + 1) 4) (V (dp + 1) 5) (V (dp + 1) 6) (V (dp + 1) 7) (bd (dp + 1) 0) (bd (dp + 1) 1) (bd (dp + 1) 2) (bd (dp + 1) 3) (bd (dp + 1) 4) (G (dp + 1) 0) (G (dp + 1) 1) (G (dp + 1) 2) (G (dp + 1) 3) (G (dp + 1) 4) (ad dp) (V dp 0) (V dp 1) (V dp 2) (V dp 3) (nI hh) (V dp 5) (nI ww) (nI kk) (bd dp 0) (bd dp 1) (bd dp 2) (bd dp 3) (bd dp 4) (G dp 0) (G dp 1) (G dp 2) (G dp 3) (G dp 4) ) (cwV 1 hts gX2_tryRows_X3_becomeLike rfl rfl rfl (by decide +kernel) ⟨by show 1 + 1 ≤ 14 - dp; omega, by show 8 + (2 + 11) + 80 ≤ 3000 - 200 * dp; omega⟩) (pvW 3 8 hK hP rfl rfl hc_9) rfl rfl hl.1 rfl (lv_room (Nat.le_of_ble_eq_true rfl)) dX2_tryRows_54 ⟨Nat.le_of_ble_eq_true rfl, Nat.le_of_ble_eq_true rfl⟩) hS (fun q _ h => hc_9.2.2 q h) hc_9.2.2 (fun u_9 t_9 H1 locs ht hvm h_9 hB hz1 hk1 hS => ?_)
    refine xl_5_7 hB (fun f1n_9 f2n_9 f3n_9 f4n_9 f5n_9 hP1 hD1 hF_9_0 hF_9_1 hF_9_2 hF_9_3 hF_9_4 => ?_)
    clear hB
    rw [ht] at hP1
    obtain ⟨hP, hD⟩ := va_joinQ (wr := [(xo_2_riiiii c0 be (nI hn) wa br bw bt), (xJ be cL 9 fb)]) (w1 := [(xo_3_iiiiiiiirrrrr (ad (dp + 1)) (V dp 0) (V dp 1) (V dp 2) (V dp 3) (nI hh) (V dp 5) (nI ww) (nI kk) (bd (dp + 1) 0) (bd (dp + 1) 1) (bd (dp + 1) 2) (bd (dp + 1) 3) (bd (dp + 1) 4)), (xI (bd (dp + 1) 0) cI 6 f1n_9), (xI (bd (dp + 1) 1) cI 6 f2n_9), (xI (bd (dp + 1) 2) cI 6 f3n_9), (xI (bd (dp + 1) 3) cI 6 f4n_9), (xI (bd (dp + 1) 4) cI 6 f5n_9), (xo_3_iiiiiiiirrrrr (ad dp) (V dp 0) (V dp 1) (V dp 2) (V dp 3) (nI hh) (V dp 5) (nI ww) (nI kk) (bd dp 0) (bd dp 1) (bd dp 2) (bd dp 3) (bd dp 4)), (xI (bd dp 0) cI 6 (G dp 0)), (xI (bd dp 1) cI 6 (G dp 1)), (xI (bd dp 2) cI 6 (G dp 2)), (xI (bd dp 3) cI 6 (G dp 3)), (xI (bd dp 4) cI 6 (G dp 4))]) hP hD [8, 9, 10, 11, 12, 13, 2, 3, 4, 5, 6, 7] [0, 1] rfl rfl (by decide +kernel) (by decide +kernel) hk1 hc_9.2.2 hP1 hD1
    generalize H1 = H at hP hS ⊢
    have hP : va_P (dC, dI) vwCl (([(xo_2_riiiii c0 be (nI hn) wa br bw bt), (xJ be cL 9 fb), (xo_3_iiiiiiiirrrrr (ad (dp + 1)) (V dp 0) (V dp 1) (V dp 2) (V dp 3) (nI hh) (V dp 5) (nI ww) (nI kk) (bd (dp + 1) 0) (bd (dp + 1) 1) (bd (dp + 1) 2) (bd (dp + 1) 3) (bd (dp + 1) 4)), (xI (bd (dp + 1) 0) cI 6 f1n_9), (xI (bd (dp + 1) 1) cI 6 f2n_9), (xI (bd (dp + 1) 2) cI 6 f3n_9), (xI (bd (dp + 1) 3) cI 6 f4n_9), (xI (bd (dp + 1) 4) cI 6 f5n_9), (xo_3_iiiiiiiirrrrr (ad dp) (V dp 0) (V dp 1) (V dp 2) (V dp 3) (nI hh) (V dp 5) (nI ww) (nI kk) (bd dp 0) (bd dp 1) (bd dp 2) (bd dp 3) (bd dp 4)), (xI (bd dp 0) cI 6 (G dp 0)), (xI (bd dp 1) cI 6 (G dp 1)), (xI (bd dp 2) cI 6 (G dp 2)), (xI (bd dp 3) cI 6 (G dp 3)), (xI (bd dp 4) cI 6 (G dp 4))] : va_W) ++ pl_8) H := hP
    have hD := dto hP hD
    refine lv_aload hx hb dX2_tryRows_57 (lv_at hl 0 rfl) ?_
    refine va_get (D := (dC, dI)) (ci := 3) (v := .int (V dp 3)) (C := RX3) (T := TX3) (N := 13) hx hb hts i_X2_tryRows_X3 hown hK hP 2 rfl rfl 3 (by decide) (hts _ mx_X2_tryRows_3) (fun _ h9 => h9) rfl dX2_tryRows_59 ?_
    refine lv_iload hx hb dX2_tryRows_62 (lv_at hl 1 rfl) ?_
    refine lv_icmp_ne (tgt := 71) hx hb dX2_tryRows_64 (by decide) (fun c_10 => ?_) (fun c_10 => ?_)
    · skip
      refine lv_iconst (v := 1) hx hb dX2_tryRows_71 (by decide) ?_
      refine lv_istore (lv' := [(6, .int 1), (5, .ref (ad (dp + 1))), (4, .int 0), (0, .ref c0), (1, .int (nI dp)), (2, .int x), (3, .int y)]) hx hb dX2_tryRows_72 hl (by decide) rfl (fun ls hl => ?_)
      refine lv_aload hx hb dX2_tryRows_74 (lv_at hl 1 rfl) ?_
      refine lv_iload hx hb dX2_tryRows_76 (lv_at hl 2 rfl) ?_
      refine va_put (D := (dC, dI)) (ci := 3) (v := .int 0) (ty := .int) (C := RX3) (T := TX3) (N := 13) hx hb hts i_X2_tryRows_X3 tyX3 tyX3_ok nmX3 hown hK hP hD hS 2 rfl rfl 3 (by decide) (hts _ mx_X2_tryRows_3) (fun _ h9 => h9) rfl (by decide +kernel) rfl rfl (Nat.le_of_ble_eq_true rfl) dX2_tryRows_78 (fun H locs hP hD hS => ?_)
      have hP : va_P (dC, dI) vwCl (([(xo_2_riiiii c0 be (nI hn) wa br bw bt), (xJ be cL 9 fb), (xo_3_iiiiiiiirrrrr (ad (dp + 1)) (V dp 0) (V dp 1) (V dp 2) 0 (nI hh) (V dp 5) (nI ww) (nI kk) (bd (dp + 1) 0) (bd (dp + 1) 1) (bd (dp + 1) 2) (bd (dp + 1) 3) (bd (dp + 1) 4)), (xI (bd (dp + 1) 0) cI 6 f1n_9), (xI (bd (dp + 1) 1) cI 6 f2n_9), (xI (bd (dp + 1) 2) cI 6 f3n_9), (xI (bd (dp + 1) 3) cI 6 f4n_9), (xI (bd (dp + 1) 4) cI 6 f5n_9), (xo_3_iiiiiiiirrrrr (ad dp) (V dp 0) (V dp 1) (V dp 2) (V dp 3) (nI hh) (V dp 5) (nI ww) (nI kk) (bd dp 0) (bd dp 1) (bd dp 2) (bd dp 3) (bd dp 4)), (xI (bd dp 0) cI 6 (G dp 0)), (xI (bd dp 1) cI 6 (G dp 1)), (xI (bd dp 2) cI 6 (G dp 2)), (xI (bd dp 3) cI 6 (G dp 3)), (xI (bd dp 4) cI 6 (G dp 4))] : va_W) ++ pl_8) H := hP
      have hD := dto hP hD
      refine lv_aload hx hb dX2_tryRows_81 (lv_at hl 1 rfl) ?_
      have hc_11 := cutX (wc := [(xo_3_iiiiiiiirrrrr (ad (dp + 1)) (V dp 0) (V dp 1) (V dp 2) 0 (nI hh) (V dp 5) (nI ww) (nI kk) (bd (dp + 1) 0) (bd (dp + 1) 1) (bd (dp + 1) 2) (bd (dp + 1) 3) (bd (dp + 1) 4)), (xI (bd (dp + 1) 0) cI 6 f1n_9), (xI (bd (dp + 1) 1) cI 6 f2n_9), (xI (bd (dp + 1) 2) cI 6 f3n_9), (xI (bd (dp + 1) 3) cI 6 f4n_9), (xI (bd (dp + 1) 4) cI 6 f5n_9)]) hP hD hS hA [2, 3, 4, 5, 6, 7] (by decide +kernel) rfl
      refine va_callv (va_runV (As := []) (rest := []) ⟨hx, hb, hml, hown, hts⟩ (r_X3_pass l dC dI cI cZ cL cJ H.size (ad (dp + 1)) (V dp 0) (V dp 1) (V dp 2) 0 (V dp 5) hh ww kk (bd (dp + 1) 0) (bd (dp + 1) 1) (bd (dp + 1) 2) (bd (dp + 1) 3) (bd (dp + 1) 4) f1n_9 f2n_9 f3n_9 f4n_9 f5n_9 (by omega) (hww) (hkk)) (cwV 0 hts gX2_tryRows_X3_pass rfl rfl rfl (by decide +kernel) ⟨by show 3 + 1 ≤ 14 - dp; omega, by show 8 + (3 + 11) + 66 ≤ 3000 - 200 * dp; omega⟩) (pvW 3 2 hK hP rfl rfl hc_11) rfl rfl hl.1 rfl (lv_room (Nat.le_of_ble_eq_true rfl)) dX2_tryRows_83 ⟨Nat.le_of_ble_eq_true rfl, Nat.le_of_ble_eq_true rfl⟩) hS (fun q _ h => hc_11.2.2 q h) hc_11.2.2 (fun u_11 t_11 H1 locs ht hvm h_11 hB hz1 hk1 hS => ?_)
      refine xl_4_3 hB (fun v5n_11 g3n_11 g4n_11 g5n_11 hP1 hD1 hF_11_0 => ?_)
      clear hB
      rw [ht] at hP1
      obtain ⟨hP, hD⟩ := va_joinQ (wr := [(xo_2_riiiii c0 be (nI hn) wa br bw bt), (xJ be cL 9 fb), (xo_3_iiiiiiiirrrrr (ad dp) (V dp 0) (V dp 1) (V dp 2) (V dp 3) (nI hh) (V dp 5) (nI ww) (nI kk) (bd dp 0) (bd dp 1) (bd dp 2) (bd dp 3) (bd dp 4)), (xI (bd dp 0) cI 6 (G dp 0)), (xI (bd dp 1) cI 6 (G dp 1)), (xI (bd dp 2) cI 6 (G dp 2)), (xI (bd dp 3) cI 6 (G dp 3)), (xI (bd dp 4) cI 6 (G dp 4))]) (w1 := [(xo_3_iiiiiiiirrrrr (ad (dp + 1)) (V dp 0) (V dp 1) (V dp 2) 0 (nI (hh + 1)) v5n_11 (nI ww) (nI kk) (bd (dp + 1) 0) (bd (dp + 1) 1) (bd (dp + 1) 2) (bd (dp + 1) 3) (bd (dp + 1) 4)), (xI (bd (dp + 1) 0) cI 6 f1n_9), (xI (bd (dp + 1) 1) cI 6 f2n_9), (xI (bd (dp + 1) 2) cI 6 g3n_11), (xI (bd (dp + 1) 3) cI 6 g4n_11), (xI (bd (dp + 1) 4) cI 6 g5n_11)]) hP hD [2, 3, 4, 5, 6, 7] [0, 1, 8, 9, 10, 11, 12, 13] rfl rfl (by decide +kernel) (by decide +kernel) hk1 hc_11.2.2 hP1 hD1
      generalize H1 = H at hP hS ⊢
      have hP : va_P (dC, dI) vwCl (([(xo_2_riiiii c0 be (nI hn) wa br bw bt), (xJ be cL 9 fb), (xo_3_iiiiiiiirrrrr (ad dp) (V dp 0) (V dp 1) (V dp 2) (V dp 3) (nI hh) (V dp 5) (nI ww) (nI kk) (bd dp 0) (bd dp 1) (bd dp 2) (bd dp 3) (bd dp 4)), (xI (bd dp 0) cI 6 (G dp 0)), (xI (bd dp 1) cI 6 (G dp 1)), (xI (bd dp 2) cI 6 (G dp 2)), (xI (bd dp 3) cI 6 (G dp 3)), (xI (bd dp 4) cI 6 (G dp 4)), (xo_3_iiiiiiiirrrrr (ad (dp + 1)) (V dp 0) (V dp 1) (V dp 2) 0 (nI (hh + 1)) v5n_11 (nI ww) (nI kk) (bd (dp + 1) 0) (bd (dp + 1) 1) (bd (dp + 1) 2) (bd (dp + 1) 3) (bd (dp + 1) 4)), (xI (bd (dp + 1) 0) cI 6 f1n_9), (xI (bd (dp + 1) 1) cI 6 f2n_9), (xI (bd (dp + 1) 2) cI 6 g3n_11), (xI (bd (dp + 1) 3) cI 6 g4n_11), (xI (bd (dp + 1) 4) cI 6 g5n_11)] : va_W) ++ pl_8) H := hP
      have hD := dto hP hD
      refine lv_aload_n hx hb dX2_tryRows_86 rfl (lv_at hl 3 rfl) ?_
      refine lv_iload_n hx hb dX2_tryRows_87 rfl (lv_at hl 4 rfl) ?_
      refine lv_iconst (v := 1) hx hb dX2_tryRows_88 (by decide) ?_
      refine lv_iadd hx hb dX2_tryRows_89 ?_
      refine lv_topi (fun v_12 e_12 => ?_)
      obtain rfl : v_12 = (nI (dp + 1)) := (e_12).trans (nI_add dp 1)
      refine lv_iload_n hx hb dX2_tryRows_90 rfl (lv_at hl 5 rfl) ?_
      refine lv_iconst (v := 1) hx hb dX2_tryRows_91 (by decide) ?_
      refine lv_ishl hx hb dX2_tryRows_92 ?_
      refine lv_topi (fun v_13 e_13 => ?_)
      refine lv_iload hx hb dX2_tryRows_93 (lv_at hl 2 rfl) ?_
      refine lv_ior hx hb dX2_tryRows_95 ?_
      refine lv_topi (fun v_14 e_14 => ?_)
      refine lv_iload_n hx hb dX2_tryRows_96 rfl (lv_at hl 6 rfl) ?_
      refine lv_iload hx hb dX2_tryRows_97 (lv_at hl 0 rfl) ?_
      refine lv_iadd hx hb dX2_tryRows_99 ?_
      refine lv_topi (fun v_15 e_15 => ?_)
      have hP := hbP_8 [(xo_2_riiiii c0 be (nI hn) wa br bw bt), (xJ be cL 9 fb)] ((nI hh)) ((nI ww)) ((nI kk)) ((V dp 0)) ((V dp 1)) ((V dp 2)) (0) ((nI (hh + 1))) (v5n_11) ((nI ww)) ((nI kk)) (f1n_9) (f2n_9) (g3n_11) (g4n_11) (g5n_11) _ e4 e6 e7 (hP.part (cx := (([(xo_2_riiiii c0 be (nI hn) wa br bw bt), (xJ be cL 9 fb)] : va_W) ++ ([(xo_3_iiiiiiiirrrrr (ad dp) (V dp 0) (V dp 1) (V dp 2) (V dp 3) (nI hh) (V dp 5) (nI ww) (nI kk) (bd dp 0) (bd dp 1) (bd dp 2) (bd dp 3) (bd dp 4)), (xI (bd dp 0) cI 6 (G dp 0)), (xI (bd dp 1) cI 6 (G dp 1)), (xI (bd dp 2) cI 6 (G dp 2)), (xI (bd dp 3) cI 6 (G dp 3)), (xI (bd dp 4) cI 6 (G dp 4)), (xo_3_iiiiiiiirrrrr (ad (dp + 1)) (V dp 0) (V dp 1) (V dp 2) 0 (nI (hh + 1)) v5n_11 (nI ww) (nI kk) (bd (dp + 1) 0) (bd (dp + 1) 1) (bd (dp + 1) 2) (bd (dp + 1) 3) (bd (dp + 1) 4)), (xI (bd (dp + 1) 0) cI 6 f1n_9), (xI (bd (dp + 1) 1) cI 6 f2n_9), (xI (bd (dp + 1) 2) cI 6 g3n_11), (xI (bd (dp + 1) 3) cI 6 g4n_11), (xI (bd (dp + 1) 4) cI 6 g5n_11)] : va_W))) [0, 1, 2, 3, 4, 5, 6, 7, 8, 9, 10, 11, 12, 13] rfl)
      have hD := hbD_8 [(xo_2_riiiii c0 be (nI hn) wa br bw bt), (xJ be cL 9 fb)] ((nI hh)) ((nI ww)) ((nI kk)) ((V dp 0)) ((V dp 1)) ((V dp 2)) (0) ((nI (hh + 1))) (v5n_11) ((nI ww)) ((nI kk)) (f1n_9) (f2n_9) (g3n_11) (g4n_11) (g5n_11) _ e4 e6 e7 (hD.part (cx := (([(xo_2_riiiii c0 be (nI hn) wa br bw bt), (xJ be cL 9 fb)] : va_W) ++ ([(xo_3_iiiiiiiirrrrr (ad dp) (V dp 0) (V dp 1) (V dp 2) (V dp 3) (nI hh) (V dp 5) (nI ww) (nI kk) (bd dp 0) (bd dp 1) (bd dp 2) (bd dp 3) (bd dp 4)), (xI (bd dp 0) cI 6 (G dp 0)), (xI (bd dp 1) cI 6 (G dp 1)), (xI (bd dp 2) cI 6 (G dp 2)), (xI (bd dp 3) cI 6 (G dp 3)), (xI (bd dp 4) cI 6 (G dp 4)), (xo_3_iiiiiiiirrrrr (ad (dp + 1)) (V dp 0) (V dp 1) (V dp 2) 0 (nI (hh + 1)) v5n_11 (nI ww) (nI kk) (bd (dp + 1) 0) (bd (dp + 1) 1) (bd (dp + 1) 2) (bd (dp + 1) 3) (bd (dp + 1) 4)), (xI (bd (dp + 1) 0) cI 6 f1n_9), (xI (bd (dp + 1) 1) cI 6 f2n_9), (xI (bd (dp + 1) 2) cI 6 g3n_11), (xI (bd (dp + 1) 3) cI 6 g4n_11), (xI (bd (dp + 1) 4) cI 6 g5n_11)] : va_W))) [0, 1, 2, 3, 4, 5, 6, 7, 8, 9, 10, 11, 12, 13] (by decide +kernel) rfl)
      generalize hV_16 : va_up V (dp + 1) (fun k => [(V dp 0), (V dp 1), (V dp 2), 0, (nI (hh + 1)), v5n_11, (nI ww), (nI kk)].getD k 0) = V_16 at hP hD
      generalize hG_16 : va_up G (dp + 1) (fun k => [f1n_9, f2n_9, g3n_11, g4n_11, g5n_11].getD k (fun _ => 0)) = G_16 at hP hD
      have hP : va_P (dC, dI) vwCl (([(xo_2_riiiii c0 be (nI hn) wa br bw bt), (xJ be cL 9 fb)] : va_W) ++ lvs cI 9 ad bd V_16 G_16) H := hP
      have hD : va_D A (([(xo_2_riiiii c0 be (nI hn) wa br bw bt), (xJ be cL 9 fb)] : va_W) ++ lvs cI 9 ad bd V_16 G_16) := hD
      have s4_16 : V_16 (dp + 1) 4 = (nI (hh + 1)) := by rw [← hV_16, va_up_self]; rfl
      have s6_16 : V_16 (dp + 1) 6 = (nI ww) := by rw [← hV_16, va_up_self]; rfl
      have s7_16 : V_16 (dp + 1) 7 = (nI kk) := by rw [← hV_16, va_up_self]; rfl
      have kp_16 : ∀ j : Nat, j ≤ dp → V_16 j = V j ∧ G_16 j = G j := fun j hj => by rw [← hV_16, ← hG_16, va_up_ne _ _ (by omega), va_up_ne _ _ (by omega)]; exact ⟨rfl, rfl⟩
      have a4_16 : V_16 dp 4 = nI hh := by rw [(kp_16 dp (Nat.le_refl _)).1]; exact e4
      have a6_16 : V_16 dp 6 = nI ww := by rw [(kp_16 dp (Nat.le_refl _)).1]; exact e6
      have a7_16 : V_16 dp 7 = nI kk := by rw [(kp_16 dp (Nat.le_refl _)).1]; exact e7
      have nx_16 : nrV (V_16 (dp + 1)) (G_16 (dp + 1)) = mH (upd (nrV (V dp) (G dp)) 6 0) ∧ okN (999 + (dp + 1)) (nrV (V_16 (dp + 1)) (G_16 (dp + 1))) := by
        rw [← hV_16, ← hG_16, va_up_self, va_up_self]
        exact cap_nx rfl rfl hN e4 e6 e7 hhb hww hkk (by omega) (by decide) hF_9_0 hF_9_1 hF_9_2 hF_9_3 hF_9_4 hF_11_0
      have hc_17 := cutP (cx := [(xo_2_riiiii c0 be (nI hn) wa br bw bt), (xJ be cL 9 fb)]) hP hD hS hA [0, 1] (by decide +kernel) rfl
      refine va_callv (va_runV (As := [.int (nI (dp + 1)), .int v_14, .int v_15]) (rest := []) ⟨hx, hb, hml, hown, hts⟩ (IH l dC dI cI cZ cL cJ H.size c0 be hn wa br bw bt fb ad bd V_16 G_16 (hh + 1) ww kk v_14 v_15 (hfb) (s4_16) (s6_16) (s7_16) (by omega) (hww) (hkk) (by omega) (hn8) (nx_16.2)) (cwV 3 hts gX2_tryRows_X2_tryRows rfl rfl rfl (by decide +kernel) ⟨by show 14 - (dp + 1) + 1 ≤ 14 - dp; omega, by show 8 + (7 + 11) + (3000 - 200 * (dp + 1)) ≤ 3000 - 200 * dp; omega⟩) (pvW 2 0 hK hP rfl rfl hc_17) rfl rfl hl.1 rfl (lv_room (Nat.le_of_ble_eq_true rfl)) dX2_tryRows_100 ⟨Nat.le_of_ble_eq_true rfl, Nat.le_of_ble_eq_true rfl⟩) hS (fun q _ h => hc_17.2.2 q h) hc_17.2.2 (fun u_17 t_17 H1 locs ht hvm h_17 hB hz1 hk1 hS => ?_)
      refine xl_5_4 hB (fun Vn_17 Gn_17 brn_17 bwn_17 btn_17 hP1 hD1 hF_17_0 hF_17_1 => ?_)
      clear hB
      rw [ht] at hP1
      obtain ⟨hP, hD⟩ := va_joinP (wr := []) (rx := [(xo_2_riiiii c0 be (nI hn) wa brn_17 bwn_17 btn_17), (xJ be cL 9 fb)]) (pl1 := lvs cI 9 ad bd Vn_17 Gn_17) hP hD [0, 1] [] rfl rfl (by decide +kernel) (by decide +kernel) hk1 hc_17.2.2 hP1 hD1
      generalize H1 = H at hP hS ⊢
      have hP : va_P (dC, dI) vwCl (([(xo_2_riiiii c0 be (nI hn) wa brn_17 bwn_17 btn_17), (xJ be cL 9 fb)] : va_W) ++ lvs cI 9 ad bd Vn_17 Gn_17) H := hP
      have hD := dto hP hD
      have kq_17 : ∀ j : Nat, j ≤ dp → Vn_17 j = V j ∧ Gn_17 j = G j := fun j hj => ⟨(hF_17_0 j (by omega)).1.trans ((kp_16 j hj)).1, (hF_17_0 j (by omega)).2.trans ((kp_16 j hj)).2⟩
      have b4_17 : Vn_17 dp 4 = nI hh := by rw [(kq_17 dp (Nat.le_refl _)).1]; exact e4
      have b6_17 : Vn_17 dp 6 = nI ww := by rw [(kq_17 dp (Nat.le_refl _)).1]; exact e6
      have b7_17 : Vn_17 dp 7 = nI kk := by rw [(kq_17 dp (Nat.le_refl _)).1]; exact e7
      have kd_17 : Vn_17 dp = V dp := (kq_17 dp (Nat.le_refl _)).1
      refine lv_iinc (v := 1) (lv' := [(4, .int 1), (6, .int 1), (5, .ref (ad (dp + 1))), (0, .ref c0), (1, .int (nI dp)), (2, .int x), (3, .int y)]) hx hb dX2_tryRows_103 hl (k := 2) rfl (by decide) (by decide) rfl (fun ls hl => ?_)
      refine lv_goto (tgt := 30) hx hb dX2_tryRows_106 (by decide) ?_
      refine lv_iload hx hb dX2_tryRows_30 (lv_at hl 0 rfl) ?_
      refine lv_iconst (v := 1) hx hb dX2_tryRows_32 (by decide) ?_
      refine lv_icmp_gt (tgt := 109) hx hb dX2_tryRows_33 (by decide) (fun c_ => absurd c_ (by decide)) (fun _ => ?_)
      refine lv_aload_n hx hb dX2_tryRows_36 rfl (lv_at hl 3 rfl) ?_
      refine va_get (D := (dC, dI)) (ci := 2) (v := .ref be) (C := RX2) (T := TX2) (N := 6) hx hb hts i_X2_tryRows_X2 hown hK hP 0 rfl rfl 0 (by decide) (hts _ mx_X2_tryRows_2) (fun _ h9 => h9) rfl dX2_tryRows_37 ?_
      refine lv_iload_n hx hb dX2_tryRows_40 rfl (lv_at hl 4 rfl) ?_
      refine lv_iconst (v := 1) hx hb dX2_tryRows_41 (by decide) ?_
      refine lv_iadd hx hb dX2_tryRows_42 ?_
      refine lv_topi (fun v_19 e_19 => ?_)
      obtain rfl : v_19 = (nI (dp + 1)) := (e_19).trans (nI_add dp 1)
      refine va_aldq hx hb hK hP 1 2 rfl rfl (vp_in_nI (by omega) (by omega)) dX2_tryRows_43 ?_
      refine W.eq (g2 := F0 m 44 ls (.ref (ad (dp + 1)) :: [])) (by show F0 m 44 ls (va_rf (fb (nI (dp + 1)).toNatClampNeg) :: _) = _; rw [nI_clamp (by omega), hfb _ (by omega)]; rfl) ?_
      obtain ⟨pl_20, hP, hD, hbP_20, hbD_20⟩ := blk_opn2 hP hD (i := dp) (by omega)
      have hP : va_P (dC, dI) vwCl (([(xo_2_riiiii c0 be (nI hn) wa brn_17 bwn_17 btn_17), (xJ be cL 9 fb), (xo_3_iiiiiiiirrrrr (ad dp) (Vn_17 dp 0) (Vn_17 dp 1) (Vn_17 dp 2) (Vn_17 dp 3) (Vn_17 dp 4) (Vn_17 dp 5) (Vn_17 dp 6) (Vn_17 dp 7) (bd dp 0) (bd dp 1) (bd dp 2) (bd dp 3) (bd dp 4)), (xI (bd dp 0) cI 6 (Gn_17 dp 0)), (xI (bd dp 1) cI 6 (Gn_17 dp 1)), (xI (bd dp 2) cI 6 (Gn_17 dp 2)), (xI (bd dp 3) cI 6 (Gn_17 dp 3)), (xI (bd dp 4) cI 6 (Gn_17 dp 4)), (xo_3_iiiiiiiirrrrr (ad (dp + 1)) (Vn_17 (dp + 1) 0) (Vn_17 (dp + 1) 1) (Vn_17 (dp + 1) 2) (Vn_17 (dp + 1) 3) (Vn_17 (dp + 1) 4) (Vn_17 (dp + 1) 5) (Vn_17 (dp + 1) 6) (Vn_17 (dp + 1) 7) (bd (dp + 1) 0) (bd (dp + 1) 1) (bd (dp + 1) 2) (bd (dp + 1) 3) (bd (dp + 1) 4)), (xI (bd (dp + 1) 0) cI 6 (Gn_17 (dp + 1) 0)), (xI (bd (dp + 1) 1) cI 6 (Gn_17 (dp + 1) 1)), (xI (bd (dp + 1) 2) cI 6 (Gn_17 (dp + 1) 2)), (xI (bd (dp + 1) 3) cI 6 (Gn_17 (dp + 1) 3)), (xI (bd (dp + 1) 4) cI 6 (Gn_17 (dp + 1) 4))] : va_W) ++ pl_20) H := hP
      have hD : va_D A (([(xo_2_riiiii c0 be (nI hn) wa brn_17 bwn_17 btn_17), (xJ be cL 9 fb), (xo_3_iiiiiiiirrrrr (ad dp) (Vn_17 dp 0) (Vn_17 dp 1) (Vn_17 dp 2) (Vn_17 dp 3) (Vn_17 dp 4) (Vn_17 dp 5) (Vn_17 dp 6) (Vn_17 dp 7) (bd dp 0) (bd dp 1) (bd dp 2) (bd dp 3) (bd dp 4)), (xI (bd dp 0) cI 6 (Gn_17 dp 0)), (xI (bd dp 1) cI 6 (Gn_17 dp 1)), (xI (bd dp 2) cI 6 (Gn_17 dp 2)), (xI (bd dp 3) cI 6 (Gn_17 dp 3)), (xI (bd dp 4) cI 6 (Gn_17 dp 4)), (xo_3_iiiiiiiirrrrr (ad (dp + 1)) (Vn_17 (dp + 1) 0) (Vn_17 (dp + 1) 1) (Vn_17 (dp + 1) 2) (Vn_17 (dp + 1) 3) (Vn_17 (dp + 1) 4) (Vn_17 (dp + 1) 5) (Vn_17 (dp + 1) 6) (Vn_17 (dp + 1) 7) (bd (dp + 1) 0) (bd (dp + 1) 1) (bd (dp + 1) 2) (bd (dp + 1) 3) (bd (dp + 1) 4)), (xI (bd (dp + 1) 0) cI 6 (Gn_17 (dp + 1) 0)), (xI (bd (dp + 1) 1) cI 6 (Gn_17 (dp + 1) 1)), (xI (bd (dp + 1) 2) cI 6 (Gn_17 (dp + 1) 2)), (xI (bd (dp + 1) 3) cI 6 (Gn_17 (dp + 1) 3)), (xI (bd (dp + 1) 4) cI 6 (Gn_17 (dp + 1) 4))] : va_W) ++ pl_20) := hD
      rw [b4_17, b6_17, b7_17] at hP hD
      refine lv_astore (lv' := [(5, .ref (ad (dp + 1))), (4, .int 1), (6, .int 1), (0, .ref c0), (1, .int (nI dp)), (2, .int x), (3, .int y)]) hx hb dX2_tryRows_44 hl (by decide) rfl (fun ls hl => ?_)
      refine lv_aload hx hb dX2_tryRows_46 (lv_at hl 0 rfl) ?_
      refine lv_aload_n hx hb dX2_tryRows_48 rfl (lv_at hl 3 rfl) ?_
      refine va_get (D := (dC, dI)) (ci := 2) (v := .ref be) (C := RX2) (T := TX2) (N := 6) hx hb hts i_X2_tryRows_X2 hown hK hP 0 rfl rfl 0 (by decide) (hts _ mx_X2_tryRows_2) (fun _ h9 => h9) rfl dX2_tryRows_49 ?_
      refine lv_iload_n hx hb dX2_tryRows_52 rfl (lv_at hl 4 rfl) ?_
      refine va_aldq hx hb hK hP 1 2 rfl rfl (vp_in_nI (by omega) (by omega)) dX2_tryRows_53 ?_
      refine W.eq (g2 := F0 m 54 ls (.ref (ad dp) :: [.ref (ad (dp + 1))])) (by show F0 m 54 ls (va_rf (fb (nI dp).toNatClampNeg) :: _) = _; rw [nI_clamp (by omega), hfb _ (by omega)]; rfl) ?_
      have hc_21 := cutX (wc := [(xo_3_iiiiiiiirrrrr (ad (dp + 1)) (Vn_17 (dp + 1) 0) (Vn_17 (dp + 1) 1) (Vn_17 (dp + 1) 2) (Vn_17 (dp + 1) 3) (Vn_17 (dp + 1) 4) (Vn_17 (dp + 1) 5) (Vn_17 (dp + 1) 6) (Vn_17 (dp + 1) 7) (bd (dp + 1) 0) (bd (dp + 1) 1) (bd (dp + 1) 2) (bd (dp + 1) 3) (bd (dp + 1) 4)), (xI (bd (dp + 1) 0) cI 6 (Gn_17 (dp + 1) 0)), (xI (bd (dp + 1) 1) cI 6 (Gn_17 (dp + 1) 1)), (xI (bd (dp + 1) 2) cI 6 (Gn_17 (dp + 1) 2)), (xI (bd (dp + 1) 3) cI 6 (Gn_17 (dp + 1) 3)), (xI (bd (dp + 1) 4) cI 6 (Gn_17 (dp + 1) 4)), (xo_3_iiiiiiiirrrrr (ad dp) (Vn_17 dp 0) (Vn_17 dp 1) (Vn_17 dp 2) (Vn_17 dp 3) (nI hh) (Vn_17 dp 5) (nI ww) (nI kk) (bd dp 0) (bd dp 1) (bd dp 2) (bd dp 3) (bd dp 4)), (xI (bd dp 0) cI 6 (Gn_17 dp 0)), (xI (bd dp 1) cI 6 (Gn_17 dp 1)), (xI (bd dp 2) cI 6 (Gn_17 dp 2)), (xI (bd dp 3) cI 6 (Gn_17 dp 3)), (xI (bd dp 4) cI 6 (Gn_17 dp 4))]) hP hD hS hA [8, 9, 10, 11, 12, 13, 2, 3, 4, 5, 6, 7] (by decide +kernel) rfl
      refine va_callv (va_runV (As := [.ref (ad dp)]) (rest := []) ⟨hx, hb, hml, hown, hts⟩ (r_X3_becomeLike l dC dI cI cZ cL cJ H.size (ad (dp + 1)) (Vn_17 (dp + 1) 0) (Vn_17 (dp + 1) 1) (Vn_17 (dp + 1) 2) (Vn_17 (dp + 1) 3) (Vn_17 (dp + 1) 4) (Vn_17 (dp + 1) 5) (Vn_17 (dp + 1) 6) (Vn_17 (dp + 1) 7) (bd (dp + 1) 0) (bd (dp + 1) 1) (bd (dp + 1) 2) (bd (dp + 1) 3) (bd (dp + 1) 4) (Gn_17 (dp + 1) 0) (Gn_17 (dp + 1) 1) (Gn_17 (dp + 1) 2) (Gn_17 (dp + 1) 3) (Gn_17 (dp + 1) 4) (ad dp) (Vn_17 dp 0) (Vn_17 dp 1) (Vn_17 dp 2) (Vn_17 dp 3) (nI hh) (Vn_17 dp 5) (nI ww) (nI kk) (bd dp 0) (bd dp 1) (bd dp 2) (bd dp 3) (bd dp 4) (Gn_17 dp 0) (Gn_17 dp 1) (Gn_17 dp 2) (Gn_17 dp 3) (Gn_17 dp 4) ) (cwV 1 hts gX2_tryRows_X3_becomeLike rfl rfl rfl (by decide +kernel) ⟨by show 1 + 1 ≤ 14 - dp; omega, by show 8 + (2 + 11) + 80 ≤ 3000 - 200 * dp; omega⟩) (pvW 3 8 hK hP rfl rfl hc_21) rfl rfl hl.1 rfl (lv_room (Nat.le_of_ble_eq_true rfl)) dX2_tryRows_54 ⟨Nat.le_of_ble_eq_true rfl, Nat.le_of_ble_eq_true rfl⟩) hS (fun q _ h => hc_21.2.2 q h) hc_21.2.2 (fun u_21 t_21 H1 locs ht hvm h_21 hB hz1 hk1 hS => ?_)
      refine xl_5_7 hB (fun f1n_21 f2n_21 f3n_21 f4n_21 f5n_21 hP1 hD1 hF_21_0 hF_21_1 hF_21_2 hF_21_3 hF_21_4 => ?_)
      clear hB
      rw [ht] at hP1
      obtain ⟨hP, hD⟩ := va_joinQ (wr := [(xo_2_riiiii c0 be (nI hn) wa brn_17 bwn_17 btn_17), (xJ be cL 9 fb)]) (w1 := [(xo_3_iiiiiiiirrrrr (ad (dp + 1)) (Vn_17 dp 0) (Vn_17 dp 1) (Vn_17 dp 2) (Vn_17 dp 3) (nI hh) (Vn_17 dp 5) (nI ww) (nI kk) (bd (dp + 1) 0) (bd (dp + 1) 1) (bd (dp + 1) 2) (bd (dp + 1) 3) (bd (dp + 1) 4)), (xI (bd (dp + 1) 0) cI 6 f1n_21), (xI (bd (dp + 1) 1) cI 6 f2n_21), (xI (bd (dp + 1) 2) cI 6 f3n_21), (xI (bd (dp + 1) 3) cI 6 f4n_21), (xI (bd (dp + 1) 4) cI 6 f5n_21), (xo_3_iiiiiiiirrrrr (ad dp) (Vn_17 dp 0) (Vn_17 dp 1) (Vn_17 dp 2) (Vn_17 dp 3) (nI hh) (Vn_17 dp 5) (nI ww) (nI kk) (bd dp 0) (bd dp 1) (bd dp 2) (bd dp 3) (bd dp 4)), (xI (bd dp 0) cI 6 (Gn_17 dp 0)), (xI (bd dp 1) cI 6 (Gn_17 dp 1)), (xI (bd dp 2) cI 6 (Gn_17 dp 2)), (xI (bd dp 3) cI 6 (Gn_17 dp 3)), (xI (bd dp 4) cI 6 (Gn_17 dp 4))]) hP hD [8, 9, 10, 11, 12, 13, 2, 3, 4, 5, 6, 7] [0, 1] rfl rfl (by decide +kernel) (by decide +kernel) hk1 hc_21.2.2 hP1 hD1
      generalize H1 = H at hP hS ⊢
      have hP : va_P (dC, dI) vwCl (([(xo_2_riiiii c0 be (nI hn) wa brn_17 bwn_17 btn_17), (xJ be cL 9 fb), (xo_3_iiiiiiiirrrrr (ad (dp + 1)) (Vn_17 dp 0) (Vn_17 dp 1) (Vn_17 dp 2) (Vn_17 dp 3) (nI hh) (Vn_17 dp 5) (nI ww) (nI kk) (bd (dp + 1) 0) (bd (dp + 1) 1) (bd (dp + 1) 2) (bd (dp + 1) 3) (bd (dp + 1) 4)), (xI (bd (dp + 1) 0) cI 6 f1n_21), (xI (bd (dp + 1) 1) cI 6 f2n_21), (xI (bd (dp + 1) 2) cI 6 f3n_21), (xI (bd (dp + 1) 3) cI 6 f4n_21), (xI (bd (dp + 1) 4) cI 6 f5n_21), (xo_3_iiiiiiiirrrrr (ad dp) (Vn_17 dp 0) (Vn_17 dp 1) (Vn_17 dp 2) (Vn_17 dp 3) (nI hh) (Vn_17 dp 5) (nI ww) (nI kk) (bd dp 0) (bd dp 1) (bd dp 2) (bd dp 3) (bd dp 4)), (xI (bd dp 0) cI 6 (Gn_17 dp 0)), (xI (bd dp 1) cI 6 (Gn_17 dp 1)), (xI (bd dp 2) cI 6 (Gn_17 dp 2)), (xI (bd dp 3) cI 6 (Gn_17 dp 3)), (xI (bd dp 4) cI 6 (Gn_17 dp 4))] : va_W) ++ pl_20) H := hP
      have hD := dto hP hD
      refine lv_aload hx hb dX2_tryRows_57 (lv_at hl 0 rfl) ?_
      refine va_get (D := (dC, dI)) (ci := 3) (v := .int (Vn_17 dp 3)) (C := RX3) (T := TX3) (N := 13) hx hb hts i_X2_tryRows_X3 hown hK hP 2 rfl rfl 3 (by decide) (hts _ mx_X2_tryRows_3) (fun _ h9 => h9) rfl dX2_tryRows_59 ?_
      refine lv_iload hx hb dX2_tryRows_62 (lv_at hl 1 rfl) ?_
      refine lv_icmp_ne (tgt := 71) hx hb dX2_tryRows_64 (by decide) (fun c_22 => ?_) (fun c_22 => ?_)
      · skip
        refine lv_iconst (v := 1) hx hb dX2_tryRows_71 (by decide) ?_
        refine lv_istore (lv' := [(6, .int 1), (5, .ref (ad (dp + 1))), (4, .int 1), (0, .ref c0), (1, .int (nI dp)), (2, .int x), (3, .int y)]) hx hb dX2_tryRows_72 hl (by decide) rfl (fun ls hl => ?_)
        refine lv_aload hx hb dX2_tryRows_74 (lv_at hl 1 rfl) ?_
        refine lv_iload hx hb dX2_tryRows_76 (lv_at hl 2 rfl) ?_
        refine va_put (D := (dC, dI)) (ci := 3) (v := .int 1) (ty := .int) (C := RX3) (T := TX3) (N := 13) hx hb hts i_X2_tryRows_X3 tyX3 tyX3_ok nmX3 hown hK hP hD hS 2 rfl rfl 3 (by decide) (hts _ mx_X2_tryRows_3) (fun _ h9 => h9) rfl (by decide +kernel) rfl rfl (Nat.le_of_ble_eq_true rfl) dX2_tryRows_78 (fun H locs hP hD hS => ?_)
        have hP : va_P (dC, dI) vwCl (([(xo_2_riiiii c0 be (nI hn) wa brn_17 bwn_17 btn_17), (xJ be cL 9 fb), (xo_3_iiiiiiiirrrrr (ad (dp + 1)) (Vn_17 dp 0) (Vn_17 dp 1) (Vn_17 dp 2) 1 (nI hh) (Vn_17 dp 5) (nI ww) (nI kk) (bd (dp + 1) 0) (bd (dp + 1) 1) (bd (dp + 1) 2) (bd (dp + 1) 3) (bd (dp + 1) 4)), (xI (bd (dp + 1) 0) cI 6 f1n_21), (xI (bd (dp + 1) 1) cI 6 f2n_21), (xI (bd (dp + 1) 2) cI 6 f3n_21), (xI (bd (dp + 1) 3) cI 6 f4n_21), (xI (bd (dp + 1) 4) cI 6 f5n_21), (xo_3_iiiiiiiirrrrr (ad dp) (Vn_17 dp 0) (Vn_17 dp 1) (Vn_17 dp 2) (Vn_17 dp 3) (nI hh) (Vn_17 dp 5) (nI ww) (nI kk) (bd dp 0) (bd dp 1) (bd dp 2) (bd dp 3) (bd dp 4)), (xI (bd dp 0) cI 6 (Gn_17 dp 0)), (xI (bd dp 1) cI 6 (Gn_17 dp 1)), (xI (bd dp 2) cI 6 (Gn_17 dp 2)), (xI (bd dp 3) cI 6 (Gn_17 dp 3)), (xI (bd dp 4) cI 6 (Gn_17 dp 4))] : va_W) ++ pl_20) H := hP
        have hD := dto hP hD
        refine lv_aload hx hb dX2_tryRows_81 (lv_at hl 1 rfl) ?_
        have hc_23 := cutX (wc := [(xo_3_iiiiiiiirrrrr (ad (dp + 1)) (Vn_17 dp 0) (Vn_17 dp 1) (Vn_17 dp 2) 1 (nI hh) (Vn_17 dp 5) (nI ww) (nI kk) (bd (dp + 1) 0) (bd (dp + 1) 1) (bd (dp + 1) 2) (bd (dp + 1) 3) (bd (dp + 1) 4)), (xI (bd (dp + 1) 0) cI 6 f1n_21), (xI (bd (dp + 1) 1) cI 6 f2n_21), (xI (bd (dp + 1) 2) cI 6 f3n_21), (xI (bd (dp + 1) 3) cI 6 f4n_21), (xI (bd (dp + 1) 4) cI 6 f5n_21)]) hP hD hS hA [2, 3, 4, 5, 6, 7] (by decide +kernel) rfl
        refine va_callv (va_runV (As := []) (rest := []) ⟨hx, hb, hml, hown, hts⟩ (r_X3_pass l dC dI cI cZ cL cJ H.size (ad (dp + 1)) (Vn_17 dp 0) (Vn_17 dp 1) (Vn_17 dp 2) 1 (Vn_17 dp 5) hh ww kk (bd (dp + 1) 0) (bd (dp + 1) 1) (bd (dp + 1) 2) (bd (dp + 1) 3) (bd (dp + 1) 4) f1n_21 f2n_21 f3n_21 f4n_21 f5n_21 (by omega) (hww) (hkk)) (cwV 0 hts gX2_tryRows_X3_pass rfl rfl rfl (by decide +kernel) ⟨by show 3 + 1 ≤ 14 - dp; omega, by show 8 + (3 + 11) + 66 ≤ 3000 - 200 * dp; omega⟩) (pvW 3 2 hK hP rfl rfl hc_23) rfl rfl hl.1 rfl (lv_room (Nat.le_of_ble_eq_true rfl)) dX2_tryRows_83 ⟨Nat.le_of_ble_eq_true rfl, Nat.le_of_ble_eq_true rfl⟩) hS (fun q _ h => hc_23.2.2 q h) hc_23.2.2 (fun u_23 t_23 H1 locs ht hvm h_23 hB hz1 hk1 hS => ?_)
        refine xl_4_3 hB (fun v5n_23 g3n_23 g4n_23 g5n_23 hP1 hD1 hF_23_0 => ?_)
        clear hB
        rw [ht] at hP1
        obtain ⟨hP, hD⟩ := va_joinQ (wr := [(xo_2_riiiii c0 be (nI hn) wa brn_17 bwn_17 btn_17), (xJ be cL 9 fb), (xo_3_iiiiiiiirrrrr (ad dp) (Vn_17 dp 0) (Vn_17 dp 1) (Vn_17 dp 2) (Vn_17 dp 3) (nI hh) (Vn_17 dp 5) (nI ww) (nI kk) (bd dp 0) (bd dp 1) (bd dp 2) (bd dp 3) (bd dp 4)), (xI (bd dp 0) cI 6 (Gn_17 dp 0)), (xI (bd dp 1) cI 6 (Gn_17 dp 1)), (xI (bd dp 2) cI 6 (Gn_17 dp 2)), (xI (bd dp 3) cI 6 (Gn_17 dp 3)), (xI (bd dp 4) cI 6 (Gn_17 dp 4))]) (w1 := [(xo_3_iiiiiiiirrrrr (ad (dp + 1)) (Vn_17 dp 0) (Vn_17 dp 1) (Vn_17 dp 2) 1 (nI (hh + 1)) v5n_23 (nI ww) (nI kk) (bd (dp + 1) 0) (bd (dp + 1) 1) (bd (dp + 1) 2) (bd (dp + 1) 3) (bd (dp + 1) 4)), (xI (bd (dp + 1) 0) cI 6 f1n_21), (xI (bd (dp + 1) 1) cI 6 f2n_21), (xI (bd (dp + 1) 2) cI 6 g3n_23), (xI (bd (dp + 1) 3) cI 6 g4n_23), (xI (bd (dp + 1) 4) cI 6 g5n_23)]) hP hD [2, 3, 4, 5, 6, 7] [0, 1, 8, 9, 10, 11, 12, 13] rfl rfl (by decide +kernel) (by decide +kernel) hk1 hc_23.2.2 hP1 hD1
        generalize H1 = H at hP hS ⊢
        have hP : va_P (dC, dI) vwCl (([(xo_2_riiiii c0 be (nI hn) wa brn_17 bwn_17 btn_17), (xJ be cL 9 fb), (xo_3_iiiiiiiirrrrr (ad dp) (Vn_17 dp 0) (Vn_17 dp 1) (Vn_17 dp 2) (Vn_17 dp 3) (nI hh) (Vn_17 dp 5) (nI ww) (nI kk) (bd dp 0) (bd dp 1) (bd dp 2) (bd dp 3) (bd dp 4)), (xI (bd dp 0) cI 6 (Gn_17 dp 0)), (xI (bd dp 1) cI 6 (Gn_17 dp 1)), (xI (bd dp 2) cI 6 (Gn_17 dp 2)), (xI (bd dp 3) cI 6 (Gn_17 dp 3)), (xI (bd dp 4) cI 6 (Gn_17 dp 4)), (xo_3_iiiiiiiirrrrr (ad (dp + 1)) (Vn_17 dp 0) (Vn_17 dp 1) (Vn_17 dp 2) 1 (nI (hh + 1)) v5n_23 (nI ww) (nI kk) (bd (dp + 1) 0) (bd (dp + 1) 1) (bd (dp + 1) 2) (bd (dp + 1) 3) (bd (dp + 1) 4)), (xI (bd (dp + 1) 0) cI 6 f1n_21), (xI (bd (dp + 1) 1) cI 6 f2n_21), (xI (bd (dp + 1) 2) cI 6 g3n_23), (xI (bd (dp + 1) 3) cI 6 g4n_23), (xI (bd (dp + 1) 4) cI 6 g5n_23)] : va_W) ++ pl_20) H := hP
        have hD := dto hP hD
        refine lv_aload_n hx hb dX2_tryRows_86 rfl (lv_at hl 3 rfl) ?_
        refine lv_iload_n hx hb dX2_tryRows_87 rfl (lv_at hl 4 rfl) ?_
        refine lv_iconst (v := 1) hx hb dX2_tryRows_88 (by decide) ?_
        refine lv_iadd hx hb dX2_tryRows_89 ?_
        refine lv_topi (fun v_24 e_24 => ?_)
        obtain rfl : v_24 = (nI (dp + 1)) := (e_24).trans (nI_add dp 1)
        refine lv_iload_n hx hb dX2_tryRows_90 rfl (lv_at hl 5 rfl) ?_
        refine lv_iconst (v := 1) hx hb dX2_tryRows_91 (by decide) ?_
        refine lv_ishl hx hb dX2_tryRows_92 ?_
        refine lv_topi (fun v_25 e_25 => ?_)
        refine lv_iload hx hb dX2_tryRows_93 (lv_at hl 2 rfl) ?_
        refine lv_ior hx hb dX2_tryRows_95 ?_
        refine lv_topi (fun v_26 e_26 => ?_)
        refine lv_iload_n hx hb dX2_tryRows_96 rfl (lv_at hl 6 rfl) ?_
        refine lv_iload hx hb dX2_tryRows_97 (lv_at hl 0 rfl) ?_
        refine lv_iadd hx hb dX2_tryRows_99 ?_
        refine lv_topi (fun v_27 e_27 => ?_)
        have hP := hbP_20 [(xo_2_riiiii c0 be (nI hn) wa brn_17 bwn_17 btn_17), (xJ be cL 9 fb)] ((nI hh)) ((nI ww)) ((nI kk)) ((Vn_17 dp 0)) ((Vn_17 dp 1)) ((Vn_17 dp 2)) (1) ((nI (hh + 1))) (v5n_23) ((nI ww)) ((nI kk)) (f1n_21) (f2n_21) (g3n_23) (g4n_23) (g5n_23) _ b4_17 b6_17 b7_17 (hP.part (cx := (([(xo_2_riiiii c0 be (nI hn) wa brn_17 bwn_17 btn_17), (xJ be cL 9 fb)] : va_W) ++ ([(xo_3_iiiiiiiirrrrr (ad dp) (Vn_17 dp 0) (Vn_17 dp 1) (Vn_17 dp 2) (Vn_17 dp 3) (nI hh) (Vn_17 dp 5) (nI ww) (nI kk) (bd dp 0) (bd dp 1) (bd dp 2) (bd dp 3) (bd dp 4)), (xI (bd dp 0) cI 6 (Gn_17 dp 0)), (xI (bd dp 1) cI 6 (Gn_17 dp 1)), (xI (bd dp 2) cI 6 (Gn_17 dp 2)), (xI (bd dp 3) cI 6 (Gn_17 dp 3)), (xI (bd dp 4) cI 6 (Gn_17 dp 4)), (xo_3_iiiiiiiirrrrr (ad (dp + 1)) (Vn_17 dp 0) (Vn_17 dp 1) (Vn_17 dp 2) 1 (nI (hh + 1)) v5n_23 (nI ww) (nI kk) (bd (dp + 1) 0) (bd (dp + 1) 1) (bd (dp + 1) 2) (bd (dp + 1) 3) (bd (dp + 1) 4)), (xI (bd (dp + 1) 0) cI 6 f1n_21), (xI (bd (dp + 1) 1) cI 6 f2n_21), (xI (bd (dp + 1) 2) cI 6 g3n_23), (xI (bd (dp + 1) 3) cI 6 g4n_23), (xI (bd (dp + 1) 4) cI 6 g5n_23)] : va_W))) [0, 1, 2, 3, 4, 5, 6, 7, 8, 9, 10, 11, 12, 13] rfl)
        have hD := hbD_20 [(xo_2_riiiii c0 be (nI hn) wa brn_17 bwn_17 btn_17), (xJ be cL 9 fb)] ((nI hh)) ((nI ww)) ((nI kk)) ((Vn_17 dp 0)) ((Vn_17 dp 1)) ((Vn_17 dp 2)) (1) ((nI (hh + 1))) (v5n_23) ((nI ww)) ((nI kk)) (f1n_21) (f2n_21) (g3n_23) (g4n_23) (g5n_23) _ b4_17 b6_17 b7_17 (hD.part (cx := (([(xo_2_riiiii c0 be (nI hn) wa brn_17 bwn_17 btn_17), (xJ be cL 9 fb)] : va_W) ++ ([(xo_3_iiiiiiiirrrrr (ad dp) (Vn_17 dp 0) (Vn_17 dp 1) (Vn_17 dp 2) (Vn_17 dp 3) (nI hh) (Vn_17 dp 5) (nI ww) (nI kk) (bd dp 0) (bd dp 1) (bd dp 2) (bd dp 3) (bd dp 4)), (xI (bd dp 0) cI 6 (Gn_17 dp 0)), (xI (bd dp 1) cI 6 (Gn_17 dp 1)), (xI (bd dp 2) cI 6 (Gn_17 dp 2)), (xI (bd dp 3) cI 6 (Gn_17 dp 3)), (xI (bd dp 4) cI 6 (Gn_17 dp 4)), (xo_3_iiiiiiiirrrrr (ad (dp + 1)) (Vn_17 dp 0) (Vn_17 dp 1) (Vn_17 dp 2) 1 (nI (hh + 1)) v5n_23 (nI ww) (nI kk) (bd (dp + 1) 0) (bd (dp + 1) 1) (bd (dp + 1) 2) (bd (dp + 1) 3) (bd (dp + 1) 4)), (xI (bd (dp + 1) 0) cI 6 f1n_21), (xI (bd (dp + 1) 1) cI 6 f2n_21), (xI (bd (dp + 1) 2) cI 6 g3n_23), (xI (bd (dp + 1) 3) cI 6 g4n_23), (xI (bd (dp + 1) 4) cI 6 g5n_23)] : va_W))) [0, 1, 2, 3, 4, 5, 6, 7, 8, 9, 10, 11, 12, 13] (by decide +kernel) rfl)
        generalize hV_28 : va_up Vn_17 (dp + 1) (fun k => [(Vn_17 dp 0), (Vn_17 dp 1), (Vn_17 dp 2), 1, (nI (hh + 1)), v5n_23, (nI ww), (nI kk)].getD k 0) = V_28 at hP hD
        generalize hG_28 : va_up Gn_17 (dp + 1) (fun k => [f1n_21, f2n_21, g3n_23, g4n_23, g5n_23].getD k (fun _ => 0)) = G_28 at hP hD
        have hP : va_P (dC, dI) vwCl (([(xo_2_riiiii c0 be (nI hn) wa brn_17 bwn_17 btn_17), (xJ be cL 9 fb)] : va_W) ++ lvs cI 9 ad bd V_28 G_28) H := hP
        have hD : va_D A (([(xo_2_riiiii c0 be (nI hn) wa brn_17 bwn_17 btn_17), (xJ be cL 9 fb)] : va_W) ++ lvs cI 9 ad bd V_28 G_28) := hD
        have s4_28 : V_28 (dp + 1) 4 = (nI (hh + 1)) := by rw [← hV_28, va_up_self]; rfl
        have s6_28 : V_28 (dp + 1) 6 = (nI ww) := by rw [← hV_28, va_up_self]; rfl
        have s7_28 : V_28 (dp + 1) 7 = (nI kk) := by rw [← hV_28, va_up_self]; rfl
        have kp_28 : ∀ j : Nat, j ≤ dp → V_28 j = V j ∧ G_28 j = G j := fun j hj => by rw [← hV_28, ← hG_28, va_up_ne _ _ (by omega), va_up_ne _ _ (by omega)]; exact (kq_17 j hj)
        have a4_28 : V_28 dp 4 = nI hh := by rw [(kp_28 dp (Nat.le_refl _)).1]; exact e4
        have a6_28 : V_28 dp 6 = nI ww := by rw [(kp_28 dp (Nat.le_refl _)).1]; exact e6
        have a7_28 : V_28 dp 7 = nI kk := by rw [(kp_28 dp (Nat.le_refl _)).1]; exact e7
        have nx_28 : nrV (V_28 (dp + 1)) (G_28 (dp + 1)) = mH (upd (nrV (V dp) (G dp)) 6 1) ∧ okN (999 + (dp + 1)) (nrV (V_28 (dp + 1)) (G_28 (dp + 1))) := by
          rw [← hV_28, ← hG_28, va_up_self, va_up_self]
          exact cap_nx ((kq_17 dp (Nat.le_refl _))).1 ((kq_17 dp (Nat.le_refl _))).2 hN e4 e6 e7 hhb hww hkk (by omega) (by decide) hF_21_0 hF_21_1 hF_21_2 hF_21_3 hF_21_4 hF_23_0
        have hc_29 := cutP (cx := [(xo_2_riiiii c0 be (nI hn) wa brn_17 bwn_17 btn_17), (xJ be cL 9 fb)]) hP hD hS hA [0, 1] (by decide +kernel) rfl
        refine va_callv (va_runV (As := [.int (nI (dp + 1)), .int v_26, .int v_27]) (rest := []) ⟨hx, hb, hml, hown, hts⟩ (IH l dC dI cI cZ cL cJ H.size c0 be hn wa brn_17 bwn_17 btn_17 fb ad bd V_28 G_28 (hh + 1) ww kk v_26 v_27 (hfb) (s4_28) (s6_28) (s7_28) (by omega) (hww) (hkk) (by omega) (hn8) (nx_28.2)) (cwV 3 hts gX2_tryRows_X2_tryRows rfl rfl rfl (by decide +kernel) ⟨by show 14 - (dp + 1) + 1 ≤ 14 - dp; omega, by show 8 + (7 + 11) + (3000 - 200 * (dp + 1)) ≤ 3000 - 200 * dp; omega⟩) (pvW 2 0 hK hP rfl rfl hc_29) rfl rfl hl.1 rfl (lv_room (Nat.le_of_ble_eq_true rfl)) dX2_tryRows_100 ⟨Nat.le_of_ble_eq_true rfl, Nat.le_of_ble_eq_true rfl⟩) hS (fun q _ h => hc_29.2.2 q h) hc_29.2.2 (fun u_29 t_29 H1 locs ht hvm h_29 hB hz1 hk1 hS => ?_)
        refine xl_5_4 hB (fun Vn_29 Gn_29 brn_29 bwn_29 btn_29 hP1 hD1 hF_29_0 hF_29_1 => ?_)
        clear hB
        rw [ht] at hP1
        obtain ⟨hP, hD⟩ := va_joinP (wr := []) (rx := [(xo_2_riiiii c0 be (nI hn) wa brn_29 bwn_29 btn_29), (xJ be cL 9 fb)]) (pl1 := lvs cI 9 ad bd Vn_29 Gn_29) hP hD [0, 1] [] rfl rfl (by decide +kernel) (by decide +kernel) hk1 hc_29.2.2 hP1 hD1
        generalize H1 = H at hP hS ⊢
        have hP : va_P (dC, dI) vwCl (([(xo_2_riiiii c0 be (nI hn) wa brn_29 bwn_29 btn_29), (xJ be cL 9 fb)] : va_W) ++ lvs cI 9 ad bd Vn_29 Gn_29) H := hP
        have hD := dto hP hD
        have kq_29 : ∀ j : Nat, j ≤ dp → Vn_29 j = V j ∧ Gn_29 j = G j := fun j hj => ⟨(hF_29_0 j (by omega)).1.trans ((kp_28 j hj)).1, (hF_29_0 j (by omega)).2.trans ((kp_28 j hj)).2⟩
        have b4_29 : Vn_29 dp 4 = nI hh := by rw [(kq_29 dp (Nat.le_refl _)).1]; exact e4
        have b6_29 : Vn_29 dp 6 = nI ww := by rw [(kq_29 dp (Nat.le_refl _)).1]; exact e6
        have b7_29 : Vn_29 dp 7 = nI kk := by rw [(kq_29 dp (Nat.le_refl _)).1]; exact e7
        have kd_29 : Vn_29 dp = V dp := (kq_29 dp (Nat.le_refl _)).1
        refine lv_iinc (v := 2) (lv' := [(4, .int 2), (6, .int 1), (5, .ref (ad (dp + 1))), (0, .ref c0), (1, .int (nI dp)), (2, .int x), (3, .int y)]) hx hb dX2_tryRows_103 hl (k := 2) rfl (by decide) (by decide) rfl (fun ls hl => ?_)
        refine lv_goto (tgt := 30) hx hb dX2_tryRows_106 (by decide) ?_
        refine lv_iload hx hb dX2_tryRows_30 (lv_at hl 0 rfl) ?_
        refine lv_iconst (v := 1) hx hb dX2_tryRows_32 (by decide) ?_
        refine lv_icmp_gt (tgt := 109) hx hb dX2_tryRows_33 (by decide) (fun _ => ?_) (fun c_ => absurd (by decide) c_)
        have hX9 := cut2P (cx := [(xo_2_riiiii c0 be (nI hn) wa brn_29 bwn_29 btn_29), (xJ be cL 9 fb)]) hP hD [0, 1] (by decide +kernel) rfl
        exact W.vret hx hb hr (fun t ht hW => ⟨⟨(), rfl, trivial, ⟨Vn_29, Gn_29, brn_29, bwn_29, btn_29, va_Ht ht hX9.1, hX9.2, (fun j hj => (kq_29 j (Nat.le_of_lt hj))), (lf_X2_tryRows_s_2 hfb e4 e6 e7 hhb hww hkk hdn hn8 hN c_1 hF_9_0 hF_9_1 hF_9_2 hF_9_3 hF_9_4 c_10 hF_11_0 e_13 e_14 e_15 nx_16 hF_17_0 hF_17_1 kd_17 hF_21_0 hF_21_1 hF_21_2 hF_21_3 hF_21_4 c_22 hF_23_0 e_25 e_26 e_27 nx_28 hF_29_0 hF_29_1 kd_29)⟩⟩, hS.F ht⟩) hS.2.2 dX2_tryRows_109
      · skip
        refine lv_iconst (v := 0) hx hb dX2_tryRows_67 (by decide) ?_
        refine lv_goto (tgt := 72) hx hb dX2_tryRows_68 (by decide) ?_
        refine lv_istore (lv' := [(6, .int 0), (5, .ref (ad (dp + 1))), (4, .int 1), (0, .ref c0), (1, .int (nI dp)), (2, .int x), (3, .int y)]) hx hb dX2_tryRows_72 hl (by decide) rfl (fun ls hl => ?_)
        refine lv_aload hx hb dX2_tryRows_74 (lv_at hl 1 rfl) ?_
        refine lv_iload hx hb dX2_tryRows_76 (lv_at hl 2 rfl) ?_
        refine va_put (D := (dC, dI)) (ci := 3) (v := .int 1) (ty := .int) (C := RX3) (T := TX3) (N := 13) hx hb hts i_X2_tryRows_X3 tyX3 tyX3_ok nmX3 hown hK hP hD hS 2 rfl rfl 3 (by decide) (hts _ mx_X2_tryRows_3) (fun _ h9 => h9) rfl (by decide +kernel) rfl rfl (Nat.le_of_ble_eq_true rfl) dX2_tryRows_78 (fun H locs hP hD hS => ?_)
        have hP : va_P (dC, dI) vwCl (([(xo_2_riiiii c0 be (nI hn) wa brn_17 bwn_17 btn_17), (xJ be cL 9 fb), (xo_3_iiiiiiiirrrrr (ad (dp + 1)) (Vn_17 dp 0) (Vn_17 dp 1) (Vn_17 dp 2) 1 (nI hh) (Vn_17 dp 5) (nI ww) (nI kk) (bd (dp + 1) 0) (bd (dp + 1) 1) (bd (dp + 1) 2) (bd (dp + 1) 3) (bd (dp + 1) 4)), (xI (bd (dp + 1) 0) cI 6 f1n_21), (xI (bd (dp + 1) 1) cI 6 f2n_21), (xI (bd (dp + 1) 2) cI 6 f3n_21), (xI (bd (dp + 1) 3) cI 6 f4n_21), (xI (bd (dp + 1) 4) cI 6 f5n_21), (xo_3_iiiiiiiirrrrr (ad dp) (Vn_17 dp 0) (Vn_17 dp 1) (Vn_17 dp 2) (Vn_17 dp 3) (nI hh) (Vn_17 dp 5) (nI ww) (nI kk) (bd dp 0) (bd dp 1) (bd dp 2) (bd dp 3) (bd dp 4)), (xI (bd dp 0) cI 6 (Gn_17 dp 0)), (xI (bd dp 1) cI 6 (Gn_17 dp 1)), (xI (bd dp 2) cI 6 (Gn_17 dp 2)), (xI (bd dp 3) cI 6 (Gn_17 dp 3)), (xI (bd dp 4) cI 6 (Gn_17 dp 4))] : va_W) ++ pl_20) H := hP
        have hD := dto hP hD
        refine lv_aload hx hb dX2_tryRows_81 (lv_at hl 1 rfl) ?_
        have hc_31 := cutX (wc := [(xo_3_iiiiiiiirrrrr (ad (dp + 1)) (Vn_17 dp 0) (Vn_17 dp 1) (Vn_17 dp 2) 1 (nI hh) (Vn_17 dp 5) (nI ww) (nI kk) (bd (dp + 1) 0) (bd (dp + 1) 1) (bd (dp + 1) 2) (bd (dp + 1) 3) (bd (dp + 1) 4)), (xI (bd (dp + 1) 0) cI 6 f1n_21), (xI (bd (dp + 1) 1) cI 6 f2n_21), (xI (bd (dp + 1) 2) cI 6 f3n_21), (xI (bd (dp + 1) 3) cI 6 f4n_21), (xI (bd (dp + 1) 4) cI 6 f5n_21)]) hP hD hS hA [2, 3, 4, 5, 6, 7] (by decide +kernel) rfl
        refine va_callv (va_runV (As := []) (rest := []) ⟨hx, hb, hml, hown, hts⟩ (r_X3_pass l dC dI cI cZ cL cJ H.size (ad (dp + 1)) (Vn_17 dp 0) (Vn_17 dp 1) (Vn_17 dp 2) 1 (Vn_17 dp 5) hh ww kk (bd (dp + 1) 0) (bd (dp + 1) 1) (bd (dp + 1) 2) (bd (dp + 1) 3) (bd (dp + 1) 4) f1n_21 f2n_21 f3n_21 f4n_21 f5n_21 (by omega) (hww) (hkk)) (cwV 0 hts gX2_tryRows_X3_pass rfl rfl rfl (by decide +kernel) ⟨by show 3 + 1 ≤ 14 - dp; omega, by show 8 + (3 + 11) + 66 ≤ 3000 - 200 * dp; omega⟩) (pvW 3 2 hK hP rfl rfl hc_31) rfl rfl hl.1 rfl (lv_room (Nat.le_of_ble_eq_true rfl)) dX2_tryRows_83 ⟨Nat.le_of_ble_eq_true rfl, Nat.le_of_ble_eq_true rfl⟩) hS (fun q _ h => hc_31.2.2 q h) hc_31.2.2 (fun u_31 t_31 H1 locs ht hvm h_31 hB hz1 hk1 hS => ?_)
        refine xl_4_3 hB (fun v5n_31 g3n_31 g4n_31 g5n_31 hP1 hD1 hF_31_0 => ?_)
        clear hB
        rw [ht] at hP1
        obtain ⟨hP, hD⟩ := va_joinQ (wr := [(xo_2_riiiii c0 be (nI hn) wa brn_17 bwn_17 btn_17), (xJ be cL 9 fb), (xo_3_iiiiiiiirrrrr (ad dp) (Vn_17 dp 0) (Vn_17 dp 1) (Vn_17 dp 2) (Vn_17 dp 3) (nI hh) (Vn_17 dp 5) (nI ww) (nI kk) (bd dp 0) (bd dp 1) (bd dp 2) (bd dp 3) (bd dp 4)), (xI (bd dp 0) cI 6 (Gn_17 dp 0)), (xI (bd dp 1) cI 6 (Gn_17 dp 1)), (xI (bd dp 2) cI 6 (Gn_17 dp 2)), (xI (bd dp 3) cI 6 (Gn_17 dp 3)), (xI (bd dp 4) cI 6 (Gn_17 dp 4))]) (w1 := [(xo_3_iiiiiiiirrrrr (ad (dp + 1)) (Vn_17 dp 0) (Vn_17 dp 1) (Vn_17 dp 2) 1 (nI (hh + 1)) v5n_31 (nI ww) (nI kk) (bd (dp + 1) 0) (bd (dp + 1) 1) (bd (dp + 1) 2) (bd (dp + 1) 3) (bd (dp + 1) 4)), (xI (bd (dp + 1) 0) cI 6 f1n_21), (xI (bd (dp + 1) 1) cI 6 f2n_21), (xI (bd (dp + 1) 2) cI 6 g3n_31), (xI (bd (dp + 1) 3) cI 6 g4n_31), (xI (bd (dp + 1) 4) cI 6 g5n_31)]) hP hD [2, 3, 4, 5, 6, 7] [0, 1, 8, 9, 10, 11, 12, 13] rfl rfl (by decide +kernel) (by decide +kernel) hk1 hc_31.2.2 hP1 hD1
        generalize H1 = H at hP hS ⊢
        have hP : va_P (dC, dI) vwCl (([(xo_2_riiiii c0 be (nI hn) wa brn_17 bwn_17 btn_17), (xJ be cL 9 fb), (xo_3_iiiiiiiirrrrr (ad dp) (Vn_17 dp 0) (Vn_17 dp 1) (Vn_17 dp 2) (Vn_17 dp 3) (nI hh) (Vn_17 dp 5) (nI ww) (nI kk) (bd dp 0) (bd dp 1) (bd dp 2) (bd dp 3) (bd dp 4)), (xI (bd dp 0) cI 6 (Gn_17 dp 0)), (xI (bd dp 1) cI 6 (Gn_17 dp 1)), (xI (bd dp 2) cI 6 (Gn_17 dp 2)), (xI (bd dp 3) cI 6 (Gn_17 dp 3)), (xI (bd dp 4) cI 6 (Gn_17 dp 4)), (xo_3_iiiiiiiirrrrr (ad (dp + 1)) (Vn_17 dp 0) (Vn_17 dp 1) (Vn_17 dp 2) 1 (nI (hh + 1)) v5n_31 (nI ww) (nI kk) (bd (dp + 1) 0) (bd (dp + 1) 1) (bd (dp + 1) 2) (bd (dp + 1) 3) (bd (dp + 1) 4)), (xI (bd (dp + 1) 0) cI 6 f1n_21), (xI (bd (dp + 1) 1) cI 6 f2n_21), (xI (bd (dp + 1) 2) cI 6 g3n_31), (xI (bd (dp + 1) 3) cI 6 g4n_31), (xI (bd (dp + 1) 4) cI 6 g5n_31)] : va_W) ++ pl_20) H := hP
        have hD := dto hP hD
        refine lv_aload_n hx hb dX2_tryRows_86 rfl (lv_at hl 3 rfl) ?_
        refine lv_iload_n hx hb dX2_tryRows_87 rfl (lv_at hl 4 rfl) ?_
        refine lv_iconst (v := 1) hx hb dX2_tryRows_88 (by decide) ?_
        refine lv_iadd hx hb dX2_tryRows_89 ?_
        refine lv_topi (fun v_32 e_32 => ?_)
        obtain rfl : v_32 = (nI (dp + 1)) := (e_32).trans (nI_add dp 1)
        refine lv_iload_n hx hb dX2_tryRows_90 rfl (lv_at hl 5 rfl) ?_
        refine lv_iconst (v := 1) hx hb dX2_tryRows_91 (by decide) ?_
        refine lv_ishl hx hb dX2_tryRows_92 ?_
        refine lv_topi (fun v_33 e_33 => ?_)
        refine lv_iload hx hb dX2_tryRows_93 (lv_at hl 2 rfl) ?_
        refine lv_ior hx hb dX2_tryRows_95 ?_
        refine lv_topi (fun v_34 e_34 => ?_)
        refine lv_iload_n hx hb dX2_tryRows_96 rfl (lv_at hl 6 rfl) ?_
        refine lv_iload hx hb dX2_tryRows_97 (lv_at hl 0 rfl) ?_
        refine lv_iadd hx hb dX2_tryRows_99 ?_
        refine lv_topi (fun v_35 e_35 => ?_)
        have hP := hbP_20 [(xo_2_riiiii c0 be (nI hn) wa brn_17 bwn_17 btn_17), (xJ be cL 9 fb)] ((nI hh)) ((nI ww)) ((nI kk)) ((Vn_17 dp 0)) ((Vn_17 dp 1)) ((Vn_17 dp 2)) (1) ((nI (hh + 1))) (v5n_31) ((nI ww)) ((nI kk)) (f1n_21) (f2n_21) (g3n_31) (g4n_31) (g5n_31) _ b4_17 b6_17 b7_17 (hP.part (cx := (([(xo_2_riiiii c0 be (nI hn) wa brn_17 bwn_17 btn_17), (xJ be cL 9 fb)] : va_W) ++ ([(xo_3_iiiiiiiirrrrr (ad dp) (Vn_17 dp 0) (Vn_17 dp 1) (Vn_17 dp 2) (Vn_17 dp 3) (nI hh) (Vn_17 dp 5) (nI ww) (nI kk) (bd dp 0) (bd dp 1) (bd dp 2) (bd dp 3) (bd dp 4)), (xI (bd dp 0) cI 6 (Gn_17 dp 0)), (xI (bd dp 1) cI 6 (Gn_17 dp 1)), (xI (bd dp 2) cI 6 (Gn_17 dp 2)), (xI (bd dp 3) cI 6 (Gn_17 dp 3)), (xI (bd dp 4) cI 6 (Gn_17 dp 4)), (xo_3_iiiiiiiirrrrr (ad (dp + 1)) (Vn_17 dp 0) (Vn_17 dp 1) (Vn_17 dp 2) 1 (nI (hh + 1)) v5n_31 (nI ww) (nI kk) (bd (dp + 1) 0) (bd (dp + 1) 1) (bd (dp + 1) 2) (bd (dp + 1) 3) (bd (dp + 1) 4)), (xI (bd (dp + 1) 0) cI 6 f1n_21), (xI (bd (dp + 1) 1) cI 6 f2n_21), (xI (bd (dp + 1) 2) cI 6 g3n_31), (xI (bd (dp + 1) 3) cI 6 g4n_31), (xI (bd (dp + 1) 4) cI 6 g5n_31)] : va_W))) [0, 1, 2, 3, 4, 5, 6, 7, 8, 9, 10, 11, 12, 13] rfl)
        have hD := hbD_20 [(xo_2_riiiii c0 be (nI hn) wa brn_17 bwn_17 btn_17), (xJ be cL 9 fb)] ((nI hh)) ((nI ww)) ((nI kk)) ((Vn_17 dp 0)) ((Vn_17 dp 1)) ((Vn_17 dp 2)) (1) ((nI (hh + 1))) (v5n_31) ((nI ww)) ((nI kk)) (f1n_21) (f2n_21) (g3n_31) (g4n_31) (g5n_31) _ b4_17 b6_17 b7_17 (hD.part (cx := (([(xo_2_riiiii c0 be (nI hn) wa brn_17 bwn_17 btn_17), (xJ be cL 9 fb)] : va_W) ++ ([(xo_3_iiiiiiiirrrrr (ad dp) (Vn_17 dp 0) (Vn_17 dp 1) (Vn_17 dp 2) (Vn_17 dp 3) (nI hh) (Vn_17 dp 5) (nI ww) (nI kk) (bd dp 0) (bd dp 1) (bd dp 2) (bd dp 3) (bd dp 4)), (xI (bd dp 0) cI 6 (Gn_17 dp 0)), (xI (bd dp 1) cI 6 (Gn_17 dp 1)), (xI (bd dp 2) cI 6 (Gn_17 dp 2)), (xI (bd dp 3) cI 6 (Gn_17 dp 3)), (xI (bd dp 4) cI 6 (Gn_17 dp 4)), (xo_3_iiiiiiiirrrrr (ad (dp + 1)) (Vn_17 dp 0) (Vn_17 dp 1) (Vn_17 dp 2) 1 (nI (hh + 1)) v5n_31 (nI ww) (nI kk) (bd (dp + 1) 0) (bd (dp + 1) 1) (bd (dp + 1) 2) (bd (dp + 1) 3) (bd (dp + 1) 4)), (xI (bd (dp + 1) 0) cI 6 f1n_21), (xI (bd (dp + 1) 1) cI 6 f2n_21), (xI (bd (dp + 1) 2) cI 6 g3n_31), (xI (bd (dp + 1) 3) cI 6 g4n_31), (xI (bd (dp + 1) 4) cI 6 g5n_31)] : va_W))) [0, 1, 2, 3, 4, 5, 6, 7, 8, 9, 10, 11, 12, 13] (by decide +kernel) rfl)
        generalize hV_36 : va_up Vn_17 (dp + 1) (fun k => [(Vn_17 dp 0), (Vn_17 dp 1), (Vn_17 dp 2), 1, (nI (hh + 1)), v5n_31, (nI ww), (nI kk)].getD k 0) = V_36 at hP hD
        generalize hG_36 : va_up Gn_17 (dp + 1) (fun k => [f1n_21, f2n_21, g3n_31, g4n_31, g5n_31].getD k (fun _ => 0)) = G_36 at hP hD
        have hP : va_P (dC, dI) vwCl (([(xo_2_riiiii c0 be (nI hn) wa brn_17 bwn_17 btn_17), (xJ be cL 9 fb)] : va_W) ++ lvs cI 9 ad bd V_36 G_36) H := hP
        have hD : va_D A (([(xo_2_riiiii c0 be (nI hn) wa brn_17 bwn_17 btn_17), (xJ be cL 9 fb)] : va_W) ++ lvs cI 9 ad bd V_36 G_36) := hD
        have s4_36 : V_36 (dp + 1) 4 = (nI (hh + 1)) := by rw [← hV_36, va_up_self]; rfl
        have s6_36 : V_36 (dp + 1) 6 = (nI ww) := by rw [← hV_36, va_up_self]; rfl
        have s7_36 : V_36 (dp + 1) 7 = (nI kk) := by rw [← hV_36, va_up_self]; rfl
        have kp_36 : ∀ j : Nat, j ≤ dp → V_36 j = V j ∧ G_36 j = G j := fun j hj => by rw [← hV_36, ← hG_36, va_up_ne _ _ (by omega), va_up_ne _ _ (by omega)]; exact (kq_17 j hj)
        have a4_36 : V_36 dp 4 = nI hh := by rw [(kp_36 dp (Nat.le_refl _)).1]; exact e4
        have a6_36 : V_36 dp 6 = nI ww := by rw [(kp_36 dp (Nat.le_refl _)).1]; exact e6
        have a7_36 : V_36 dp 7 = nI kk := by rw [(kp_36 dp (Nat.le_refl _)).1]; exact e7
        have nx_36 : nrV (V_36 (dp + 1)) (G_36 (dp + 1)) = mH (upd (nrV (V dp) (G dp)) 6 1) ∧ okN (999 + (dp + 1)) (nrV (V_36 (dp + 1)) (G_36 (dp + 1))) := by
          rw [← hV_36, ← hG_36, va_up_self, va_up_self]
          exact cap_nx ((kq_17 dp (Nat.le_refl _))).1 ((kq_17 dp (Nat.le_refl _))).2 hN e4 e6 e7 hhb hww hkk (by omega) (by decide) hF_21_0 hF_21_1 hF_21_2 hF_21_3 hF_21_4 hF_31_0
        have hc_37 := cutP (cx := [(xo_2_riiiii c0 be (nI hn) wa brn_17 bwn_17 btn_17), (xJ be cL 9 fb)]) hP hD hS hA [0, 1] (by decide +kernel) rfl
        refine va_callv (va_runV (As := [.int (nI (dp + 1)), .int v_34, .int v_35]) (rest := []) ⟨hx, hb, hml, hown, hts⟩ (IH l dC dI cI cZ cL cJ H.size c0 be hn wa brn_17 bwn_17 btn_17 fb ad bd V_36 G_36 (hh + 1) ww kk v_34 v_35 (hfb) (s4_36) (s6_36) (s7_36) (by omega) (hww) (hkk) (by omega) (hn8) (nx_36.2)) (cwV 3 hts gX2_tryRows_X2_tryRows rfl rfl rfl (by decide +kernel) ⟨by show 14 - (dp + 1) + 1 ≤ 14 - dp; omega, by show 8 + (7 + 11) + (3000 - 200 * (dp + 1)) ≤ 3000 - 200 * dp; omega⟩) (pvW 2 0 hK hP rfl rfl hc_37) rfl rfl hl.1 rfl (lv_room (Nat.le_of_ble_eq_true rfl)) dX2_tryRows_100 ⟨Nat.le_of_ble_eq_true rfl, Nat.le_of_ble_eq_true rfl⟩) hS (fun q _ h => hc_37.2.2 q h) hc_37.2.2 (fun u_37 t_37 H1 locs ht hvm h_37 hB hz1 hk1 hS => ?_)
        refine xl_5_4 hB (fun Vn_37 Gn_37 brn_37 bwn_37 btn_37 hP1 hD1 hF_37_0 hF_37_1 => ?_)
        clear hB
        rw [ht] at hP1
        obtain ⟨hP, hD⟩ := va_joinP (wr := []) (rx := [(xo_2_riiiii c0 be (nI hn) wa brn_37 bwn_37 btn_37), (xJ be cL 9 fb)]) (pl1 := lvs cI 9 ad bd Vn_37 Gn_37) hP hD [0, 1] [] rfl rfl (by decide +kernel) (by decide +kernel) hk1 hc_37.2.2 hP1 hD1
        generalize H1 = H at hP hS ⊢
        have hP : va_P (dC, dI) vwCl (([(xo_2_riiiii c0 be (nI hn) wa brn_37 bwn_37 btn_37), (xJ be cL 9 fb)] : va_W) ++ lvs cI 9 ad bd Vn_37 Gn_37) H := hP
        have hD := dto hP hD
        have kq_37 : ∀ j : Nat, j ≤ dp → Vn_37 j = V j ∧ Gn_37 j = G j := fun j hj => ⟨(hF_37_0 j (by omega)).1.trans ((kp_36 j hj)).1, (hF_37_0 j (by omega)).2.trans ((kp_36 j hj)).2⟩
        have b4_37 : Vn_37 dp 4 = nI hh := by rw [(kq_37 dp (Nat.le_refl _)).1]; exact e4
        have b6_37 : Vn_37 dp 6 = nI ww := by rw [(kq_37 dp (Nat.le_refl _)).1]; exact e6
        have b7_37 : Vn_37 dp 7 = nI kk := by rw [(kq_37 dp (Nat.le_refl _)).1]; exact e7
        have kd_37 : Vn_37 dp = V dp := (kq_37 dp (Nat.le_refl _)).1
        refine lv_iinc (v := 2) (lv' := [(4, .int 2), (6, .int 0), (5, .ref (ad (dp + 1))), (0, .ref c0), (1, .int (nI dp)), (2, .int x), (3, .int y)]) hx hb dX2_tryRows_103 hl (k := 2) rfl (by decide) (by decide) rfl (fun ls hl => ?_)
        refine lv_goto (tgt := 30) hx hb dX2_tryRows_106 (by decide) ?_
        refine lv_iload hx hb dX2_tryRows_30 (lv_at hl 0 rfl) ?_
        refine lv_iconst (v := 1) hx hb dX2_tryRows_32 (by decide) ?_
        refine lv_icmp_gt (tgt := 109) hx hb dX2_tryRows_33 (by decide) (fun _ => ?_) (fun c_ => absurd (by decide) c_)
        have hX9 := cut2P (cx := [(xo_2_riiiii c0 be (nI hn) wa brn_37 bwn_37 btn_37), (xJ be cL 9 fb)]) hP hD [0, 1] (by decide +kernel) rfl
        exact W.vret hx hb hr (fun t ht hW => ⟨⟨(), rfl, trivial, ⟨Vn_37, Gn_37, brn_37, bwn_37, btn_37, va_Ht ht hX9.1, hX9.2, (fun j hj => (kq_37 j (Nat.le_of_lt hj))), (lf_X2_tryRows_s_3 hfb e4 e6 e7 hhb hww hkk hdn hn8 hN c_1 hF_9_0 hF_9_1 hF_9_2 hF_9_3 hF_9_4 c_10 hF_11_0 e_13 e_14 e_15 nx_16 hF_17_0 hF_17_1 kd_17 hF_21_0 hF_21_1 hF_21_2 hF_21_3 hF_21_4 c_22 hF_31_0 e_33 e_34 e_35 nx_36 hF_37_0 hF_37_1 kd_37)⟩⟩, hS.F ht⟩) hS.2.2 dX2_tryRows_109
    · skip
      refine lv_iconst (v := 0) hx hb dX2_tryRows_67 (by decide) ?_
      refine lv_goto (tgt := 72) hx hb dX2_tryRows_68 (by decide) ?_
      refine lv_istore (lv' := [(6, .int 0), (5, .ref (ad (dp + 1))), (4, .int 0), (0, .ref c0), (1, .int (nI dp)), (2, .int x), (3, .int y)]) hx hb dX2_tryRows_72 hl (by decide) rfl (fun ls hl => ?_)
      refine lv_aload hx hb dX2_tryRows_74 (lv_at hl 1 rfl) ?_
      refine lv_iload hx hb dX2_tryRows_76 (lv_at hl 2 rfl) ?_
      refine va_put (D := (dC, dI)) (ci := 3) (v := .int 0) (ty := .int) (C := RX3) (T := TX3) (N := 13) hx hb hts i_X2_tryRows_X3 tyX3 tyX3_ok nmX3 hown hK hP hD hS 2 rfl rfl 3 (by decide) (hts _ mx_X2_tryRows_3) (fun _ h9 => h9) rfl (by decide +kernel) rfl rfl (Nat.le_of_ble_eq_true rfl) dX2_tryRows_78 (fun H locs hP hD hS => ?_)
      have hP : va_P (dC, dI) vwCl (([(xo_2_riiiii c0 be (nI hn) wa br bw bt), (xJ be cL 9 fb), (xo_3_iiiiiiiirrrrr (ad (dp + 1)) (V dp 0) (V dp 1) (V dp 2) 0 (nI hh) (V dp 5) (nI ww) (nI kk) (bd (dp + 1) 0) (bd (dp + 1) 1) (bd (dp + 1) 2) (bd (dp + 1) 3) (bd (dp + 1) 4)), (xI (bd (dp + 1) 0) cI 6 f1n_9), (xI (bd (dp + 1) 1) cI 6 f2n_9), (xI (bd (dp + 1) 2) cI 6 f3n_9), (xI (bd (dp + 1) 3) cI 6 f4n_9), (xI (bd (dp + 1) 4) cI 6 f5n_9), (xo_3_iiiiiiiirrrrr (ad dp) (V dp 0) (V dp 1) (V dp 2) (V dp 3) (nI hh) (V dp 5) (nI ww) (nI kk) (bd dp 0) (bd dp 1) (bd dp 2) (bd dp 3) (bd dp 4)), (xI (bd dp 0) cI 6 (G dp 0)), (xI (bd dp 1) cI 6 (G dp 1)), (xI (bd dp 2) cI 6 (G dp 2)), (xI (bd dp 3) cI 6 (G dp 3)), (xI (bd dp 4) cI 6 (G dp 4))] : va_W) ++ pl_8) H := hP
      have hD := dto hP hD
      refine lv_aload hx hb dX2_tryRows_81 (lv_at hl 1 rfl) ?_
      have hc_39 := cutX (wc := [(xo_3_iiiiiiiirrrrr (ad (dp + 1)) (V dp 0) (V dp 1) (V dp 2) 0 (nI hh) (V dp 5) (nI ww) (nI kk) (bd (dp + 1) 0) (bd (dp + 1) 1) (bd (dp + 1) 2) (bd (dp + 1) 3) (bd (dp + 1) 4)), (xI (bd (dp + 1) 0) cI 6 f1n_9), (xI (bd (dp + 1) 1) cI 6 f2n_9), (xI (bd (dp + 1) 2) cI 6 f3n_9), (xI (bd (dp + 1) 3) cI 6 f4n_9), (xI (bd (dp + 1) 4) cI 6 f5n_9)]) hP hD hS hA [2, 3, 4, 5, 6, 7] (by decide +kernel) rfl
      refine va_callv (va_runV (As := []) (rest := []) ⟨hx, hb, hml, hown, hts⟩ (r_X3_pass l dC dI cI cZ cL cJ H.size (ad (dp + 1)) (V dp 0) (V dp 1) (V dp 2) 0 (V dp 5) hh ww kk (bd (dp + 1) 0) (bd (dp + 1) 1) (bd (dp + 1) 2) (bd (dp + 1) 3) (bd (dp + 1) 4) f1n_9 f2n_9 f3n_9 f4n_9 f5n_9 (by omega) (hww) (hkk)) (cwV 0 hts gX2_tryRows_X3_pass rfl rfl rfl (by decide +kernel) ⟨by show 3 + 1 ≤ 14 - dp; omega, by show 8 + (3 + 11) + 66 ≤ 3000 - 200 * dp; omega⟩) (pvW 3 2 hK hP rfl rfl hc_39) rfl rfl hl.1 rfl (lv_room (Nat.le_of_ble_eq_true rfl)) dX2_tryRows_83 ⟨Nat.le_of_ble_eq_true rfl, Nat.le_of_ble_eq_true rfl⟩) hS (fun q _ h => hc_39.2.2 q h) hc_39.2.2 (fun u_39 t_39 H1 locs ht hvm h_39 hB hz1 hk1 hS => ?_)
      refine xl_4_3 hB (fun v5n_39 g3n_39 g4n_39 g5n_39 hP1 hD1 hF_39_0 => ?_)
      clear hB
      rw [ht] at hP1
      obtain ⟨hP, hD⟩ := va_joinQ (wr := [(xo_2_riiiii c0 be (nI hn) wa br bw bt), (xJ be cL 9 fb), (xo_3_iiiiiiiirrrrr (ad dp) (V dp 0) (V dp 1) (V dp 2) (V dp 3) (nI hh) (V dp 5) (nI ww) (nI kk) (bd dp 0) (bd dp 1) (bd dp 2) (bd dp 3) (bd dp 4)), (xI (bd dp 0) cI 6 (G dp 0)), (xI (bd dp 1) cI 6 (G dp 1)), (xI (bd dp 2) cI 6 (G dp 2)), (xI (bd dp 3) cI 6 (G dp 3)), (xI (bd dp 4) cI 6 (G dp 4))]) (w1 := [(xo_3_iiiiiiiirrrrr (ad (dp + 1)) (V dp 0) (V dp 1) (V dp 2) 0 (nI (hh + 1)) v5n_39 (nI ww) (nI kk) (bd (dp + 1) 0) (bd (dp + 1) 1) (bd (dp + 1) 2) (bd (dp + 1) 3) (bd (dp + 1) 4)), (xI (bd (dp + 1) 0) cI 6 f1n_9), (xI (bd (dp + 1) 1) cI 6 f2n_9), (xI (bd (dp + 1) 2) cI 6 g3n_39), (xI (bd (dp + 1) 3) cI 6 g4n_39), (xI (bd (dp + 1) 4) cI 6 g5n_39)]) hP hD [2, 3, 4, 5, 6, 7] [0, 1, 8, 9, 10, 11, 12, 13] rfl rfl (by decide +kernel) (by decide +kernel) hk1 hc_39.2.2 hP1 hD1
      generalize H1 = H at hP hS ⊢
      have hP : va_P (dC, dI) vwCl (([(xo_2_riiiii c0 be (nI hn) wa br bw bt), (xJ be cL 9 fb), (xo_3_iiiiiiiirrrrr (ad dp) (V dp 0) (V dp 1) (V dp 2) (V dp 3) (nI hh) (V dp 5) (nI ww) (nI kk) (bd dp 0) (bd dp 1) (bd dp 2) (bd dp 3) (bd dp 4)), (xI (bd dp 0) cI 6 (G dp 0)), (xI (bd dp 1) cI 6 (G dp 1)), (xI (bd dp 2) cI 6 (G dp 2)), (xI (bd dp 3) cI 6 (G dp 3)), (xI (bd dp 4) cI 6 (G dp 4)), (xo_3_iiiiiiiirrrrr (ad (dp + 1)) (V dp 0) (V dp 1) (V dp 2) 0 (nI (hh + 1)) v5n_39 (nI ww) (nI kk) (bd (dp + 1) 0) (bd (dp + 1) 1) (bd (dp + 1) 2) (bd (dp + 1) 3) (bd (dp + 1) 4)), (xI (bd (dp + 1) 0) cI 6 f1n_9), (xI (bd (dp + 1) 1) cI 6 f2n_9), (xI (bd (dp + 1) 2) cI 6 g3n_39), (xI (bd (dp + 1) 3) cI 6 g4n_39), (xI (bd (dp + 1) 4) cI 6 g5n_39)] : va_W) ++ pl_8) H := hP
      have hD := dto hP hD
      refine lv_aload_n hx hb dX2_tryRows_86 rfl (lv_at hl 3 rfl) ?_
      refine lv_iload_n hx hb dX2_tryRows_87 rfl (lv_at hl 4 rfl) ?_
      refine lv_iconst (v := 1) hx hb dX2_tryRows_88 (by decide) ?_
      refine lv_iadd hx hb dX2_tryRows_89 ?_
      refine lv_topi (fun v_40 e_40 => ?_)
      obtain rfl : v_40 = (nI (dp + 1)) := (e_40).trans (nI_add dp 1)
      refine lv_iload_n hx hb dX2_tryRows_90 rfl (lv_at hl 5 rfl) ?_
      refine lv_iconst (v := 1) hx hb dX2_tryRows_91 (by decide) ?_
      refine lv_ishl hx hb dX2_tryRows_92 ?_
      refine lv_topi (fun v_41 e_41 => ?_)
      refine lv_iload hx hb dX2_tryRows_93 (lv_at hl 2 rfl) ?_
      refine lv_ior hx hb dX2_tryRows_95 ?_
      refine lv_topi (fun v_42 e_42 => ?_)
      refine lv_iload_n hx hb dX2_tryRows_96 rfl (lv_at hl 6 rfl) ?_
      refine lv_iload hx hb dX2_tryRows_97 (lv_at hl 0 rfl) ?_
      refine lv_iadd hx hb dX2_tryRows_99 ?_
      refine lv_topi (fun v_43 e_43 => ?_)
      have hP := hbP_8 [(xo_2_riiiii c0 be (nI hn) wa br bw bt), (xJ be cL 9 fb)] ((nI hh)) ((nI ww)) ((nI kk)) ((V dp 0)) ((V dp 1)) ((V dp 2)) (0) ((nI (hh + 1))) (v5n_39) ((nI ww)) ((nI kk)) (f1n_9) (f2n_9) (g3n_39) (g4n_39) (g5n_39) _ e4 e6 e7 (hP.part (cx := (([(xo_2_riiiii c0 be (nI hn) wa br bw bt), (xJ be cL 9 fb)] : va_W) ++ ([(xo_3_iiiiiiiirrrrr (ad dp) (V dp 0) (V dp 1) (V dp 2) (V dp 3) (nI hh) (V dp 5) (nI ww) (nI kk) (bd dp 0) (bd dp 1) (bd dp 2) (bd dp 3) (bd dp 4)), (xI (bd dp 0) cI 6 (G dp 0)), (xI (bd dp 1) cI 6 (G dp 1)), (xI (bd dp 2) cI 6 (G dp 2)), (xI (bd dp 3) cI 6 (G dp 3)), (xI (bd dp 4) cI 6 (G dp 4)), (xo_3_iiiiiiiirrrrr (ad (dp + 1)) (V dp 0) (V dp 1) (V dp 2) 0 (nI (hh + 1)) v5n_39 (nI ww) (nI kk) (bd (dp + 1) 0) (bd (dp + 1) 1) (bd (dp + 1) 2) (bd (dp + 1) 3) (bd (dp + 1) 4)), (xI (bd (dp + 1) 0) cI 6 f1n_9), (xI (bd (dp + 1) 1) cI 6 f2n_9), (xI (bd (dp + 1) 2) cI 6 g3n_39), (xI (bd (dp + 1) 3) cI 6 g4n_39), (xI (bd (dp + 1) 4) cI 6 g5n_39)] : va_W))) [0, 1, 2, 3, 4, 5, 6, 7, 8, 9, 10, 11, 12, 13] rfl)
      have hD := hbD_8 [(xo_2_riiiii c0 be (nI hn) wa br bw bt), (xJ be cL 9 fb)] ((nI hh)) ((nI ww)) ((nI kk)) ((V dp 0)) ((V dp 1)) ((V dp 2)) (0) ((nI (hh + 1))) (v5n_39) ((nI ww)) ((nI kk)) (f1n_9) (f2n_9) (g3n_39) (g4n_39) (g5n_39) _ e4 e6 e7 (hD.part (cx := (([(xo_2_riiiii c0 be (nI hn) wa br bw bt), (xJ be cL 9 fb)] : va_W) ++ ([(xo_3_iiiiiiiirrrrr (ad dp) (V dp 0) (V dp 1) (V dp 2) (V dp 3) (nI hh) (V dp 5) (nI ww) (nI kk) (bd dp 0) (bd dp 1) (bd dp 2) (bd dp 3) (bd dp 4)), (xI (bd dp 0) cI 6 (G dp 0)), (xI (bd dp 1) cI 6 (G dp 1)), (xI (bd dp 2) cI 6 (G dp 2)), (xI (bd dp 3) cI 6 (G dp 3)), (xI (bd dp 4) cI 6 (G dp 4)), (xo_3_iiiiiiiirrrrr (ad (dp + 1)) (V dp 0) (V dp 1) (V dp 2) 0 (nI (hh + 1)) v5n_39 (nI ww) (nI kk) (bd (dp + 1) 0) (bd (dp + 1) 1) (bd (dp + 1) 2) (bd (dp + 1) 3) (bd (dp + 1) 4)), (xI (bd (dp + 1) 0) cI 6 f1n_9), (xI (bd (dp + 1) 1) cI 6 f2n_9), (xI (bd (dp + 1) 2) cI 6 g3n_39), (xI (bd (dp + 1) 3) cI 6 g4n_39), (xI (bd (dp + 1) 4) cI 6 g5n_39)] : va_W))) [0, 1, 2, 3, 4, 5, 6, 7, 8, 9, 10, 11, 12, 13] (by decide +kernel) rfl)
      generalize hV_44 : va_up V (dp + 1) (fun k => [(V dp 0), (V dp 1), (V dp 2), 0, (nI (hh + 1)), v5n_39, (nI ww), (nI kk)].getD k 0) = V_44 at hP hD
      generalize hG_44 : va_up G (dp + 1) (fun k => [f1n_9, f2n_9, g3n_39, g4n_39, g5n_39].getD k (fun _ => 0)) = G_44 at hP hD
      have hP : va_P (dC, dI) vwCl (([(xo_2_riiiii c0 be (nI hn) wa br bw bt), (xJ be cL 9 fb)] : va_W) ++ lvs cI 9 ad bd V_44 G_44) H := hP
      have hD : va_D A (([(xo_2_riiiii c0 be (nI hn) wa br bw bt), (xJ be cL 9 fb)] : va_W) ++ lvs cI 9 ad bd V_44 G_44) := hD
      have s4_44 : V_44 (dp + 1) 4 = (nI (hh + 1)) := by rw [← hV_44, va_up_self]; rfl
      have s6_44 : V_44 (dp + 1) 6 = (nI ww) := by rw [← hV_44, va_up_self]; rfl
      have s7_44 : V_44 (dp + 1) 7 = (nI kk) := by rw [← hV_44, va_up_self]; rfl
      have kp_44 : ∀ j : Nat, j ≤ dp → V_44 j = V j ∧ G_44 j = G j := fun j hj => by rw [← hV_44, ← hG_44, va_up_ne _ _ (by omega), va_up_ne _ _ (by omega)]; exact ⟨rfl, rfl⟩
      have a4_44 : V_44 dp 4 = nI hh := by rw [(kp_44 dp (Nat.le_refl _)).1]; exact e4
      have a6_44 : V_44 dp 6 = nI ww := by rw [(kp_44 dp (Nat.le_refl _)).1]; exact e6
      have a7_44 : V_44 dp 7 = nI kk := by rw [(kp_44 dp (Nat.le_refl _)).1]; exact e7
      have nx_44 : nrV (V_44 (dp + 1)) (G_44 (dp + 1)) = mH (upd (nrV (V dp) (G dp)) 6 0) ∧ okN (999 + (dp + 1)) (nrV (V_44 (dp + 1)) (G_44 (dp + 1))) := by
        rw [← hV_44, ← hG_44, va_up_self, va_up_self]
        exact cap_nx rfl rfl hN e4 e6 e7 hhb hww hkk (by omega) (by decide) hF_9_0 hF_9_1 hF_9_2 hF_9_3 hF_9_4 hF_39_0
      have hc_45 := cutP (cx := [(xo_2_riiiii c0 be (nI hn) wa br bw bt), (xJ be cL 9 fb)]) hP hD hS hA [0, 1] (by decide +kernel) rfl
      refine va_callv (va_runV (As := [.int (nI (dp + 1)), .int v_42, .int v_43]) (rest := []) ⟨hx, hb, hml, hown, hts⟩ (IH l dC dI cI cZ cL cJ H.size c0 be hn wa br bw bt fb ad bd V_44 G_44 (hh + 1) ww kk v_42 v_43 (hfb) (s4_44) (s6_44) (s7_44) (by omega) (hww) (hkk) (by omega) (hn8) (nx_44.2)) (cwV 3 hts gX2_tryRows_X2_tryRows rfl rfl rfl (by decide +kernel) ⟨by show 14 - (dp + 1) + 1 ≤ 14 - dp; omega, by show 8 + (7 + 11) + (3000 - 200 * (dp + 1)) ≤ 3000 - 200 * dp; omega⟩) (pvW 2 0 hK hP rfl rfl hc_45) rfl rfl hl.1 rfl (lv_room (Nat.le_of_ble_eq_true rfl)) dX2_tryRows_100 ⟨Nat.le_of_ble_eq_true rfl, Nat.le_of_ble_eq_true rfl⟩) hS (fun q _ h => hc_45.2.2 q h) hc_45.2.2 (fun u_45 t_45 H1 locs ht hvm h_45 hB hz1 hk1 hS => ?_)
      refine xl_5_4 hB (fun Vn_45 Gn_45 brn_45 bwn_45 btn_45 hP1 hD1 hF_45_0 hF_45_1 => ?_)
      clear hB
      rw [ht] at hP1
      obtain ⟨hP, hD⟩ := va_joinP (wr := []) (rx := [(xo_2_riiiii c0 be (nI hn) wa brn_45 bwn_45 btn_45), (xJ be cL 9 fb)]) (pl1 := lvs cI 9 ad bd Vn_45 Gn_45) hP hD [0, 1] [] rfl rfl (by decide +kernel) (by decide +kernel) hk1 hc_45.2.2 hP1 hD1
      generalize H1 = H at hP hS ⊢
      have hP : va_P (dC, dI) vwCl (([(xo_2_riiiii c0 be (nI hn) wa brn_45 bwn_45 btn_45), (xJ be cL 9 fb)] : va_W) ++ lvs cI 9 ad bd Vn_45 Gn_45) H := hP
      have hD := dto hP hD
      have kq_45 : ∀ j : Nat, j ≤ dp → Vn_45 j = V j ∧ Gn_45 j = G j := fun j hj => ⟨(hF_45_0 j (by omega)).1.trans ((kp_44 j hj)).1, (hF_45_0 j (by omega)).2.trans ((kp_44 j hj)).2⟩
      have b4_45 : Vn_45 dp 4 = nI hh := by rw [(kq_45 dp (Nat.le_refl _)).1]; exact e4
      have b6_45 : Vn_45 dp 6 = nI ww := by rw [(kq_45 dp (Nat.le_refl _)).1]; exact e6
      have b7_45 : Vn_45 dp 7 = nI kk := by rw [(kq_45 dp (Nat.le_refl _)).1]; exact e7
      have kd_45 : Vn_45 dp = V dp := (kq_45 dp (Nat.le_refl _)).1
      refine lv_iinc (v := 1) (lv' := [(4, .int 1), (6, .int 0), (5, .ref (ad (dp + 1))), (0, .ref c0), (1, .int (nI dp)), (2, .int x), (3, .int y)]) hx hb dX2_tryRows_103 hl (k := 2) rfl (by decide) (by decide) rfl (fun ls hl => ?_)
      refine lv_goto (tgt := 30) hx hb dX2_tryRows_106 (by decide) ?_
      refine lv_iload hx hb dX2_tryRows_30 (lv_at hl 0 rfl) ?_
      refine lv_iconst (v := 1) hx hb dX2_tryRows_32 (by decide) ?_
      refine lv_icmp_gt (tgt := 109) hx hb dX2_tryRows_33 (by decide) (fun c_ => absurd c_ (by decide)) (fun _ => ?_)
      refine lv_aload_n hx hb dX2_tryRows_36 rfl (lv_at hl 3 rfl) ?_
      refine va_get (D := (dC, dI)) (ci := 2) (v := .ref be) (C := RX2) (T := TX2) (N := 6) hx hb hts i_X2_tryRows_X2 hown hK hP 0 rfl rfl 0 (by decide) (hts _ mx_X2_tryRows_2) (fun _ h9 => h9) rfl dX2_tryRows_37 ?_
      refine lv_iload_n hx hb dX2_tryRows_40 rfl (lv_at hl 4 rfl) ?_
      refine lv_iconst (v := 1) hx hb dX2_tryRows_41 (by decide) ?_
      refine lv_iadd hx hb dX2_tryRows_42 ?_
      refine lv_topi (fun v_47 e_47 => ?_)
      obtain rfl : v_47 = (nI (dp + 1)) := (e_47).trans (nI_add dp 1)
      refine va_aldq hx hb hK hP 1 2 rfl rfl (vp_in_nI (by omega) (by omega)) dX2_tryRows_43 ?_
      refine W.eq (g2 := F0 m 44 ls (.ref (ad (dp + 1)) :: [])) (by show F0 m 44 ls (va_rf (fb (nI (dp + 1)).toNatClampNeg) :: _) = _; rw [nI_clamp (by omega), hfb _ (by omega)]; rfl) ?_
      obtain ⟨pl_48, hP, hD, hbP_48, hbD_48⟩ := blk_opn2 hP hD (i := dp) (by omega)
      have hP : va_P (dC, dI) vwCl (([(xo_2_riiiii c0 be (nI hn) wa brn_45 bwn_45 btn_45), (xJ be cL 9 fb), (xo_3_iiiiiiiirrrrr (ad dp) (Vn_45 dp 0) (Vn_45 dp 1) (Vn_45 dp 2) (Vn_45 dp 3) (Vn_45 dp 4) (Vn_45 dp 5) (Vn_45 dp 6) (Vn_45 dp 7) (bd dp 0) (bd dp 1) (bd dp 2) (bd dp 3) (bd dp 4)), (xI (bd dp 0) cI 6 (Gn_45 dp 0)), (xI (bd dp 1) cI 6 (Gn_45 dp 1)), (xI (bd dp 2) cI 6 (Gn_45 dp 2)), (xI (bd dp 3) cI 6 (Gn_45 dp 3)), (xI (bd dp 4) cI 6 (Gn_45 dp 4)), (xo_3_iiiiiiiirrrrr (ad (dp + 1)) (Vn_45 (dp + 1) 0) (Vn_45 (dp + 1) 1) (Vn_45 (dp + 1) 2) (Vn_45 (dp + 1) 3) (Vn_45 (dp + 1) 4) (Vn_45 (dp + 1) 5) (Vn_45 (dp + 1) 6) (Vn_45 (dp + 1) 7) (bd (dp + 1) 0) (bd (dp + 1) 1) (bd (dp + 1) 2) (bd (dp + 1) 3) (bd (dp + 1) 4)), (xI (bd (dp + 1) 0) cI 6 (Gn_45 (dp + 1) 0)), (xI (bd (dp + 1) 1) cI 6 (Gn_45 (dp + 1) 1)), (xI (bd (dp + 1) 2) cI 6 (Gn_45 (dp + 1) 2)), (xI (bd (dp + 1) 3) cI 6 (Gn_45 (dp + 1) 3)), (xI (bd (dp + 1) 4) cI 6 (Gn_45 (dp + 1) 4))] : va_W) ++ pl_48) H := hP
      have hD : va_D A (([(xo_2_riiiii c0 be (nI hn) wa brn_45 bwn_45 btn_45), (xJ be cL 9 fb), (xo_3_iiiiiiiirrrrr (ad dp) (Vn_45 dp 0) (Vn_45 dp 1) (Vn_45 dp 2) (Vn_45 dp 3) (Vn_45 dp 4) (Vn_45 dp 5) (Vn_45 dp 6) (Vn_45 dp 7) (bd dp 0) (bd dp 1) (bd dp 2) (bd dp 3) (bd dp 4)), (xI (bd dp 0) cI 6 (Gn_45 dp 0)), (xI (bd dp 1) cI 6 (Gn_45 dp 1)), (xI (bd dp 2) cI 6 (Gn_45 dp 2)), (xI (bd dp 3) cI 6 (Gn_45 dp 3)), (xI (bd dp 4) cI 6 (Gn_45 dp 4)), (xo_3_iiiiiiiirrrrr (ad (dp + 1)) (Vn_45 (dp + 1) 0) (Vn_45 (dp + 1) 1) (Vn_45 (dp + 1) 2) (Vn_45 (dp + 1) 3) (Vn_45 (dp + 1) 4) (Vn_45 (dp + 1) 5) (Vn_45 (dp + 1) 6) (Vn_45 (dp + 1) 7) (bd (dp + 1) 0) (bd (dp + 1) 1) (bd (dp + 1) 2) (bd (dp + 1) 3) (bd (dp + 1) 4)), (xI (bd (dp + 1) 0) cI 6 (Gn_45 (dp + 1) 0)), (xI (bd (dp + 1) 1) cI 6 (Gn_45 (dp + 1) 1)), (xI (bd (dp + 1) 2) cI 6 (Gn_45 (dp + 1) 2)), (xI (bd (dp + 1) 3) cI 6 (Gn_45 (dp + 1) 3)), (xI (bd (dp + 1) 4) cI 6 (Gn_45 (dp + 1) 4))] : va_W) ++ pl_48) := hD
      rw [b4_45, b6_45, b7_45] at hP hD
      refine lv_astore (lv' := [(5, .ref (ad (dp + 1))), (4, .int 1), (6, .int 0), (0, .ref c0), (1, .int (nI dp)), (2, .int x), (3, .int y)]) hx hb dX2_tryRows_44 hl (by decide) rfl (fun ls hl => ?_)
      refine lv_aload hx hb dX2_tryRows_46 (lv_at hl 0 rfl) ?_
      refine lv_aload_n hx hb dX2_tryRows_48 rfl (lv_at hl 3 rfl) ?_
      refine va_get (D := (dC, dI)) (ci := 2) (v := .ref be) (C := RX2) (T := TX2) (N := 6) hx hb hts i_X2_tryRows_X2 hown hK hP 0 rfl rfl 0 (by decide) (hts _ mx_X2_tryRows_2) (fun _ h9 => h9) rfl dX2_tryRows_49 ?_
      refine lv_iload_n hx hb dX2_tryRows_52 rfl (lv_at hl 4 rfl) ?_
      refine va_aldq hx hb hK hP 1 2 rfl rfl (vp_in_nI (by omega) (by omega)) dX2_tryRows_53 ?_
      refine W.eq (g2 := F0 m 54 ls (.ref (ad dp) :: [.ref (ad (dp + 1))])) (by show F0 m 54 ls (va_rf (fb (nI dp).toNatClampNeg) :: _) = _; rw [nI_clamp (by omega), hfb _ (by omega)]; rfl) ?_
      have hc_49 := cutX (wc := [(xo_3_iiiiiiiirrrrr (ad (dp + 1)) (Vn_45 (dp + 1) 0) (Vn_45 (dp + 1) 1) (Vn_45 (dp + 1) 2) (Vn_45 (dp + 1) 3) (Vn_45 (dp + 1) 4) (Vn_45 (dp + 1) 5) (Vn_45 (dp + 1) 6) (Vn_45 (dp + 1) 7) (bd (dp + 1) 0) (bd (dp + 1) 1) (bd (dp + 1) 2) (bd (dp + 1) 3) (bd (dp + 1) 4)), (xI (bd (dp + 1) 0) cI 6 (Gn_45 (dp + 1) 0)), (xI (bd (dp + 1) 1) cI 6 (Gn_45 (dp + 1) 1)), (xI (bd (dp + 1) 2) cI 6 (Gn_45 (dp + 1) 2)), (xI (bd (dp + 1) 3) cI 6 (Gn_45 (dp + 1) 3)), (xI (bd (dp + 1) 4) cI 6 (Gn_45 (dp + 1) 4)), (xo_3_iiiiiiiirrrrr (ad dp) (Vn_45 dp 0) (Vn_45 dp 1) (Vn_45 dp 2) (Vn_45 dp 3) (nI hh) (Vn_45 dp 5) (nI ww) (nI kk) (bd dp 0) (bd dp 1) (bd dp 2) (bd dp 3) (bd dp 4)), (xI (bd dp 0) cI 6 (Gn_45 dp 0)), (xI (bd dp 1) cI 6 (Gn_45 dp 1)), (xI (bd dp 2) cI 6 (Gn_45 dp 2)), (xI (bd dp 3) cI 6 (Gn_45 dp 3)), (xI (bd dp 4) cI 6 (Gn_45 dp 4))]) hP hD hS hA [8, 9, 10, 11, 12, 13, 2, 3, 4, 5, 6, 7] (by decide +kernel) rfl
      refine va_callv (va_runV (As := [.ref (ad dp)]) (rest := []) ⟨hx, hb, hml, hown, hts⟩ (r_X3_becomeLike l dC dI cI cZ cL cJ H.size (ad (dp + 1)) (Vn_45 (dp + 1) 0) (Vn_45 (dp + 1) 1) (Vn_45 (dp + 1) 2) (Vn_45 (dp + 1) 3) (Vn_45 (dp + 1) 4) (Vn_45 (dp + 1) 5) (Vn_45 (dp + 1) 6) (Vn_45 (dp + 1) 7) (bd (dp + 1) 0) (bd (dp + 1) 1) (bd (dp + 1) 2) (bd (dp + 1) 3) (bd (dp + 1) 4) (Gn_45 (dp + 1) 0) (Gn_45 (dp + 1) 1) (Gn_45 (dp + 1) 2) (Gn_45 (dp + 1) 3) (Gn_45 (dp + 1) 4) (ad dp) (Vn_45 dp 0) (Vn_45 dp 1) (Vn_45 dp 2) (Vn_45 dp 3) (nI hh) (Vn_45 dp 5) (nI ww) (nI kk) (bd dp 0) (bd dp 1) (bd dp 2) (bd dp 3) (bd dp 4) (Gn_45 dp 0) (Gn_45 dp 1) (Gn_45 dp 2) (Gn_45 dp 3) (Gn_45 dp 4) ) (cwV 1 hts gX2_tryRows_X3_becomeLike rfl rfl rfl (by decide +kernel) ⟨by show 1 + 1 ≤ 14 - dp; omega, by show 8 + (2 + 11) + 80 ≤ 3000 - 200 * dp; omega⟩) (pvW 3 8 hK hP rfl rfl hc_49) rfl rfl hl.1 rfl (lv_room (Nat.le_of_ble_eq_true rfl)) dX2_tryRows_54 ⟨Nat.le_of_ble_eq_true rfl, Nat.le_of_ble_eq_true rfl⟩) hS (fun q _ h => hc_49.2.2 q h) hc_49.2.2 (fun u_49 t_49 H1 locs ht hvm h_49 hB hz1 hk1 hS => ?_)
      refine xl_5_7 hB (fun f1n_49 f2n_49 f3n_49 f4n_49 f5n_49 hP1 hD1 hF_49_0 hF_49_1 hF_49_2 hF_49_3 hF_49_4 => ?_)
      clear hB
      rw [ht] at hP1
      obtain ⟨hP, hD⟩ := va_joinQ (wr := [(xo_2_riiiii c0 be (nI hn) wa brn_45 bwn_45 btn_45), (xJ be cL 9 fb)]) (w1 := [(xo_3_iiiiiiiirrrrr (ad (dp + 1)) (Vn_45 dp 0) (Vn_45 dp 1) (Vn_45 dp 2) (Vn_45 dp 3) (nI hh) (Vn_45 dp 5) (nI ww) (nI kk) (bd (dp + 1) 0) (bd (dp + 1) 1) (bd (dp + 1) 2) (bd (dp + 1) 3) (bd (dp + 1) 4)), (xI (bd (dp + 1) 0) cI 6 f1n_49), (xI (bd (dp + 1) 1) cI 6 f2n_49), (xI (bd (dp + 1) 2) cI 6 f3n_49), (xI (bd (dp + 1) 3) cI 6 f4n_49), (xI (bd (dp + 1) 4) cI 6 f5n_49), (xo_3_iiiiiiiirrrrr (ad dp) (Vn_45 dp 0) (Vn_45 dp 1) (Vn_45 dp 2) (Vn_45 dp 3) (nI hh) (Vn_45 dp 5) (nI ww) (nI kk) (bd dp 0) (bd dp 1) (bd dp 2) (bd dp 3) (bd dp 4)), (xI (bd dp 0) cI 6 (Gn_45 dp 0)), (xI (bd dp 1) cI 6 (Gn_45 dp 1)), (xI (bd dp 2) cI 6 (Gn_45 dp 2)), (xI (bd dp 3) cI 6 (Gn_45 dp 3)), (xI (bd dp 4) cI 6 (Gn_45 dp 4))]) hP hD [8, 9, 10, 11, 12, 13, 2, 3, 4, 5, 6, 7] [0, 1] rfl rfl (by decide +kernel) (by decide +kernel) hk1 hc_49.2.2 hP1 hD1
      generalize H1 = H at hP hS ⊢
      have hP : va_P (dC, dI) vwCl (([(xo_2_riiiii c0 be (nI hn) wa brn_45 bwn_45 btn_45), (xJ be cL 9 fb), (xo_3_iiiiiiiirrrrr (ad (dp + 1)) (Vn_45 dp 0) (Vn_45 dp 1) (Vn_45 dp 2) (Vn_45 dp 3) (nI hh) (Vn_45 dp 5) (nI ww) (nI kk) (bd (dp + 1) 0) (bd (dp + 1) 1) (bd (dp + 1) 2) (bd (dp + 1) 3) (bd (dp + 1) 4)), (xI (bd (dp + 1) 0) cI 6 f1n_49), (xI (bd (dp + 1) 1) cI 6 f2n_49), (xI (bd (dp + 1) 2) cI 6 f3n_49), (xI (bd (dp + 1) 3) cI 6 f4n_49), (xI (bd (dp + 1) 4) cI 6 f5n_49), (xo_3_iiiiiiiirrrrr (ad dp) (Vn_45 dp 0) (Vn_45 dp 1) (Vn_45 dp 2) (Vn_45 dp 3) (nI hh) (Vn_45 dp 5) (nI ww) (nI kk) (bd dp 0) (bd dp 1) (bd dp 2) (bd dp 3) (bd dp 4)), (xI (bd dp 0) cI 6 (Gn_45 dp 0)), (xI (bd dp 1) cI 6 (Gn_45 dp 1)), (xI (bd dp 2) cI 6 (Gn_45 dp 2)), (xI (bd dp 3) cI 6 (Gn_45 dp 3)), (xI (bd dp 4) cI 6 (Gn_45 dp 4))] : va_W) ++ pl_48) H := hP
      have hD := dto hP hD
      refine lv_aload hx hb dX2_tryRows_57 (lv_at hl 0 rfl) ?_
      refine va_get (D := (dC, dI)) (ci := 3) (v := .int (Vn_45 dp 3)) (C := RX3) (T := TX3) (N := 13) hx hb hts i_X2_tryRows_X3 hown hK hP 2 rfl rfl 3 (by decide) (hts _ mx_X2_tryRows_3) (fun _ h9 => h9) rfl dX2_tryRows_59 ?_
      refine lv_iload hx hb dX2_tryRows_62 (lv_at hl 1 rfl) ?_
      refine lv_icmp_ne (tgt := 71) hx hb dX2_tryRows_64 (by decide) (fun c_50 => ?_) (fun c_50 => ?_)
      · skip
        refine lv_iconst (v := 1) hx hb dX2_tryRows_71 (by decide) ?_
        refine lv_istore (lv' := [(6, .int 1), (5, .ref (ad (dp + 1))), (4, .int 1), (0, .ref c0), (1, .int (nI dp)), (2, .int x), (3, .int y)]) hx hb dX2_tryRows_72 hl (by decide) rfl (fun ls hl => ?_)
        refine lv_aload hx hb dX2_tryRows_74 (lv_at hl 1 rfl) ?_
        refine lv_iload hx hb dX2_tryRows_76 (lv_at hl 2 rfl) ?_
        refine va_put (D := (dC, dI)) (ci := 3) (v := .int 1) (ty := .int) (C := RX3) (T := TX3) (N := 13) hx hb hts i_X2_tryRows_X3 tyX3 tyX3_ok nmX3 hown hK hP hD hS 2 rfl rfl 3 (by decide) (hts _ mx_X2_tryRows_3) (fun _ h9 => h9) rfl (by decide +kernel) rfl rfl (Nat.le_of_ble_eq_true rfl) dX2_tryRows_78 (fun H locs hP hD hS => ?_)
        have hP : va_P (dC, dI) vwCl (([(xo_2_riiiii c0 be (nI hn) wa brn_45 bwn_45 btn_45), (xJ be cL 9 fb), (xo_3_iiiiiiiirrrrr (ad (dp + 1)) (Vn_45 dp 0) (Vn_45 dp 1) (Vn_45 dp 2) 1 (nI hh) (Vn_45 dp 5) (nI ww) (nI kk) (bd (dp + 1) 0) (bd (dp + 1) 1) (bd (dp + 1) 2) (bd (dp + 1) 3) (bd (dp + 1) 4)), (xI (bd (dp + 1) 0) cI 6 f1n_49), (xI (bd (dp + 1) 1) cI 6 f2n_49), (xI (bd (dp + 1) 2) cI 6 f3n_49), (xI (bd (dp + 1) 3) cI 6 f4n_49), (xI (bd (dp + 1) 4) cI 6 f5n_49), (xo_3_iiiiiiiirrrrr (ad dp) (Vn_45 dp 0) (Vn_45 dp 1) (Vn_45 dp 2) (Vn_45 dp 3) (nI hh) (Vn_45 dp 5) (nI ww) (nI kk) (bd dp 0) (bd dp 1) (bd dp 2) (bd dp 3) (bd dp 4)), (xI (bd dp 0) cI 6 (Gn_45 dp 0)), (xI (bd dp 1) cI 6 (Gn_45 dp 1)), (xI (bd dp 2) cI 6 (Gn_45 dp 2)), (xI (bd dp 3) cI 6 (Gn_45 dp 3)), (xI (bd dp 4) cI 6 (Gn_45 dp 4))] : va_W) ++ pl_48) H := hP
        have hD := dto hP hD
        refine lv_aload hx hb dX2_tryRows_81 (lv_at hl 1 rfl) ?_
        have hc_51 := cutX (wc := [(xo_3_iiiiiiiirrrrr (ad (dp + 1)) (Vn_45 dp 0) (Vn_45 dp 1) (Vn_45 dp 2) 1 (nI hh) (Vn_45 dp 5) (nI ww) (nI kk) (bd (dp + 1) 0) (bd (dp + 1) 1) (bd (dp + 1) 2) (bd (dp + 1) 3) (bd (dp + 1) 4)), (xI (bd (dp + 1) 0) cI 6 f1n_49), (xI (bd (dp + 1) 1) cI 6 f2n_49), (xI (bd (dp + 1) 2) cI 6 f3n_49), (xI (bd (dp + 1) 3) cI 6 f4n_49), (xI (bd (dp + 1) 4) cI 6 f5n_49)]) hP hD hS hA [2, 3, 4, 5, 6, 7] (by decide +kernel) rfl
        refine va_callv (va_runV (As := []) (rest := []) ⟨hx, hb, hml, hown, hts⟩ (r_X3_pass l dC dI cI cZ cL cJ H.size (ad (dp + 1)) (Vn_45 dp 0) (Vn_45 dp 1) (Vn_45 dp 2) 1 (Vn_45 dp 5) hh ww kk (bd (dp + 1) 0) (bd (dp + 1) 1) (bd (dp + 1) 2) (bd (dp + 1) 3) (bd (dp + 1) 4) f1n_49 f2n_49 f3n_49 f4n_49 f5n_49 (by omega) (hww) (hkk)) (cwV 0 hts gX2_tryRows_X3_pass rfl rfl rfl (by decide +kernel) ⟨by show 3 + 1 ≤ 14 - dp; omega, by show 8 + (3 + 11) + 66 ≤ 3000 - 200 * dp; omega⟩) (pvW 3 2 hK hP rfl rfl hc_51) rfl rfl hl.1 rfl (lv_room (Nat.le_of_ble_eq_true rfl)) dX2_tryRows_83 ⟨Nat.le_of_ble_eq_true rfl, Nat.le_of_ble_eq_true rfl⟩) hS (fun q _ h => hc_51.2.2 q h) hc_51.2.2 (fun u_51 t_51 H1 locs ht hvm h_51 hB hz1 hk1 hS => ?_)
        refine xl_4_3 hB (fun v5n_51 g3n_51 g4n_51 g5n_51 hP1 hD1 hF_51_0 => ?_)
        clear hB
        rw [ht] at hP1
        obtain ⟨hP, hD⟩ := va_joinQ (wr := [(xo_2_riiiii c0 be (nI hn) wa brn_45 bwn_45 btn_45), (xJ be cL 9 fb), (xo_3_iiiiiiiirrrrr (ad dp) (Vn_45 dp 0) (Vn_45 dp 1) (Vn_45 dp 2) (Vn_45 dp 3) (nI hh) (Vn_45 dp 5) (nI ww) (nI kk) (bd dp 0) (bd dp 1) (bd dp 2) (bd dp 3) (bd dp 4)), (xI (bd dp 0) cI 6 (Gn_45 dp 0)), (xI (bd dp 1) cI 6 (Gn_45 dp 1)), (xI (bd dp 2) cI 6 (Gn_45 dp 2)), (xI (bd dp 3) cI 6 (Gn_45 dp 3)), (xI (bd dp 4) cI 6 (Gn_45 dp 4))]) (w1 := [(xo_3_iiiiiiiirrrrr (ad (dp + 1)) (Vn_45 dp 0) (Vn_45 dp 1) (Vn_45 dp 2) 1 (nI (hh + 1)) v5n_51 (nI ww) (nI kk) (bd (dp + 1) 0) (bd (dp + 1) 1) (bd (dp + 1) 2) (bd (dp + 1) 3) (bd (dp + 1) 4)), (xI (bd (dp + 1) 0) cI 6 f1n_49), (xI (bd (dp + 1) 1) cI 6 f2n_49), (xI (bd (dp + 1) 2) cI 6 g3n_51), (xI (bd (dp + 1) 3) cI 6 g4n_51), (xI (bd (dp + 1) 4) cI 6 g5n_51)]) hP hD [2, 3, 4, 5, 6, 7] [0, 1, 8, 9, 10, 11, 12, 13] rfl rfl (by decide +kernel) (by decide +kernel) hk1 hc_51.2.2 hP1 hD1
        generalize H1 = H at hP hS ⊢
        have hP : va_P (dC, dI) vwCl (([(xo_2_riiiii c0 be (nI hn) wa brn_45 bwn_45 btn_45), (xJ be cL 9 fb), (xo_3_iiiiiiiirrrrr (ad dp) (Vn_45 dp 0) (Vn_45 dp 1) (Vn_45 dp 2) (Vn_45 dp 3) (nI hh) (Vn_45 dp 5) (nI ww) (nI kk) (bd dp 0) (bd dp 1) (bd dp 2) (bd dp 3) (bd dp 4)), (xI (bd dp 0) cI 6 (Gn_45 dp 0)), (xI (bd dp 1) cI 6 (Gn_45 dp 1)), (xI (bd dp 2) cI 6 (Gn_45 dp 2)), (xI (bd dp 3) cI 6 (Gn_45 dp 3)), (xI (bd dp 4) cI 6 (Gn_45 dp 4)), (xo_3_iiiiiiiirrrrr (ad (dp + 1)) (Vn_45 dp 0) (Vn_45 dp 1) (Vn_45 dp 2) 1 (nI (hh + 1)) v5n_51 (nI ww) (nI kk) (bd (dp + 1) 0) (bd (dp + 1) 1) (bd (dp + 1) 2) (bd (dp + 1) 3) (bd (dp + 1) 4)), (xI (bd (dp + 1) 0) cI 6 f1n_49), (xI (bd (dp + 1) 1) cI 6 f2n_49), (xI (bd (dp + 1) 2) cI 6 g3n_51), (xI (bd (dp + 1) 3) cI 6 g4n_51), (xI (bd (dp + 1) 4) cI 6 g5n_51)] : va_W) ++ pl_48) H := hP
        have hD := dto hP hD
        refine lv_aload_n hx hb dX2_tryRows_86 rfl (lv_at hl 3 rfl) ?_
        refine lv_iload_n hx hb dX2_tryRows_87 rfl (lv_at hl 4 rfl) ?_
        refine lv_iconst (v := 1) hx hb dX2_tryRows_88 (by decide) ?_
        refine lv_iadd hx hb dX2_tryRows_89 ?_
        refine lv_topi (fun v_52 e_52 => ?_)
        obtain rfl : v_52 = (nI (dp + 1)) := (e_52).trans (nI_add dp 1)
        refine lv_iload_n hx hb dX2_tryRows_90 rfl (lv_at hl 5 rfl) ?_
        refine lv_iconst (v := 1) hx hb dX2_tryRows_91 (by decide) ?_
        refine lv_ishl hx hb dX2_tryRows_92 ?_
        refine lv_topi (fun v_53 e_53 => ?_)
        refine lv_iload hx hb dX2_tryRows_93 (lv_at hl 2 rfl) ?_
        refine lv_ior hx hb dX2_tryRows_95 ?_
        refine lv_topi (fun v_54 e_54 => ?_)
        refine lv_iload_n hx hb dX2_tryRows_96 rfl (lv_at hl 6 rfl) ?_
        refine lv_iload hx hb dX2_tryRows_97 (lv_at hl 0 rfl) ?_
        refine lv_iadd hx hb dX2_tryRows_99 ?_
        refine lv_topi (fun v_55 e_55 => ?_)
        have hP := hbP_48 [(xo_2_riiiii c0 be (nI hn) wa brn_45 bwn_45 btn_45), (xJ be cL 9 fb)] ((nI hh)) ((nI ww)) ((nI kk)) ((Vn_45 dp 0)) ((Vn_45 dp 1)) ((Vn_45 dp 2)) (1) ((nI (hh + 1))) (v5n_51) ((nI ww)) ((nI kk)) (f1n_49) (f2n_49) (g3n_51) (g4n_51) (g5n_51) _ b4_45 b6_45 b7_45 (hP.part (cx := (([(xo_2_riiiii c0 be (nI hn) wa brn_45 bwn_45 btn_45), (xJ be cL 9 fb)] : va_W) ++ ([(xo_3_iiiiiiiirrrrr (ad dp) (Vn_45 dp 0) (Vn_45 dp 1) (Vn_45 dp 2) (Vn_45 dp 3) (nI hh) (Vn_45 dp 5) (nI ww) (nI kk) (bd dp 0) (bd dp 1) (bd dp 2) (bd dp 3) (bd dp 4)), (xI (bd dp 0) cI 6 (Gn_45 dp 0)), (xI (bd dp 1) cI 6 (Gn_45 dp 1)), (xI (bd dp 2) cI 6 (Gn_45 dp 2)), (xI (bd dp 3) cI 6 (Gn_45 dp 3)), (xI (bd dp 4) cI 6 (Gn_45 dp 4)), (xo_3_iiiiiiiirrrrr (ad (dp + 1)) (Vn_45 dp 0) (Vn_45 dp 1) (Vn_45 dp 2) 1 (nI (hh + 1)) v5n_51 (nI ww) (nI kk) (bd (dp + 1) 0) (bd (dp + 1) 1) (bd (dp + 1) 2) (bd (dp + 1) 3) (bd (dp + 1) 4)), (xI (bd (dp + 1) 0) cI 6 f1n_49), (xI (bd (dp + 1) 1) cI 6 f2n_49), (xI (bd (dp + 1) 2) cI 6 g3n_51), (xI (bd (dp + 1) 3) cI 6 g4n_51), (xI (bd (dp + 1) 4) cI 6 g5n_51)] : va_W))) [0, 1, 2, 3, 4, 5, 6, 7, 8, 9, 10, 11, 12, 13] rfl)
        have hD := hbD_48 [(xo_2_riiiii c0 be (nI hn) wa brn_45 bwn_45 btn_45), (xJ be cL 9 fb)] ((nI hh)) ((nI ww)) ((nI kk)) ((Vn_45 dp 0)) ((Vn_45 dp 1)) ((Vn_45 dp 2)) (1) ((nI (hh + 1))) (v5n_51) ((nI ww)) ((nI kk)) (f1n_49) (f2n_49) (g3n_51) (g4n_51) (g5n_51) _ b4_45 b6_45 b7_45 (hD.part (cx := (([(xo_2_riiiii c0 be (nI hn) wa brn_45 bwn_45 btn_45), (xJ be cL 9 fb)] : va_W) ++ ([(xo_3_iiiiiiiirrrrr (ad dp) (Vn_45 dp 0) (Vn_45 dp 1) (Vn_45 dp 2) (Vn_45 dp 3) (nI hh) (Vn_45 dp 5) (nI ww) (nI kk) (bd dp 0) (bd dp 1) (bd dp 2) (bd dp 3) (bd dp 4)), (xI (bd dp 0) cI 6 (Gn_45 dp 0)), (xI (bd dp 1) cI 6 (Gn_45 dp 1)), (xI (bd dp 2) cI 6 (Gn_45 dp 2)), (xI (bd dp 3) cI 6 (Gn_45 dp 3)), (xI (bd dp 4) cI 6 (Gn_45 dp 4)), (xo_3_iiiiiiiirrrrr (ad (dp + 1)) (Vn_45 dp 0) (Vn_45 dp 1) (Vn_45 dp 2) 1 (nI (hh + 1)) v5n_51 (nI ww) (nI kk) (bd (dp + 1) 0) (bd (dp + 1) 1) (bd (dp + 1) 2) (bd (dp + 1) 3) (bd (dp + 1) 4)), (xI (bd (dp + 1) 0) cI 6 f1n_49), (xI (bd (dp + 1) 1) cI 6 f2n_49), (xI (bd (dp + 1) 2) cI 6 g3n_51), (xI (bd (dp + 1) 3) cI 6 g4n_51), (xI (bd (dp + 1) 4) cI 6 g5n_51)] : va_W))) [0, 1, 2, 3, 4, 5, 6, 7, 8, 9, 10, 11, 12, 13] (by decide +kernel) rfl)
        generalize hV_56 : va_up Vn_45 (dp + 1) (fun k => [(Vn_45 dp 0), (Vn_45 dp 1), (Vn_45 dp 2), 1, (nI (hh + 1)), v5n_51, (nI ww), (nI kk)].getD k 0) = V_56 at hP hD
        generalize hG_56 : va_up Gn_45 (dp + 1) (fun k => [f1n_49, f2n_49, g3n_51, g4n_51, g5n_51].getD k (fun _ => 0)) = G_56 at hP hD
        have hP : va_P (dC, dI) vwCl (([(xo_2_riiiii c0 be (nI hn) wa brn_45 bwn_45 btn_45), (xJ be cL 9 fb)] : va_W) ++ lvs cI 9 ad bd V_56 G_56) H := hP
        have hD : va_D A (([(xo_2_riiiii c0 be (nI hn) wa brn_45 bwn_45 btn_45), (xJ be cL 9 fb)] : va_W) ++ lvs cI 9 ad bd V_56 G_56) := hD
        have s4_56 : V_56 (dp + 1) 4 = (nI (hh + 1)) := by rw [← hV_56, va_up_self]; rfl
        have s6_56 : V_56 (dp + 1) 6 = (nI ww) := by rw [← hV_56, va_up_self]; rfl
        have s7_56 : V_56 (dp + 1) 7 = (nI kk) := by rw [← hV_56, va_up_self]; rfl
        have kp_56 : ∀ j : Nat, j ≤ dp → V_56 j = V j ∧ G_56 j = G j := fun j hj => by rw [← hV_56, ← hG_56, va_up_ne _ _ (by omega), va_up_ne _ _ (by omega)]; exact (kq_45 j hj)
        have a4_56 : V_56 dp 4 = nI hh := by rw [(kp_56 dp (Nat.le_refl _)).1]; exact e4
        have a6_56 : V_56 dp 6 = nI ww := by rw [(kp_56 dp (Nat.le_refl _)).1]; exact e6
        have a7_56 : V_56 dp 7 = nI kk := by rw [(kp_56 dp (Nat.le_refl _)).1]; exact e7
        have nx_56 : nrV (V_56 (dp + 1)) (G_56 (dp + 1)) = mH (upd (nrV (V dp) (G dp)) 6 1) ∧ okN (999 + (dp + 1)) (nrV (V_56 (dp + 1)) (G_56 (dp + 1))) := by
          rw [← hV_56, ← hG_56, va_up_self, va_up_self]
          exact cap_nx ((kq_45 dp (Nat.le_refl _))).1 ((kq_45 dp (Nat.le_refl _))).2 hN e4 e6 e7 hhb hww hkk (by omega) (by decide) hF_49_0 hF_49_1 hF_49_2 hF_49_3 hF_49_4 hF_51_0
        have hc_57 := cutP (cx := [(xo_2_riiiii c0 be (nI hn) wa brn_45 bwn_45 btn_45), (xJ be cL 9 fb)]) hP hD hS hA [0, 1] (by decide +kernel) rfl
        refine va_callv (va_runV (As := [.int (nI (dp + 1)), .int v_54, .int v_55]) (rest := []) ⟨hx, hb, hml, hown, hts⟩ (IH l dC dI cI cZ cL cJ H.size c0 be hn wa brn_45 bwn_45 btn_45 fb ad bd V_56 G_56 (hh + 1) ww kk v_54 v_55 (hfb) (s4_56) (s6_56) (s7_56) (by omega) (hww) (hkk) (by omega) (hn8) (nx_56.2)) (cwV 3 hts gX2_tryRows_X2_tryRows rfl rfl rfl (by decide +kernel) ⟨by show 14 - (dp + 1) + 1 ≤ 14 - dp; omega, by show 8 + (7 + 11) + (3000 - 200 * (dp + 1)) ≤ 3000 - 200 * dp; omega⟩) (pvW 2 0 hK hP rfl rfl hc_57) rfl rfl hl.1 rfl (lv_room (Nat.le_of_ble_eq_true rfl)) dX2_tryRows_100 ⟨Nat.le_of_ble_eq_true rfl, Nat.le_of_ble_eq_true rfl⟩) hS (fun q _ h => hc_57.2.2 q h) hc_57.2.2 (fun u_57 t_57 H1 locs ht hvm h_57 hB hz1 hk1 hS => ?_)
        refine xl_5_4 hB (fun Vn_57 Gn_57 brn_57 bwn_57 btn_57 hP1 hD1 hF_57_0 hF_57_1 => ?_)
        clear hB
        rw [ht] at hP1
        obtain ⟨hP, hD⟩ := va_joinP (wr := []) (rx := [(xo_2_riiiii c0 be (nI hn) wa brn_57 bwn_57 btn_57), (xJ be cL 9 fb)]) (pl1 := lvs cI 9 ad bd Vn_57 Gn_57) hP hD [0, 1] [] rfl rfl (by decide +kernel) (by decide +kernel) hk1 hc_57.2.2 hP1 hD1
        generalize H1 = H at hP hS ⊢
        have hP : va_P (dC, dI) vwCl (([(xo_2_riiiii c0 be (nI hn) wa brn_57 bwn_57 btn_57), (xJ be cL 9 fb)] : va_W) ++ lvs cI 9 ad bd Vn_57 Gn_57) H := hP
        have hD := dto hP hD
        have kq_57 : ∀ j : Nat, j ≤ dp → Vn_57 j = V j ∧ Gn_57 j = G j := fun j hj => ⟨(hF_57_0 j (by omega)).1.trans ((kp_56 j hj)).1, (hF_57_0 j (by omega)).2.trans ((kp_56 j hj)).2⟩
        have b4_57 : Vn_57 dp 4 = nI hh := by rw [(kq_57 dp (Nat.le_refl _)).1]; exact e4
        have b6_57 : Vn_57 dp 6 = nI ww := by rw [(kq_57 dp (Nat.le_refl _)).1]; exact e6
        have b7_57 : Vn_57 dp 7 = nI kk := by rw [(kq_57 dp (Nat.le_refl _)).1]; exact e7
        have kd_57 : Vn_57 dp = V dp := (kq_57 dp (Nat.le_refl _)).1
        refine lv_iinc (v := 2) (lv' := [(4, .int 2), (6, .int 1), (5, .ref (ad (dp + 1))), (0, .ref c0), (1, .int (nI dp)), (2, .int x), (3, .int y)]) hx hb dX2_tryRows_103 hl (k := 2) rfl (by decide) (by decide) rfl (fun ls hl => ?_)
        refine lv_goto (tgt := 30) hx hb dX2_tryRows_106 (by decide) ?_
        refine lv_iload hx hb dX2_tryRows_30 (lv_at hl 0 rfl) ?_
        refine lv_iconst (v := 1) hx hb dX2_tryRows_32 (by decide) ?_
        refine lv_icmp_gt (tgt := 109) hx hb dX2_tryRows_33 (by decide) (fun _ => ?_) (fun c_ => absurd (by decide) c_)
        have hX9 := cut2P (cx := [(xo_2_riiiii c0 be (nI hn) wa brn_57 bwn_57 btn_57), (xJ be cL 9 fb)]) hP hD [0, 1] (by decide +kernel) rfl
        exact W.vret hx hb hr (fun t ht hW => ⟨⟨(), rfl, trivial, ⟨Vn_57, Gn_57, brn_57, bwn_57, btn_57, va_Ht ht hX9.1, hX9.2, (fun j hj => (kq_57 j (Nat.le_of_lt hj))), (lf_X2_tryRows_s_4 hfb e4 e6 e7 hhb hww hkk hdn hn8 hN c_1 hF_9_0 hF_9_1 hF_9_2 hF_9_3 hF_9_4 c_10 hF_39_0 e_41 e_42 e_43 nx_44 hF_45_0 hF_45_1 kd_45 hF_49_0 hF_49_1 hF_49_2 hF_49_3 hF_49_4 c_50 hF_51_0 e_53 e_54 e_55 nx_56 hF_57_0 hF_57_1 kd_57)⟩⟩, hS.F ht⟩) hS.2.2 dX2_tryRows_109
      · skip
        refine lv_iconst (v := 0) hx hb dX2_tryRows_67 (by decide) ?_
        refine lv_goto (tgt := 72) hx hb dX2_tryRows_68 (by decide) ?_
        refine lv_istore (lv' := [(6, .int 0), (5, .ref (ad (dp + 1))), (4, .int 1), (0, .ref c0), (1, .int (nI dp)), (2, .int x), (3, .int y)]) hx hb dX2_tryRows_72 hl (by decide) rfl (fun ls hl => ?_)
        refine lv_aload hx hb dX2_tryRows_74 (lv_at hl 1 rfl) ?_
        refine lv_iload hx hb dX2_tryRows_76 (lv_at hl 2 rfl) ?_
        refine va_put (D := (dC, dI)) (ci := 3) (v := .int 1) (ty := .int) (C := RX3) (T := TX3) (N := 13) hx hb hts i_X2_tryRows_X3 tyX3 tyX3_ok nmX3 hown hK hP hD hS 2 rfl rfl 3 (by decide) (hts _ mx_X2_tryRows_3) (fun _ h9 => h9) rfl (by decide +kernel) rfl rfl (Nat.le_of_ble_eq_true rfl) dX2_tryRows_78 (fun H locs hP hD hS => ?_)
        have hP : va_P (dC, dI) vwCl (([(xo_2_riiiii c0 be (nI hn) wa brn_45 bwn_45 btn_45), (xJ be cL 9 fb), (xo_3_iiiiiiiirrrrr (ad (dp + 1)) (Vn_45 dp 0) (Vn_45 dp 1) (Vn_45 dp 2) 1 (nI hh) (Vn_45 dp 5) (nI ww) (nI kk) (bd (dp + 1) 0) (bd (dp + 1) 1) (bd (dp + 1) 2) (bd (dp + 1) 3) (bd (dp + 1) 4)), (xI (bd (dp + 1) 0) cI 6 f1n_49), (xI (bd (dp + 1) 1) cI 6 f2n_49), (xI (bd (dp + 1) 2) cI 6 f3n_49), (xI (bd (dp + 1) 3) cI 6 f4n_49), (xI (bd (dp + 1) 4) cI 6 f5n_49), (xo_3_iiiiiiiirrrrr (ad dp) (Vn_45 dp 0) (Vn_45 dp 1) (Vn_45 dp 2) (Vn_45 dp 3) (nI hh) (Vn_45 dp 5) (nI ww) (nI kk) (bd dp 0) (bd dp 1) (bd dp 2) (bd dp 3) (bd dp 4)), (xI (bd dp 0) cI 6 (Gn_45 dp 0)), (xI (bd dp 1) cI 6 (Gn_45 dp 1)), (xI (bd dp 2) cI 6 (Gn_45 dp 2)), (xI (bd dp 3) cI 6 (Gn_45 dp 3)), (xI (bd dp 4) cI 6 (Gn_45 dp 4))] : va_W) ++ pl_48) H := hP
        have hD := dto hP hD
        refine lv_aload hx hb dX2_tryRows_81 (lv_at hl 1 rfl) ?_
        have hc_59 := cutX (wc := [(xo_3_iiiiiiiirrrrr (ad (dp + 1)) (Vn_45 dp 0) (Vn_45 dp 1) (Vn_45 dp 2) 1 (nI hh) (Vn_45 dp 5) (nI ww) (nI kk) (bd (dp + 1) 0) (bd (dp + 1) 1) (bd (dp + 1) 2) (bd (dp + 1) 3) (bd (dp + 1) 4)), (xI (bd (dp + 1) 0) cI 6 f1n_49), (xI (bd (dp + 1) 1) cI 6 f2n_49), (xI (bd (dp + 1) 2) cI 6 f3n_49), (xI (bd (dp + 1) 3) cI 6 f4n_49), (xI (bd (dp + 1) 4) cI 6 f5n_49)]) hP hD hS hA [2, 3, 4, 5, 6, 7] (by decide +kernel) rfl
        refine va_callv (va_runV (As := []) (rest := []) ⟨hx, hb, hml, hown, hts⟩ (r_X3_pass l dC dI cI cZ cL cJ H.size (ad (dp + 1)) (Vn_45 dp 0) (Vn_45 dp 1) (Vn_45 dp 2) 1 (Vn_45 dp 5) hh ww kk (bd (dp + 1) 0) (bd (dp + 1) 1) (bd (dp + 1) 2) (bd (dp + 1) 3) (bd (dp + 1) 4) f1n_49 f2n_49 f3n_49 f4n_49 f5n_49 (by omega) (hww) (hkk)) (cwV 0 hts gX2_tryRows_X3_pass rfl rfl rfl (by decide +kernel) ⟨by show 3 + 1 ≤ 14 - dp; omega, by show 8 + (3 + 11) + 66 ≤ 3000 - 200 * dp; omega⟩) (pvW 3 2 hK hP rfl rfl hc_59) rfl rfl hl.1 rfl (lv_room (Nat.le_of_ble_eq_true rfl)) dX2_tryRows_83 ⟨Nat.le_of_ble_eq_true rfl, Nat.le_of_ble_eq_true rfl⟩) hS (fun q _ h => hc_59.2.2 q h) hc_59.2.2 (fun u_59 t_59 H1 locs ht hvm h_59 hB hz1 hk1 hS => ?_)
        refine xl_4_3 hB (fun v5n_59 g3n_59 g4n_59 g5n_59 hP1 hD1 hF_59_0 => ?_)
        clear hB
        rw [ht] at hP1
        obtain ⟨hP, hD⟩ := va_joinQ (wr := [(xo_2_riiiii c0 be (nI hn) wa brn_45 bwn_45 btn_45), (xJ be cL 9 fb), (xo_3_iiiiiiiirrrrr (ad dp) (Vn_45 dp 0) (Vn_45 dp 1) (Vn_45 dp 2) (Vn_45 dp 3) (nI hh) (Vn_45 dp 5) (nI ww) (nI kk) (bd dp 0) (bd dp 1) (bd dp 2) (bd dp 3) (bd dp 4)), (xI (bd dp 0) cI 6 (Gn_45 dp 0)), (xI (bd dp 1) cI 6 (Gn_45 dp 1)), (xI (bd dp 2) cI 6 (Gn_45 dp 2)), (xI (bd dp 3) cI 6 (Gn_45 dp 3)), (xI (bd dp 4) cI 6 (Gn_45 dp 4))]) (w1 := [(xo_3_iiiiiiiirrrrr (ad (dp + 1)) (Vn_45 dp 0) (Vn_45 dp 1) (Vn_45 dp 2) 1 (nI (hh + 1)) v5n_59 (nI ww) (nI kk) (bd (dp + 1) 0) (bd (dp + 1) 1) (bd (dp + 1) 2) (bd (dp + 1) 3) (bd (dp + 1) 4)), (xI (bd (dp + 1) 0) cI 6 f1n_49), (xI (bd (dp + 1) 1) cI 6 f2n_49), (xI (bd (dp + 1) 2) cI 6 g3n_59), (xI (bd (dp + 1) 3) cI 6 g4n_59), (xI (bd (dp + 1) 4) cI 6 g5n_59)]) hP hD [2, 3, 4, 5, 6, 7] [0, 1, 8, 9, 10, 11, 12, 13] rfl rfl (by decide +kernel) (by decide +kernel) hk1 hc_59.2.2 hP1 hD1
        generalize H1 = H at hP hS ⊢
        have hP : va_P (dC, dI) vwCl (([(xo_2_riiiii c0 be (nI hn) wa brn_45 bwn_45 btn_45), (xJ be cL 9 fb), (xo_3_iiiiiiiirrrrr (ad dp) (Vn_45 dp 0) (Vn_45 dp 1) (Vn_45 dp 2) (Vn_45 dp 3) (nI hh) (Vn_45 dp 5) (nI ww) (nI kk) (bd dp 0) (bd dp 1) (bd dp 2) (bd dp 3) (bd dp 4)), (xI (bd dp 0) cI 6 (Gn_45 dp 0)), (xI (bd dp 1) cI 6 (Gn_45 dp 1)), (xI (bd dp 2) cI 6 (Gn_45 dp 2)), (xI (bd dp 3) cI 6 (Gn_45 dp 3)), (xI (bd dp 4) cI 6 (Gn_45 dp 4)), (xo_3_iiiiiiiirrrrr (ad (dp + 1)) (Vn_45 dp 0) (Vn_45 dp 1) (Vn_45 dp 2) 1 (nI (hh + 1)) v5n_59 (nI ww) (nI kk) (bd (dp + 1) 0) (bd (dp + 1) 1) (bd (dp + 1) 2) (bd (dp + 1) 3) (bd (dp + 1) 4)), (xI (bd (dp + 1) 0) cI 6 f1n_49), (xI (bd (dp + 1) 1) cI 6 f2n_49), (xI (bd (dp + 1) 2) cI 6 g3n_59), (xI (bd (dp + 1) 3) cI 6 g4n_59), (xI (bd (dp + 1) 4) cI 6 g5n_59)] : va_W) ++ pl_48) H := hP
        have hD := dto hP hD
        refine lv_aload_n hx hb dX2_tryRows_86 rfl (lv_at hl 3 rfl) ?_
        refine lv_iload_n hx hb dX2_tryRows_87 rfl (lv_at hl 4 rfl) ?_
        refine lv_iconst (v := 1) hx hb dX2_tryRows_88 (by decide) ?_
        refine lv_iadd hx hb dX2_tryRows_89 ?_
        refine lv_topi (fun v_60 e_60 => ?_)
        obtain rfl : v_60 = (nI (dp + 1)) := (e_60).trans (nI_add dp 1)
        refine lv_iload_n hx hb dX2_tryRows_90 rfl (lv_at hl 5 rfl) ?_
        refine lv_iconst (v := 1) hx hb dX2_tryRows_91 (by decide) ?_
        refine lv_ishl hx hb dX2_tryRows_92 ?_
        refine lv_topi (fun v_61 e_61 => ?_)
        refine lv_iload hx hb dX2_tryRows_93 (lv_at hl 2 rfl) ?_
        refine lv_ior hx hb dX2_tryRows_95 ?_
        refine lv_topi (fun v_62 e_62 => ?_)
        refine lv_iload_n hx hb dX2_tryRows_96 rfl (lv_at hl 6 rfl) ?_
        refine lv_iload hx hb dX2_tryRows_97 (lv_at hl 0 rfl) ?_
        refine lv_iadd hx hb dX2_tryRows_99 ?_
        refine lv_topi (fun v_63 e_63 => ?_)
        have hP := hbP_48 [(xo_2_riiiii c0 be (nI hn) wa brn_45 bwn_45 btn_45), (xJ be cL 9 fb)] ((nI hh)) ((nI ww)) ((nI kk)) ((Vn_45 dp 0)) ((Vn_45 dp 1)) ((Vn_45 dp 2)) (1) ((nI (hh + 1))) (v5n_59) ((nI ww)) ((nI kk)) (f1n_49) (f2n_49) (g3n_59) (g4n_59) (g5n_59) _ b4_45 b6_45 b7_45 (hP.part (cx := (([(xo_2_riiiii c0 be (nI hn) wa brn_45 bwn_45 btn_45), (xJ be cL 9 fb)] : va_W) ++ ([(xo_3_iiiiiiiirrrrr (ad dp) (Vn_45 dp 0) (Vn_45 dp 1) (Vn_45 dp 2) (Vn_45 dp 3) (nI hh) (Vn_45 dp 5) (nI ww) (nI kk) (bd dp 0) (bd dp 1) (bd dp 2) (bd dp 3) (bd dp 4)), (xI (bd dp 0) cI 6 (Gn_45 dp 0)), (xI (bd dp 1) cI 6 (Gn_45 dp 1)), (xI (bd dp 2) cI 6 (Gn_45 dp 2)), (xI (bd dp 3) cI 6 (Gn_45 dp 3)), (xI (bd dp 4) cI 6 (Gn_45 dp 4)), (xo_3_iiiiiiiirrrrr (ad (dp + 1)) (Vn_45 dp 0) (Vn_45 dp 1) (Vn_45 dp 2) 1 (nI (hh + 1)) v5n_59 (nI ww) (nI kk) (bd (dp + 1) 0) (bd (dp + 1) 1) (bd (dp + 1) 2) (bd (dp + 1) 3) (bd (dp + 1) 4)), (xI (bd (dp + 1) 0) cI 6 f1n_49), (xI (bd (dp + 1) 1) cI 6 f2n_49), (xI (bd (dp + 1) 2) cI 6 g3n_59), (xI (bd (dp + 1) 3) cI 6 g4n_59), (xI (bd (dp + 1) 4) cI 6 g5n_59)] : va_W))) [0, 1, 2, 3, 4, 5, 6, 7, 8, 9, 10, 11, 12, 13] rfl)
        have hD := hbD_48 [(xo_2_riiiii c0 be (nI hn) wa brn_45 bwn_45 btn_45), (xJ be cL 9 fb)] ((nI hh)) ((nI ww)) ((nI kk)) ((Vn_45 dp 0)) ((Vn_45 dp 1)) ((Vn_45 dp 2)) (1) ((nI (hh + 1))) (v5n_59) ((nI ww)) ((nI kk)) (f1n_49) (f2n_49) (g3n_59) (g4n_59) (g5n_59) _ b4_45 b6_45 b7_45 (hD.part (cx := (([(xo_2_riiiii c0 be (nI hn) wa brn_45 bwn_45 btn_45), (xJ be cL 9 fb)] : va_W) ++ ([(xo_3_iiiiiiiirrrrr (ad dp) (Vn_45 dp 0) (Vn_45 dp 1) (Vn_45 dp 2) (Vn_45 dp 3) (nI hh) (Vn_45 dp 5) (nI ww) (nI kk) (bd dp 0) (bd dp 1) (bd dp 2) (bd dp 3) (bd dp 4)), (xI (bd dp 0) cI 6 (Gn_45 dp 0)), (xI (bd dp 1) cI 6 (Gn_45 dp 1)), (xI (bd dp 2) cI 6 (Gn_45 dp 2)), (xI (bd dp 3) cI 6 (Gn_45 dp 3)), (xI (bd dp 4) cI 6 (Gn_45 dp 4)), (xo_3_iiiiiiiirrrrr (ad (dp + 1)) (Vn_45 dp 0) (Vn_45 dp 1) (Vn_45 dp 2) 1 (nI (hh + 1)) v5n_59 (nI ww) (nI kk) (bd (dp + 1) 0) (bd (dp + 1) 1) (bd (dp + 1) 2) (bd (dp + 1) 3) (bd (dp + 1) 4)), (xI (bd (dp + 1) 0) cI 6 f1n_49), (xI (bd (dp + 1) 1) cI 6 f2n_49), (xI (bd (dp + 1) 2) cI 6 g3n_59), (xI (bd (dp + 1) 3) cI 6 g4n_59), (xI (bd (dp + 1) 4) cI 6 g5n_59)] : va_W))) [0, 1, 2, 3, 4, 5, 6, 7, 8, 9, 10, 11, 12, 13] (by decide +kernel) rfl)
        generalize hV_64 : va_up Vn_45 (dp + 1) (fun k => [(Vn_45 dp 0), (Vn_45 dp 1), (Vn_45 dp 2), 1, (nI (hh + 1)), v5n_59, (nI ww), (nI kk)].getD k 0) = V_64 at hP hD
        generalize hG_64 : va_up Gn_45 (dp + 1) (fun k => [f1n_49, f2n_49, g3n_59, g4n_59, g5n_59].getD k (fun _ => 0)) = G_64 at hP hD
        have hP : va_P (dC, dI) vwCl (([(xo_2_riiiii c0 be (nI hn) wa brn_45 bwn_45 btn_45), (xJ be cL 9 fb)] : va_W) ++ lvs cI 9 ad bd V_64 G_64) H := hP
        have hD : va_D A (([(xo_2_riiiii c0 be (nI hn) wa brn_45 bwn_45 btn_45), (xJ be cL 9 fb)] : va_W) ++ lvs cI 9 ad bd V_64 G_64) := hD
        have s4_64 : V_64 (dp + 1) 4 = (nI (hh + 1)) := by rw [← hV_64, va_up_self]; rfl
        have s6_64 : V_64 (dp + 1) 6 = (nI ww) := by rw [← hV_64, va_up_self]; rfl
        have s7_64 : V_64 (dp + 1) 7 = (nI kk) := by rw [← hV_64, va_up_self]; rfl
        have kp_64 : ∀ j : Nat, j ≤ dp → V_64 j = V j ∧ G_64 j = G j := fun j hj => by rw [← hV_64, ← hG_64, va_up_ne _ _ (by omega), va_up_ne _ _ (by omega)]; exact (kq_45 j hj)
        have a4_64 : V_64 dp 4 = nI hh := by rw [(kp_64 dp (Nat.le_refl _)).1]; exact e4
        have a6_64 : V_64 dp 6 = nI ww := by rw [(kp_64 dp (Nat.le_refl _)).1]; exact e6
        have a7_64 : V_64 dp 7 = nI kk := by rw [(kp_64 dp (Nat.le_refl _)).1]; exact e7
        have nx_64 : nrV (V_64 (dp + 1)) (G_64 (dp + 1)) = mH (upd (nrV (V dp) (G dp)) 6 1) ∧ okN (999 + (dp + 1)) (nrV (V_64 (dp + 1)) (G_64 (dp + 1))) := by
          rw [← hV_64, ← hG_64, va_up_self, va_up_self]
          exact cap_nx ((kq_45 dp (Nat.le_refl _))).1 ((kq_45 dp (Nat.le_refl _))).2 hN e4 e6 e7 hhb hww hkk (by omega) (by decide) hF_49_0 hF_49_1 hF_49_2 hF_49_3 hF_49_4 hF_59_0
        have hc_65 := cutP (cx := [(xo_2_riiiii c0 be (nI hn) wa brn_45 bwn_45 btn_45), (xJ be cL 9 fb)]) hP hD hS hA [0, 1] (by decide +kernel) rfl
        refine va_callv (va_runV (As := [.int (nI (dp + 1)), .int v_62, .int v_63]) (rest := []) ⟨hx, hb, hml, hown, hts⟩ (IH l dC dI cI cZ cL cJ H.size c0 be hn wa brn_45 bwn_45 btn_45 fb ad bd V_64 G_64 (hh + 1) ww kk v_62 v_63 (hfb) (s4_64) (s6_64) (s7_64) (by omega) (hww) (hkk) (by omega) (hn8) (nx_64.2)) (cwV 3 hts gX2_tryRows_X2_tryRows rfl rfl rfl (by decide +kernel) ⟨by show 14 - (dp + 1) + 1 ≤ 14 - dp; omega, by show 8 + (7 + 11) + (3000 - 200 * (dp + 1)) ≤ 3000 - 200 * dp; omega⟩) (pvW 2 0 hK hP rfl rfl hc_65) rfl rfl hl.1 rfl (lv_room (Nat.le_of_ble_eq_true rfl)) dX2_tryRows_100 ⟨Nat.le_of_ble_eq_true rfl, Nat.le_of_ble_eq_true rfl⟩) hS (fun q _ h => hc_65.2.2 q h) hc_65.2.2 (fun u_65 t_65 H1 locs ht hvm h_65 hB hz1 hk1 hS => ?_)
        refine xl_5_4 hB (fun Vn_65 Gn_65 brn_65 bwn_65 btn_65 hP1 hD1 hF_65_0 hF_65_1 => ?_)
        clear hB
        rw [ht] at hP1
        obtain ⟨hP, hD⟩ := va_joinP (wr := []) (rx := [(xo_2_riiiii c0 be (nI hn) wa brn_65 bwn_65 btn_65), (xJ be cL 9 fb)]) (pl1 := lvs cI 9 ad bd Vn_65 Gn_65) hP hD [0, 1] [] rfl rfl (by decide +kernel) (by decide +kernel) hk1 hc_65.2.2 hP1 hD1
        generalize H1 = H at hP hS ⊢
        have hP : va_P (dC, dI) vwCl (([(xo_2_riiiii c0 be (nI hn) wa brn_65 bwn_65 btn_65), (xJ be cL 9 fb)] : va_W) ++ lvs cI 9 ad bd Vn_65 Gn_65) H := hP
        have hD := dto hP hD
        have kq_65 : ∀ j : Nat, j ≤ dp → Vn_65 j = V j ∧ Gn_65 j = G j := fun j hj => ⟨(hF_65_0 j (by omega)).1.trans ((kp_64 j hj)).1, (hF_65_0 j (by omega)).2.trans ((kp_64 j hj)).2⟩
        have b4_65 : Vn_65 dp 4 = nI hh := by rw [(kq_65 dp (Nat.le_refl _)).1]; exact e4
        have b6_65 : Vn_65 dp 6 = nI ww := by rw [(kq_65 dp (Nat.le_refl _)).1]; exact e6
        have b7_65 : Vn_65 dp 7 = nI kk := by rw [(kq_65 dp (Nat.le_refl _)).1]; exact e7
        have kd_65 : Vn_65 dp = V dp := (kq_65 dp (Nat.le_refl _)).1
        refine lv_iinc (v := 2) (lv' := [(4, .int 2), (6, .int 0), (5, .ref (ad (dp + 1))), (0, .ref c0), (1, .int (nI dp)), (2, .int x), (3, .int y)]) hx hb dX2_tryRows_103 hl (k := 2) rfl (by decide) (by decide) rfl (fun ls hl => ?_)
        refine lv_goto (tgt := 30) hx hb dX2_tryRows_106 (by decide) ?_
        refine lv_iload hx hb dX2_tryRows_30 (lv_at hl 0 rfl) ?_
        refine lv_iconst (v := 1) hx hb dX2_tryRows_32 (by decide) ?_
        refine lv_icmp_gt (tgt := 109) hx hb dX2_tryRows_33 (by decide) (fun _ => ?_) (fun c_ => absurd (by decide) c_)
        have hX9 := cut2P (cx := [(xo_2_riiiii c0 be (nI hn) wa brn_65 bwn_65 btn_65), (xJ be cL 9 fb)]) hP hD [0, 1] (by decide +kernel) rfl
        exact W.vret hx hb hr (fun t ht hW => ⟨⟨(), rfl, trivial, ⟨Vn_65, Gn_65, brn_65, bwn_65, btn_65, va_Ht ht hX9.1, hX9.2, (fun j hj => (kq_65 j (Nat.le_of_lt hj))), (lf_X2_tryRows_s_5 hfb e4 e6 e7 hhb hww hkk hdn hn8 hN c_1 hF_9_0 hF_9_1 hF_9_2 hF_9_3 hF_9_4 c_10 hF_39_0 e_41 e_42 e_43 nx_44 hF_45_0 hF_45_1 kd_45 hF_49_0 hF_49_1 hF_49_2 hF_49_3 hF_49_4 c_50 hF_59_0 e_61 e_62 e_63 nx_64 hF_65_0 hF_65_1 kd_65)⟩⟩, hS.F ht⟩) hS.2.2 dX2_tryRows_109
theorem r_X2_tryRows_i : ∀ (n_ : Nat) (dp : Nat), 8 - dp ≤ n_ → ∀ (l : Launch) (dC : Nat → ClassId) (dI : Nat → Nat → Nat) (cI cZ cL cJ : ClassId) (sz : Nat) (c0 : Nat) (be : Nat) (hn : Nat) (wa : Int32) (br : Int32) (bw : Int32) (bt : Int32) (fb : Nat → Option Nat) (ad : Nat → Nat) (bd : Nat → Nat → Nat) (V : Nat → Nat → Int32) (G : Nat → Nat → Nat → Int32) (hh : Nat) (ww : Nat) (kk : Nat) (x : Int32) (y : Int32) (hfb : ∀ i : Nat, i < 9 → fb i = some (ad i)) (e4 : V dp 4 = nI hh) (e6 : V dp 6 = nI ww) (e7 : V dp 7 = nI kk) (hhb : hh ≤ 999 + dp) (hww : ww ≤ 6) (hkk : kk ≤ 6) (hdn : dp ≤ hn) (hn8 : hn ≤ 8) (hN : okN (999 + dp) (nrV (V dp) (G dp))), Met l yX2_tryRows wsX2_tryRows ({ frames := 14 - dp, cells := 0, slots := 0, locals := 3000 - 200 * dp }) (va_Pc [.ref c0, .int (nI dp), .int x, .int y] (fun U => U.heap.size = sz ∧ va_P (dC, dI) vwCl (([(xo_2_riiiii c0 be (nI hn) wa br bw bt), (xJ be cL 9 fb)] : va_W) ++ lvs cI 9 ad bd V G) U.heap ∧ va_K (dC, dI) vwCl [(cI, .int), (cZ, .boolean), (cL, .object RX3), (cJ, .array .int)] U ∧ va_D (fun _ => True) (([(xo_2_riiiii c0 be (nI hn) wa br bw bt), (xJ be cL 9 fb)] : va_W) ++ lvs cI 9 ad bd V G))) (va_Qv (fun (_ : Unit) => True) (fun (_ : Unit) t => ∃ (Vn : Nat → Nat → Int32) (Gn : Nat → Nat → Nat → Int32) (brn : Int32) (bwn : Int32) (btn : Int32), va_P (dC, dI) vwCl (([(xo_2_riiiii c0 be (nI hn) wa brn bwn btn), (xJ be cL 9 fb)] : va_W) ++ lvs cI 9 ad bd Vn Gn) t.heap ∧ va_D (va_A (([(xo_2_riiiii c0 be (nI hn) wa br bw bt), (xJ be cL 9 fb)] : va_W) ++ lvs cI 9 ad bd V G) sz) (([(xo_2_riiiii c0 be (nI hn) wa brn bwn btn), (xJ be cL 9 fb)] : va_W) ++ lvs cI 9 ad bd Vn Gn) ∧ (∀ j : Nat, j < dp → Vn j = V j ∧ Gn j = G j) ∧ trB wa (hn - dp) (nrV (V dp) (G dp)) x y (bw, bt, br) = (bwn, btn, brn)) (va_A (([(xo_2_riiiii c0 be (nI hn) wa br bw bt), (xJ be cL 9 fb)] : va_W) ++ lvs cI 9 ad bd V G) sz)) 0 0 (va_A (([(xo_2_riiiii c0 be (nI hn) wa br bw bt), (xJ be cL 9 fb)] : va_W) ++ lvs cI 9 ad bd V G) sz)
  | 0, dp, hdp => fun l dC dI cI cZ cL cJ sz c0 be hn wa br bw bt fb ad bd V G hh ww kk x y hfb e4 e6 e7 hhb hww hkk hdn hn8 hN => r_X2_tryRows_s l dC dI cI cZ cL cJ sz c0 be hn wa br bw bt fb ad bd V G hh ww kk dp x y hfb e4 e6 e7 hhb hww hkk hdn hn8 hN (fun l dC dI cI cZ cL cJ sz c0 be hn wa br bw bt fb ad bd V G hh ww kk x y hfb e4 e6 e7 hhb hww hkk hdn hn8 hN => absurd hdn (by omega))
  | n_ + 1, dp, hdp => fun l dC dI cI cZ cL cJ sz c0 be hn wa br bw bt fb ad bd V G hh ww kk x y hfb e4 e6 e7 hhb hww hkk hdn hn8 hN => r_X2_tryRows_s l dC dI cI cZ cL cJ sz c0 be hn wa br bw bt fb ad bd V G hh ww kk dp x y hfb e4 e6 e7 hhb hww hkk hdn hn8 hN (fun l dC dI cI cZ cL cJ sz c0 be hn wa br bw bt fb ad bd V G hh ww kk x y hfb e4 e6 e7 hhb hww hkk hdn hn8 hN => r_X2_tryRows_i n_ (dp + 1) (by omega) l dC dI cI cZ cL cJ sz c0 be hn wa br bw bt fb ad bd V G hh ww kk x y hfb e4 e6 e7 hhb hww hkk hdn hn8 hN)
theorem r_X2_tryRows (l : Launch) (dC : Nat → ClassId) (dI : Nat → Nat → Nat) (cI cZ cL cJ : ClassId) (sz : Nat) (c0 : Nat) (be : Nat) (hn : Nat) (wa : Int32) (br : Int32) (bw : Int32) (bt : Int32) (fb : Nat → Option Nat) (ad : Nat → Nat) (bd : Nat → Nat → Nat) (V : Nat → Nat → Int32) (G : Nat → Nat → Nat → Int32) (hh : Nat) (ww : Nat) (kk : Nat) (dp : Nat) (x : Int32) (y : Int32) (hfb : ∀ i : Nat, i < 9 → fb i = some (ad i)) (e4 : V dp 4 = nI hh) (e6 : V dp 6 = nI ww) (e7 : V dp 7 = nI kk) (hhb : hh ≤ 999 + dp) (hww : ww ≤ 6) (hkk : kk ≤ 6) (hdn : dp ≤ hn) (hn8 : hn ≤ 8) (hN : okN (999 + dp) (nrV (V dp) (G dp))) : Met l yX2_tryRows wsX2_tryRows ({ frames := 14 - dp, cells := 0, slots := 0, locals := 3000 - 200 * dp }) (va_Pc [.ref c0, .int (nI dp), .int x, .int y] (fun U => U.heap.size = sz ∧ va_P (dC, dI) vwCl (([(xo_2_riiiii c0 be (nI hn) wa br bw bt), (xJ be cL 9 fb)] : va_W) ++ lvs cI 9 ad bd V G) U.heap ∧ va_K (dC, dI) vwCl [(cI, .int), (cZ, .boolean), (cL, .object RX3), (cJ, .array .int)] U ∧ va_D (fun _ => True) (([(xo_2_riiiii c0 be (nI hn) wa br bw bt), (xJ be cL 9 fb)] : va_W) ++ lvs cI 9 ad bd V G))) (va_Qv (fun (_ : Unit) => True) (fun (_ : Unit) t => ∃ (Vn : Nat → Nat → Int32) (Gn : Nat → Nat → Nat → Int32) (brn : Int32) (bwn : Int32) (btn : Int32), va_P (dC, dI) vwCl (([(xo_2_riiiii c0 be (nI hn) wa brn bwn btn), (xJ be cL 9 fb)] : va_W) ++ lvs cI 9 ad bd Vn Gn) t.heap ∧ va_D (va_A (([(xo_2_riiiii c0 be (nI hn) wa br bw bt), (xJ be cL 9 fb)] : va_W) ++ lvs cI 9 ad bd V G) sz) (([(xo_2_riiiii c0 be (nI hn) wa brn bwn btn), (xJ be cL 9 fb)] : va_W) ++ lvs cI 9 ad bd Vn Gn) ∧ (∀ j : Nat, j < dp → Vn j = V j ∧ Gn j = G j) ∧ trB wa (hn - dp) (nrV (V dp) (G dp)) x y (bw, bt, br) = (bwn, btn, brn)) (va_A (([(xo_2_riiiii c0 be (nI hn) wa br bw bt), (xJ be cL 9 fb)] : va_W) ++ lvs cI 9 ad bd V G) sz)) 0 0 (va_A (([(xo_2_riiiii c0 be (nI hn) wa br bw bt), (xJ be cL 9 fb)] : va_W) ++ lvs cI 9 ad bd V G) sz) :=
  r_X2_tryRows_i 8 dp (by omega) l dC dI cI cZ cL cJ sz c0 be hn wa br bw bt fb ad bd V G hh ww kk x y hfb e4 e6 e7 hhb hww hkk hdn hn8 hN
theorem lf_X2_search_1 {fb : Nat → Option Nat} {ad : Nat → Nat} {v0 : Int32} {v1 : Int32} {v2 : Int32} {v3 : Int32} {v5 : Int32} {hh : Nat} {ww : Nat} {kk : Nat} {g1 : Nat → Int32} {g2 : Nat → Int32} {g3 : Nat → Int32} {g4 : Nat → Int32} {g5 : Nat → Int32} {x : Nat} {y : Int32} {f1n_2 : Nat → Int32} {f2n_2 : Nat → Int32} {f3n_2 : Nat → Int32} {f4n_2 : Nat → Int32} {f5n_2 : Nat → Int32} {V_3 : Nat → Nat → Int32} {G_3 : Nat → Nat → Nat → Int32} {Vn_4 : Nat → Nat → Int32} {Gn_4 : Nat → Nat → Nat → Int32} {brn_4 : Int32} {bwn_4 : Int32} {btn_4 : Int32} (hfb : ∀ i : Nat, i < 9 → fb i = some (ad i)) (hhb : hh ≤ 999) (hww : ww ≤ 6) (hkk : kk ≤ 6) (hx8 : x ≤ 8) (hN : okN 999 (nrm v0 v1 v2 v3 hh v5 ww kk g1 g2 g3 g4 g5)) (hF_2_0 : (∀ jq : Nat, jq < 6 → f1n_2 jq = g1 jq)) (hF_2_1 : (∀ jq : Nat, jq < 6 → f2n_2 jq = g2 jq)) (hF_2_2 : (∀ jq : Nat, jq < 6 → f3n_2 jq = g3 jq)) (hF_2_3 : (∀ jq : Nat, jq < 6 → f4n_2 jq = g4 jq)) (hF_2_4 : (∀ jq : Nat, jq < 6 → f5n_2 jq = g5 jq)) (sr_3 : nrV (V_3 0) (G_3 0) = (nrm v0 v1 v2 v3 hh v5 ww kk g1 g2 g3 g4 g5)) (hF_4_0 : (∀ j : Nat, j < 0 → Vn_4 j = V_3 j ∧ Gn_4 j = G_3 j)) (hF_4_1 : trB y (x - 0) (nrV (V_3 0) (G_3 0)) 0 0 ((-1), 0, 0) = (bwn_4, btn_4, brn_4)) : trB y x (nrm v0 v1 v2 v3 hh v5 ww kk g1 g2 g3 g4 g5) 0 0 (-1, 0, 0) = (bwn_4, btn_4, brn_4) := by
  simp only [Nat.sub_zero] at *; grind
set_option maxHeartbeats 4000000 in
set_option maxRecDepth 100000 in
theorem r_X2_search (l : Launch) (dC : Nat → ClassId) (dI : Nat → Nat → Nat) (cI cZ cL cJ : ClassId) (sz : Nat) (c0 : Nat) (be : Nat) (hrs : Int32) (wa : Int32) (br : Int32) (bw : Int32) (bt : Int32) (fb : Nat → Option Nat) (ad : Nat → Nat) (bd : Nat → Nat → Nat) (V : Nat → Nat → Int32) (G : Nat → Nat → Nat → Int32) (h : Nat) (v0 : Int32) (v1 : Int32) (v2 : Int32) (v3 : Int32) (v5 : Int32) (hh : Nat) (ww : Nat) (kk : Nat) (b1 : Nat) (b2 : Nat) (b3 : Nat) (b4 : Nat) (b5 : Nat) (g1 : Nat → Int32) (g2 : Nat → Int32) (g3 : Nat → Int32) (g4 : Nat → Int32) (g5 : Nat → Int32) (x : Nat) (y : Int32) (hfb : ∀ i : Nat, i < 9 → fb i = some (ad i)) (hhb : hh ≤ 999) (hww : ww ≤ 6) (hkk : kk ≤ 6) (hx8 : x ≤ 8) (hN : okN 999 (nrm v0 v1 v2 v3 hh v5 ww kk g1 g2 g3 g4 g5)) : Met l yX2_search wsX2_search ({ frames := 15, cells := 0, slots := 0, locals := 3026 }) (va_Pc [.ref c0, .ref h, .int (nI x), .int y] (fun U => U.heap.size = sz ∧ va_P (dC, dI) vwCl (([(xo_2_riiiii c0 be hrs wa br bw bt), (xJ be cL 9 fb), (xo_3_iiiiiiiirrrrr h v0 v1 v2 v3 (nI hh) v5 (nI ww) (nI kk) b1 b2 b3 b4 b5), (xI b1 cI 6 g1), (xI b2 cI 6 g2), (xI b3 cI 6 g3), (xI b4 cI 6 g4), (xI b5 cI 6 g5)] : va_W) ++ lvs cI 9 ad bd V G) U.heap ∧ va_K (dC, dI) vwCl [(cI, .int), (cZ, .boolean), (cL, .object RX3), (cJ, .array .int)] U ∧ va_D (fun _ => True) (([(xo_2_riiiii c0 be hrs wa br bw bt), (xJ be cL 9 fb), (xo_3_iiiiiiiirrrrr h v0 v1 v2 v3 (nI hh) v5 (nI ww) (nI kk) b1 b2 b3 b4 b5), (xI b1 cI 6 g1), (xI b2 cI 6 g2), (xI b3 cI 6 g3), (xI b4 cI 6 g4), (xI b5 cI 6 g5)] : va_W) ++ lvs cI 9 ad bd V G))) (va_Qv (fun (_ : Unit) => True) (fun (_ : Unit) t => ∃ (Vn : Nat → Nat → Int32) (Gn : Nat → Nat → Nat → Int32) (brn : Int32) (bwn : Int32) (btn : Int32), va_P (dC, dI) vwCl (([(xo_2_riiiii c0 be (nI x) y brn bwn btn), (xJ be cL 9 fb), (xo_3_iiiiiiiirrrrr h v0 v1 v2 v3 (nI hh) v5 (nI ww) (nI kk) b1 b2 b3 b4 b5), (xI b1 cI 6 g1), (xI b2 cI 6 g2), (xI b3 cI 6 g3), (xI b4 cI 6 g4), (xI b5 cI 6 g5)] : va_W) ++ lvs cI 9 ad bd Vn Gn) t.heap ∧ va_D (va_A (([(xo_2_riiiii c0 be hrs wa br bw bt), (xJ be cL 9 fb), (xo_3_iiiiiiiirrrrr h v0 v1 v2 v3 (nI hh) v5 (nI ww) (nI kk) b1 b2 b3 b4 b5), (xI b1 cI 6 g1), (xI b2 cI 6 g2), (xI b3 cI 6 g3), (xI b4 cI 6 g4), (xI b5 cI 6 g5)] : va_W) ++ lvs cI 9 ad bd V G) sz) (([(xo_2_riiiii c0 be (nI x) y brn bwn btn), (xJ be cL 9 fb), (xo_3_iiiiiiiirrrrr h v0 v1 v2 v3 (nI hh) v5 (nI ww) (nI kk) b1 b2 b3 b4 b5), (xI b1 cI 6 g1), (xI b2 cI 6 g2), (xI b3 cI 6 g3), (xI b4 cI 6 g4), (xI b5 cI 6 g5)] : va_W) ++ lvs cI 9 ad bd Vn Gn) ∧ trB y x (nrm v0 v1 v2 v3 hh v5 ww kk g1 g2 g3 g4 g5) 0 0 (-1, 0, 0) = (bwn, btn, brn)) (va_A (([(xo_2_riiiii c0 be hrs wa br bw bt), (xJ be cL 9 fb), (xo_3_iiiiiiiirrrrr h v0 v1 v2 v3 (nI hh) v5 (nI ww) (nI kk) b1 b2 b3 b4 b5), (xI b1 cI 6 g1), (xI b2 cI 6 g2), (xI b3 cI 6 g3), (xI b4 cI 6 g4), (xI b5 cI 6 g5)] : va_W) ++ lvs cI 9 ad bd V G) sz)) 0 0 (va_A (([(xo_2_riiiii c0 be hrs wa br bw bt), (xJ be cL 9 fb), (xo_3_iiiiiiiirrrrr h v0 v1 v2 v3 (nI hh) v5 (nI ww) (nI kk) b1 b2 b3 b4 b5), (xI b1 cI 6 g1), (xI b2 cI 6 g2), (xI b3 cI 6 g3), (xI b4 cI 6 g4), (xI b5 cI 6 g5)] : va_W) ++ lvs cI 9 ad bd V G) sz) := by
  refine Met.ofW (cc := cX2_search) (maxL := 4) (ret := none) (by decide) rfl ?_
  intro p e s m args below meth c s₁ B hml hv
  obtain ⟨rfl, hsz, hP, hK, hD0⟩ := hv
  have hx := B.exec
  have hb := B.bytes
  have hr := B.returns
  have hts := atoms_spec (ws := wsX2_search) B.pre
  have hown : s.vm.findClass RX2 = some m.cls := findClass_of_methodNamed B.named
  have hlocks := B.notSynchronized
  subst hsz
  have hD := hD0.self (sz := s.heap.size)
  generalize hAe : va_A (([(xo_2_riiiii c0 be hrs wa br bw bt), (xJ be cL 9 fb), (xo_3_iiiiiiiirrrrr h v0 v1 v2 v3 (nI hh) v5 (nI ww) (nI kk) b1 b2 b3 b4 b5), (xI b1 cI 6 g1), (xI b2 cI 6 g2), (xI b3 cI 6 g3), (xI b4 cI 6 g4), (xI b5 cI 6 g5)] : va_W) ++ lvs cI 9 ad bd V G) s.heap.size = A at hD ⊢
  have hA : ∀ q : Nat, s.heap.size ≤ q → A q := fun q h => by rw [← hAe]; exact Or.inr h
  have hS : va_S A s.heap s.heap [] := va_S.rf
  have hP : va_P (dC, dI) vwCl (([(xo_2_riiiii c0 be hrs wa br bw bt), (xJ be cL 9 fb), (xo_3_iiiiiiiirrrrr h v0 v1 v2 v3 (nI hh) v5 (nI ww) (nI kk) b1 b2 b3 b4 b5), (xI b1 cI 6 g1), (xI b2 cI 6 g2), (xI b3 cI 6 g3), (xI b4 cI 6 g4), (xI b5 cI 6 g5)] : va_W) ++ lvs cI 9 ad bd V G) s.heap := hP
  have hl := lv_entry ([.ref c0, .ref h, .int (nI x), .int y]) (n := 4) (Nat.le_of_ble_eq_true rfl)
  rw [lg_entry_eq]
  generalize (lg_sl ([.ref c0, .ref h, .int (nI x), .int y]) ++ List.replicate (4 - (lg_sl ([.ref c0, .ref h, .int (nI x), .int y])).length) Slot.unset).toArray = ls at hl ⊢
  have hl : lv_has ls 4 [(0, .ref c0), (1, .ref h), (2, .int (nI x)), (3, .int y)] := hl
  refine lv_aload_n hx hb dX2_search_0 rfl (lv_at hl 0 rfl) ?_
  refine lv_iload_n hx hb dX2_search_1 rfl (lv_at hl 2 rfl) ?_
  refine va_put (D := (dC, dI)) (ci := 2) (v := .int (nI x)) (ty := .int) (C := RX2) (T := TX2) (N := 6) hx hb hts i_X2_search_X2 tyX2 tyX2_ok nmX2 hown hK hP hD hS 0 rfl rfl 1 (by decide) (hts _ mx_X2_search_1) (fun _ h9 => h9) rfl (by decide +kernel) rfl rfl (Nat.le_of_ble_eq_true rfl) dX2_search_2 (fun H locs hP hD hS => ?_)
  have hP : va_P (dC, dI) vwCl (([(xo_2_riiiii c0 be (nI x) wa br bw bt), (xJ be cL 9 fb), (xo_3_iiiiiiiirrrrr h v0 v1 v2 v3 (nI hh) v5 (nI ww) (nI kk) b1 b2 b3 b4 b5), (xI b1 cI 6 g1), (xI b2 cI 6 g2), (xI b3 cI 6 g3), (xI b4 cI 6 g4), (xI b5 cI 6 g5)] : va_W) ++ lvs cI 9 ad bd V G) H := hP
  have hD := dto hP hD
  refine lv_aload_n hx hb dX2_search_5 rfl (lv_at hl 0 rfl) ?_
  refine lv_iload_n hx hb dX2_search_6 rfl (lv_at hl 3 rfl) ?_
  refine va_put (D := (dC, dI)) (ci := 2) (v := .int y) (ty := .int) (C := RX2) (T := TX2) (N := 6) hx hb hts i_X2_search_X2 tyX2 tyX2_ok nmX2 hown hK hP hD hS 0 rfl rfl 2 (by decide) (hts _ mx_X2_search_2) (fun _ h9 => h9) rfl (by decide +kernel) rfl rfl (Nat.le_of_ble_eq_true rfl) dX2_search_7 (fun H locs hP hD hS => ?_)
  have hP : va_P (dC, dI) vwCl (([(xo_2_riiiii c0 be (nI x) y br bw bt), (xJ be cL 9 fb), (xo_3_iiiiiiiirrrrr h v0 v1 v2 v3 (nI hh) v5 (nI ww) (nI kk) b1 b2 b3 b4 b5), (xI b1 cI 6 g1), (xI b2 cI 6 g2), (xI b3 cI 6 g3), (xI b4 cI 6 g4), (xI b5 cI 6 g5)] : va_W) ++ lvs cI 9 ad bd V G) H := hP
  have hD := dto hP hD
  refine lv_aload_n hx hb dX2_search_10 rfl (lv_at hl 0 rfl) ?_
  refine lv_iconst (v := 0) hx hb dX2_search_11 (by decide) ?_
  refine va_put (D := (dC, dI)) (ci := 2) (v := .int 0) (ty := .int) (C := RX2) (T := TX2) (N := 6) hx hb hts i_X2_search_X2 tyX2 tyX2_ok nmX2 hown hK hP hD hS 0 rfl rfl 3 (by decide) (hts _ mx_X2_search_3) (fun _ h9 => h9) rfl (by decide +kernel) rfl rfl (Nat.le_of_ble_eq_true rfl) dX2_search_12 (fun H locs hP hD hS => ?_)
  have hP : va_P (dC, dI) vwCl (([(xo_2_riiiii c0 be (nI x) y 0 bw bt), (xJ be cL 9 fb), (xo_3_iiiiiiiirrrrr h v0 v1 v2 v3 (nI hh) v5 (nI ww) (nI kk) b1 b2 b3 b4 b5), (xI b1 cI 6 g1), (xI b2 cI 6 g2), (xI b3 cI 6 g3), (xI b4 cI 6 g4), (xI b5 cI 6 g5)] : va_W) ++ lvs cI 9 ad bd V G) H := hP
  have hD := dto hP hD
  refine lv_aload_n hx hb dX2_search_15 rfl (lv_at hl 0 rfl) ?_
  refine lv_iconst (v := (-1)) hx hb dX2_search_16 (by decide) ?_
  refine va_put (D := (dC, dI)) (ci := 2) (v := .int (-1)) (ty := .int) (C := RX2) (T := TX2) (N := 6) hx hb hts i_X2_search_X2 tyX2 tyX2_ok nmX2 hown hK hP hD hS 0 rfl rfl 4 (by decide) (hts _ mx_X2_search_4) (fun _ h9 => h9) rfl (by decide +kernel) rfl rfl (Nat.le_of_ble_eq_true rfl) dX2_search_17 (fun H locs hP hD hS => ?_)
  have hP : va_P (dC, dI) vwCl (([(xo_2_riiiii c0 be (nI x) y 0 (-1) bt), (xJ be cL 9 fb), (xo_3_iiiiiiiirrrrr h v0 v1 v2 v3 (nI hh) v5 (nI ww) (nI kk) b1 b2 b3 b4 b5), (xI b1 cI 6 g1), (xI b2 cI 6 g2), (xI b3 cI 6 g3), (xI b4 cI 6 g4), (xI b5 cI 6 g5)] : va_W) ++ lvs cI 9 ad bd V G) H := hP
  have hD := dto hP hD
  refine lv_aload_n hx hb dX2_search_20 rfl (lv_at hl 0 rfl) ?_
  refine lv_iconst (v := 0) hx hb dX2_search_21 (by decide) ?_
  refine va_put (D := (dC, dI)) (ci := 2) (v := .int 0) (ty := .int) (C := RX2) (T := TX2) (N := 6) hx hb hts i_X2_search_X2 tyX2 tyX2_ok nmX2 hown hK hP hD hS 0 rfl rfl 5 (by decide) (hts _ mx_X2_search_5) (fun _ h9 => h9) rfl (by decide +kernel) rfl rfl (Nat.le_of_ble_eq_true rfl) dX2_search_22 (fun H locs hP hD hS => ?_)
  have hP : va_P (dC, dI) vwCl (([(xo_2_riiiii c0 be (nI x) y 0 (-1) 0), (xJ be cL 9 fb), (xo_3_iiiiiiiirrrrr h v0 v1 v2 v3 (nI hh) v5 (nI ww) (nI kk) b1 b2 b3 b4 b5), (xI b1 cI 6 g1), (xI b2 cI 6 g2), (xI b3 cI 6 g3), (xI b4 cI 6 g4), (xI b5 cI 6 g5)] : va_W) ++ lvs cI 9 ad bd V G) H := hP
  have hD := dto hP hD
  refine lv_aload_n hx hb dX2_search_25 rfl (lv_at hl 0 rfl) ?_
  refine va_get (D := (dC, dI)) (ci := 2) (v := .ref be) (C := RX2) (T := TX2) (N := 6) hx hb hts i_X2_search_X2 hown hK hP 0 rfl rfl 0 (by decide) (hts _ mx_X2_search_6) (fun _ h9 => h9) rfl dX2_search_26 ?_
  refine lv_iconst (v := 0) hx hb dX2_search_29 (by decide) ?_
  refine va_aldq hx hb hK hP 1 2 rfl rfl (by unfold vp_in; decide) dX2_search_30 ?_
  refine W.eq (g2 := F0 m 31 ls (.ref (ad 0) :: [])) (by show F0 m 31 ls (va_rf (fb (0 : Int32).toNatClampNeg) :: _) = _; rw [show (0 : Int32).toNatClampNeg = 0 from rfl, hfb _ (by decide)]; rfl) ?_
  obtain ⟨pl_1, hP, hD, hbP_1, hbD_1⟩ := blk_opn hP hD (i := 0) (by decide)
  have hP : va_P (dC, dI) vwCl (([(xo_2_riiiii c0 be (nI x) y 0 (-1) 0), (xJ be cL 9 fb), (xo_3_iiiiiiiirrrrr h v0 v1 v2 v3 (nI hh) v5 (nI ww) (nI kk) b1 b2 b3 b4 b5), (xI b1 cI 6 g1), (xI b2 cI 6 g2), (xI b3 cI 6 g3), (xI b4 cI 6 g4), (xI b5 cI 6 g5), (xo_3_iiiiiiiirrrrr (ad 0) (V 0 0) (V 0 1) (V 0 2) (V 0 3) (V 0 4) (V 0 5) (V 0 6) (V 0 7) (bd 0 0) (bd 0 1) (bd 0 2) (bd 0 3) (bd 0 4)), (xI (bd 0 0) cI 6 (G 0 0)), (xI (bd 0 1) cI 6 (G 0 1)), (xI (bd 0 2) cI 6 (G 0 2)), (xI (bd 0 3) cI 6 (G 0 3)), (xI (bd 0 4) cI 6 (G 0 4))] : va_W) ++ pl_1) H := hP
  have hD := dto hP hD
  refine lv_aload_n hx hb dX2_search_31 rfl (lv_at hl 1 rfl) ?_
  have hc_2 := cutX (wc := [(xo_3_iiiiiiiirrrrr (ad 0) (V 0 0) (V 0 1) (V 0 2) (V 0 3) (V 0 4) (V 0 5) (V 0 6) (V 0 7) (bd 0 0) (bd 0 1) (bd 0 2) (bd 0 3) (bd 0 4)), (xI (bd 0 0) cI 6 (G 0 0)), (xI (bd 0 1) cI 6 (G 0 1)), (xI (bd 0 2) cI 6 (G 0 2)), (xI (bd 0 3) cI 6 (G 0 3)), (xI (bd 0 4) cI 6 (G 0 4)), (xo_3_iiiiiiiirrrrr h v0 v1 v2 v3 (nI hh) v5 (nI ww) (nI kk) b1 b2 b3 b4 b5), (xI b1 cI 6 g1), (xI b2 cI 6 g2), (xI b3 cI 6 g3), (xI b4 cI 6 g4), (xI b5 cI 6 g5)]) hP hD hS hA [8, 9, 10, 11, 12, 13, 2, 3, 4, 5, 6, 7] (by decide +kernel) rfl
  refine va_callv (va_runV (As := [.ref h]) (rest := []) ⟨hx, hb, hml, hown, hts⟩ (r_X3_becomeLike l dC dI cI cZ cL cJ H.size (ad 0) (V 0 0) (V 0 1) (V 0 2) (V 0 3) (V 0 4) (V 0 5) (V 0 6) (V 0 7) (bd 0 0) (bd 0 1) (bd 0 2) (bd 0 3) (bd 0 4) (G 0 0) (G 0 1) (G 0 2) (G 0 3) (G 0 4) h v0 v1 v2 v3 (nI hh) v5 (nI ww) (nI kk) b1 b2 b3 b4 b5 g1 g2 g3 g4 g5 ) (cwV 1 hts gX2_search_X3_becomeLike rfl rfl rfl (by decide +kernel) ⟨Nat.le_of_ble_eq_true rfl, Nat.le_of_ble_eq_true rfl⟩) (pvW 3 8 hK hP rfl rfl hc_2) rfl rfl hl.1 rfl (lv_room (Nat.le_of_ble_eq_true rfl)) dX2_search_32 ⟨Nat.le_of_ble_eq_true rfl, Nat.le_of_ble_eq_true rfl⟩) hS (fun q _ h => hc_2.2.2 q h) hc_2.2.2 (fun u_2 t_2 H1 locs ht hvm h_2 hB hz1 hk1 hS => ?_)
  refine xl_5_7 hB (fun f1n_2 f2n_2 f3n_2 f4n_2 f5n_2 hP1 hD1 hF_2_0 hF_2_1 hF_2_2 hF_2_3 hF_2_4 => ?_)
  clear hB
  rw [ht] at hP1
  obtain ⟨hP, hD⟩ := va_joinQ (wr := [(xo_2_riiiii c0 be (nI x) y 0 (-1) 0), (xJ be cL 9 fb)]) (w1 := [(xo_3_iiiiiiiirrrrr (ad 0) v0 v1 v2 v3 (nI hh) v5 (nI ww) (nI kk) (bd 0 0) (bd 0 1) (bd 0 2) (bd 0 3) (bd 0 4)), (xI (bd 0 0) cI 6 f1n_2), (xI (bd 0 1) cI 6 f2n_2), (xI (bd 0 2) cI 6 f3n_2), (xI (bd 0 3) cI 6 f4n_2), (xI (bd 0 4) cI 6 f5n_2), (xo_3_iiiiiiiirrrrr h v0 v1 v2 v3 (nI hh) v5 (nI ww) (nI kk) b1 b2 b3 b4 b5), (xI b1 cI 6 g1), (xI b2 cI 6 g2), (xI b3 cI 6 g3), (xI b4 cI 6 g4), (xI b5 cI 6 g5)]) hP hD [8, 9, 10, 11, 12, 13, 2, 3, 4, 5, 6, 7] [0, 1] rfl rfl (by decide +kernel) (by decide +kernel) hk1 hc_2.2.2 hP1 hD1
  generalize H1 = H at hP hS ⊢
  have hP : va_P (dC, dI) vwCl (([(xo_2_riiiii c0 be (nI x) y 0 (-1) 0), (xJ be cL 9 fb), (xo_3_iiiiiiiirrrrr (ad 0) v0 v1 v2 v3 (nI hh) v5 (nI ww) (nI kk) (bd 0 0) (bd 0 1) (bd 0 2) (bd 0 3) (bd 0 4)), (xI (bd 0 0) cI 6 f1n_2), (xI (bd 0 1) cI 6 f2n_2), (xI (bd 0 2) cI 6 f3n_2), (xI (bd 0 3) cI 6 f4n_2), (xI (bd 0 4) cI 6 f5n_2), (xo_3_iiiiiiiirrrrr h v0 v1 v2 v3 (nI hh) v5 (nI ww) (nI kk) b1 b2 b3 b4 b5), (xI b1 cI 6 g1), (xI b2 cI 6 g2), (xI b3 cI 6 g3), (xI b4 cI 6 g4), (xI b5 cI 6 g5)] : va_W) ++ pl_1) H := hP
  have hD := dto hP hD
  have hP := hbP_1 [(xo_2_riiiii c0 be (nI x) y 0 (-1) 0), (xJ be cL 9 fb), (xo_3_iiiiiiiirrrrr h v0 v1 v2 v3 (nI hh) v5 (nI ww) (nI kk) b1 b2 b3 b4 b5), (xI b1 cI 6 g1), (xI b2 cI 6 g2), (xI b3 cI 6 g3), (xI b4 cI 6 g4), (xI b5 cI 6 g5)] (v0) (v1) (v2) (v3) ((nI hh)) (v5) ((nI ww)) ((nI kk)) (f1n_2) (f2n_2) (f3n_2) (f4n_2) (f5n_2) _ (hP.part (cx := (([(xo_2_riiiii c0 be (nI x) y 0 (-1) 0), (xJ be cL 9 fb), (xo_3_iiiiiiiirrrrr h v0 v1 v2 v3 (nI hh) v5 (nI ww) (nI kk) b1 b2 b3 b4 b5), (xI b1 cI 6 g1), (xI b2 cI 6 g2), (xI b3 cI 6 g3), (xI b4 cI 6 g4), (xI b5 cI 6 g5)] : va_W) ++ ([(xo_3_iiiiiiiirrrrr (ad 0) v0 v1 v2 v3 (nI hh) v5 (nI ww) (nI kk) (bd 0 0) (bd 0 1) (bd 0 2) (bd 0 3) (bd 0 4)), (xI (bd 0 0) cI 6 f1n_2), (xI (bd 0 1) cI 6 f2n_2), (xI (bd 0 2) cI 6 f3n_2), (xI (bd 0 3) cI 6 f4n_2), (xI (bd 0 4) cI 6 f5n_2)] : va_W))) [0, 1, 8, 9, 10, 11, 12, 13, 2, 3, 4, 5, 6, 7] rfl)
  have hD := hbD_1 [(xo_2_riiiii c0 be (nI x) y 0 (-1) 0), (xJ be cL 9 fb), (xo_3_iiiiiiiirrrrr h v0 v1 v2 v3 (nI hh) v5 (nI ww) (nI kk) b1 b2 b3 b4 b5), (xI b1 cI 6 g1), (xI b2 cI 6 g2), (xI b3 cI 6 g3), (xI b4 cI 6 g4), (xI b5 cI 6 g5)] (v0) (v1) (v2) (v3) ((nI hh)) (v5) ((nI ww)) ((nI kk)) (f1n_2) (f2n_2) (f3n_2) (f4n_2) (f5n_2) _ (hD.part (cx := (([(xo_2_riiiii c0 be (nI x) y 0 (-1) 0), (xJ be cL 9 fb), (xo_3_iiiiiiiirrrrr h v0 v1 v2 v3 (nI hh) v5 (nI ww) (nI kk) b1 b2 b3 b4 b5), (xI b1 cI 6 g1), (xI b2 cI 6 g2), (xI b3 cI 6 g3), (xI b4 cI 6 g4), (xI b5 cI 6 g5)] : va_W) ++ ([(xo_3_iiiiiiiirrrrr (ad 0) v0 v1 v2 v3 (nI hh) v5 (nI ww) (nI kk) (bd 0 0) (bd 0 1) (bd 0 2) (bd 0 3) (bd 0 4)), (xI (bd 0 0) cI 6 f1n_2), (xI (bd 0 1) cI 6 f2n_2), (xI (bd 0 2) cI 6 f3n_2), (xI (bd 0 3) cI 6 f4n_2), (xI (bd 0 4) cI 6 f5n_2)] : va_W))) [0, 1, 8, 9, 10, 11, 12, 13, 2, 3, 4, 5, 6, 7] (by decide +kernel) rfl)
  generalize hV_3 : va_up V 0 (fun k => [v0, v1, v2, v3, (nI hh), v5, (nI ww), (nI kk)].getD k 0) = V_3 at hP hD
  generalize hG_3 : va_up G 0 (fun k => [f1n_2, f2n_2, f3n_2, f4n_2, f5n_2].getD k (fun _ => 0)) = G_3 at hP hD
  have hP : va_P (dC, dI) vwCl (([(xo_2_riiiii c0 be (nI x) y 0 (-1) 0), (xJ be cL 9 fb), (xo_3_iiiiiiiirrrrr h v0 v1 v2 v3 (nI hh) v5 (nI ww) (nI kk) b1 b2 b3 b4 b5), (xI b1 cI 6 g1), (xI b2 cI 6 g2), (xI b3 cI 6 g3), (xI b4 cI 6 g4), (xI b5 cI 6 g5)] : va_W) ++ lvs cI 9 ad bd V_3 G_3) H := hP
  have hD := dto hP hD
  have s4_3 : V_3 0 4 = nI hh := by rw [← hV_3, va_up_self]; rfl
  have s6_3 : V_3 0 6 = nI ww := by rw [← hV_3, va_up_self]; rfl
  have s7_3 : V_3 0 7 = nI kk := by rw [← hV_3, va_up_self]; rfl
  have sr_3 : nrV (V_3 0) (G_3 0) = (nrm v0 v1 v2 v3 hh v5 ww kk g1 g2 g3 g4 g5) := by rw [← hV_3, ← hG_3, va_up_self, va_up_self]; exact nrV_lev (by omega) hww hkk hF_2_0 hF_2_1 hF_2_2 hF_2_3 hF_2_4
  have sn_3 : okN (999 + 0) (nrV (V_3 0) (G_3 0)) := by rw [sr_3]; exact hN
  refine lv_aload_n hx hb dX2_search_35 rfl (lv_at hl 0 rfl) ?_
  refine lv_iconst (v := 0) hx hb dX2_search_36 (by decide) ?_
  refine lv_iconst (v := 0) hx hb dX2_search_37 (by decide) ?_
  refine lv_iconst (v := 0) hx hb dX2_search_38 (by decide) ?_
  have hc_4 := cutP (cx := [(xo_2_riiiii c0 be (nI x) y 0 (-1) 0), (xJ be cL 9 fb)]) hP hD hS hA [0, 1] (by decide +kernel) rfl
  refine va_callv (va_runV (As := [.int 0, .int 0, .int 0]) (rest := []) ⟨hx, hb, hml, hown, hts⟩ (r_X2_tryRows l dC dI cI cZ cL cJ H.size c0 be x y 0 (-1) 0 fb ad bd V_3 G_3 hh ww kk 0 0 0 (hfb) (s4_3) (s6_3) (s7_3) (by omega) (hww) (hkk) (by omega) (hx8) (sn_3)) (cwV 3 hts gX2_search_X2_tryRows rfl rfl rfl (by decide +kernel) ⟨Nat.le_of_ble_eq_true rfl, Nat.le_of_ble_eq_true rfl⟩) (pvW 2 0 hK hP rfl rfl hc_4) rfl rfl hl.1 rfl (lv_room (Nat.le_of_ble_eq_true rfl)) dX2_search_39 ⟨Nat.le_of_ble_eq_true rfl, Nat.le_of_ble_eq_true rfl⟩) hS (fun q _ h => hc_4.2.2 q h) hc_4.2.2 (fun u_4 t_4 H1 locs ht hvm h_4 hB hz1 hk1 hS => ?_)
  refine xl_5_4 hB (fun Vn_4 Gn_4 brn_4 bwn_4 btn_4 hP1 hD1 hF_4_0 hF_4_1 => ?_)
  clear hB
  rw [ht] at hP1
  obtain ⟨hP, hD⟩ := va_joinP (wr := [(xo_3_iiiiiiiirrrrr h v0 v1 v2 v3 (nI hh) v5 (nI ww) (nI kk) b1 b2 b3 b4 b5), (xI b1 cI 6 g1), (xI b2 cI 6 g2), (xI b3 cI 6 g3), (xI b4 cI 6 g4), (xI b5 cI 6 g5)]) (rx := [(xo_2_riiiii c0 be (nI x) y brn_4 bwn_4 btn_4), (xJ be cL 9 fb)]) (pl1 := lvs cI 9 ad bd Vn_4 Gn_4) hP hD [0, 1] [2, 3, 4, 5, 6, 7] rfl rfl (by decide +kernel) (by decide +kernel) hk1 hc_4.2.2 hP1 hD1
  generalize H1 = H at hP hS ⊢
  have hP : va_P (dC, dI) vwCl (([(xo_3_iiiiiiiirrrrr h v0 v1 v2 v3 (nI hh) v5 (nI ww) (nI kk) b1 b2 b3 b4 b5), (xI b1 cI 6 g1), (xI b2 cI 6 g2), (xI b3 cI 6 g3), (xI b4 cI 6 g4), (xI b5 cI 6 g5), (xo_2_riiiii c0 be (nI x) y brn_4 bwn_4 btn_4), (xJ be cL 9 fb)] : va_W) ++ lvs cI 9 ad bd Vn_4 Gn_4) H := hP
  have hD := dto hP hD
  have hX9 := cut2P (cx := [(xo_2_riiiii c0 be (nI x) y brn_4 bwn_4 btn_4), (xJ be cL 9 fb), (xo_3_iiiiiiiirrrrr h v0 v1 v2 v3 (nI hh) v5 (nI ww) (nI kk) b1 b2 b3 b4 b5), (xI b1 cI 6 g1), (xI b2 cI 6 g2), (xI b3 cI 6 g3), (xI b4 cI 6 g4), (xI b5 cI 6 g5)]) hP hD [6, 7, 0, 1, 2, 3, 4, 5] (by decide +kernel) rfl
  exact W.vret hx hb hr (fun t ht hW => ⟨⟨(), rfl, trivial, ⟨Vn_4, Gn_4, brn_4, bwn_4, btn_4, va_Ht ht hX9.1, hX9.2, (lf_X2_search_1 hfb hhb hww hkk hx8 hN hF_2_0 hF_2_1 hF_2_2 hF_2_3 hF_2_4 sr_3 hF_4_0 hF_4_1)⟩⟩, hS.F ht⟩) hS.2.2 dX2_search_42
-- 20.play_d
theorem dX4_bestFor_0 : decode cX4_bestFor 0 = .ok (.iload_n 2, 1) := dq_28 (by decide +kernel)
theorem dX4_bestFor_1 : decode cX4_bestFor 1 = .ok (.ifCond .gt 26, 3) := dq_157 (b1 := 0) (b2 := 26) (by decide +kernel) (by decide)
theorem dX4_bestFor_12 : decode cX4_bestFor 12 = .ok (.invokevirtual 19, 3) := dq_182 (b1 := 0) (b2 := 19) (by decide +kernel) (by decide)
theorem dX4_bestFor_15 : decode cX4_bestFor 15 = .ok (.aload_n 0, 1) := dq_42 (by decide +kernel)
theorem dX4_bestFor_16 : decode cX4_bestFor 16 = .ok (.getfield 16, 3) := dq_180 (b1 := 0) (b2 := 16) (by decide +kernel) (by decide)
theorem dX4_bestFor_19 : decode cX4_bestFor 19 = .ok (.aload_n 0, 1) := dq_42 (by decide +kernel)
theorem dX4_bestFor_20 : decode cX4_bestFor 20 = .ok (.getfield 23, 3) := dq_180 (b1 := 0) (b2 := 23) (by decide +kernel) (by decide)
theorem dX4_bestFor_23 : decode cX4_bestFor 23 = .ok (.invokevirtual 37, 3) := dq_182 (b1 := 0) (b2 := 37) (by decide +kernel) (by decide)
theorem dX4_bestFor_26 : decode cX4_bestFor 26 = .ok (.ireturn, 1) := dq_172 (by decide +kernel)
theorem dX4_bestFor_27 : decode cX4_bestFor 27 = .ok (.aload_n 0, 1) := dq_42 (by decide +kernel)
theorem dX4_bestFor_28 : decode cX4_bestFor 28 = .ok (.iload_n 1, 1) := dq_27 (by decide +kernel)
theorem dX4_bestFor_29 : decode cX4_bestFor 29 = .ok (.ifCond .ne 7, 3) := dq_154 (b1 := 0) (b2 := 7) (by decide +kernel) (by decide)
theorem dX4_bestFor_32 : decode cX4_bestFor 32 = .ok (.iconst 1, 1) := dq_4 (by decide +kernel)
theorem dX4_bestFor_33 : decode cX4_bestFor 33 = .ok (.goto 4, 3) := dq_167 (b1 := 0) (b2 := 4) (by decide +kernel) (by decide)
theorem dX4_bestFor_36 : decode cX4_bestFor 36 = .ok (.iconst 0, 1) := dq_3 (by decide +kernel)
theorem dX4_bestFor_37 : decode cX4_bestFor 37 = .ok (.iload_n 2, 1) := dq_28 (by decide +kernel)
theorem dX4_bestFor_38 : decode cX4_bestFor 38 = .ok (.iconst 1, 1) := dq_4 (by decide +kernel)
theorem dX4_bestFor_39 : decode cX4_bestFor 39 = .ok (.isub, 1) := dq_100 (by decide +kernel)
theorem dX4_bestFor_4 : decode cX4_bestFor 4 = .ok (.aload_n 0, 1) := dq_42 (by decide +kernel)
theorem dX4_bestFor_40 : decode cX4_bestFor 40 = .ok (.invokevirtual 33, 3) := dq_182 (b1 := 0) (b2 := 33) (by decide +kernel) (by decide)
theorem dX4_bestFor_43 : decode cX4_bestFor 43 = .ok (.istore_n 3, 1) := dq_62 (by decide +kernel)
theorem dX4_bestFor_44 : decode cX4_bestFor 44 = .ok (.aload_n 0, 1) := dq_42 (by decide +kernel)
theorem dX4_bestFor_45 : decode cX4_bestFor 45 = .ok (.iload_n 1, 1) := dq_27 (by decide +kernel)
theorem dX4_bestFor_46 : decode cX4_bestFor 46 = .ok (.invokevirtual 41, 3) := dq_182 (b1 := 0) (b2 := 41) (by decide +kernel) (by decide)
theorem dX4_bestFor_49 : decode cX4_bestFor 49 = .ok (.aload_n 0, 1) := dq_42 (by decide +kernel)
theorem dX4_bestFor_5 : decode cX4_bestFor 5 = .ok (.getfield 16, 3) := dq_180 (b1 := 0) (b2 := 16) (by decide +kernel) (by decide)
theorem dX4_bestFor_50 : decode cX4_bestFor 50 = .ok (.iload_n 1, 1) := dq_27 (by decide +kernel)
theorem dX4_bestFor_51 : decode cX4_bestFor 51 = .ok (.ifCond .ne 7, 3) := dq_154 (b1 := 0) (b2 := 7) (by decide +kernel) (by decide)
theorem dX4_bestFor_54 : decode cX4_bestFor 54 = .ok (.iconst 1, 1) := dq_4 (by decide +kernel)
theorem dX4_bestFor_55 : decode cX4_bestFor 55 = .ok (.goto 4, 3) := dq_167 (b1 := 0) (b2 := 4) (by decide +kernel) (by decide)
theorem dX4_bestFor_58 : decode cX4_bestFor 58 = .ok (.iconst 0, 1) := dq_3 (by decide +kernel)
theorem dX4_bestFor_59 : decode cX4_bestFor 59 = .ok (.iload_n 2, 1) := dq_28 (by decide +kernel)
theorem dX4_bestFor_60 : decode cX4_bestFor 60 = .ok (.iconst 1, 1) := dq_4 (by decide +kernel)
theorem dX4_bestFor_61 : decode cX4_bestFor 61 = .ok (.isub, 1) := dq_100 (by decide +kernel)
theorem dX4_bestFor_62 : decode cX4_bestFor 62 = .ok (.invokevirtual 33, 3) := dq_182 (b1 := 0) (b2 := 33) (by decide +kernel) (by decide)
theorem dX4_bestFor_65 : decode cX4_bestFor 65 = .ok (.istore 4, 2) := dq_54 (b1 := 4) (by decide +kernel) (by decide)
theorem dX4_bestFor_67 : decode cX4_bestFor 67 = .ok (.aload_n 0, 1) := dq_42 (by decide +kernel)
theorem dX4_bestFor_68 : decode cX4_bestFor 68 = .ok (.iload_n 1, 1) := dq_27 (by decide +kernel)
theorem dX4_bestFor_69 : decode cX4_bestFor 69 = .ok (.invokevirtual 41, 3) := dq_182 (b1 := 0) (b2 := 41) (by decide +kernel) (by decide)
theorem dX4_bestFor_72 : decode cX4_bestFor 72 = .ok (.iload_n 1, 1) := dq_27 (by decide +kernel)
theorem dX4_bestFor_73 : decode cX4_bestFor 73 = .ok (.ifCond .eq 12, 3) := dq_153 (b1 := 0) (b2 := 12) (by decide +kernel) (by decide)
theorem dX4_bestFor_76 : decode cX4_bestFor 76 = .ok (.iload_n 3, 1) := dq_29 (by decide +kernel)
theorem dX4_bestFor_77 : decode cX4_bestFor 77 = .ok (.iload 4, 2) := dq_21 (b1 := 4) (by decide +kernel) (by decide)
theorem dX4_bestFor_79 : decode cX4_bestFor 79 = .ok (.invokestatic 45, 3) := dq_184 (b1 := 0) (b2 := 45) (by decide +kernel) (by decide)
theorem dX4_bestFor_8 : decode cX4_bestFor 8 = .ok (.aload_n 0, 1) := dq_42 (by decide +kernel)
theorem dX4_bestFor_82 : decode cX4_bestFor 82 = .ok (.goto 9, 3) := dq_167 (b1 := 0) (b2 := 9) (by decide +kernel) (by decide)
theorem dX4_bestFor_85 : decode cX4_bestFor 85 = .ok (.iload_n 3, 1) := dq_29 (by decide +kernel)
theorem dX4_bestFor_86 : decode cX4_bestFor 86 = .ok (.iload 4, 2) := dq_21 (b1 := 4) (by decide +kernel) (by decide)
theorem dX4_bestFor_88 : decode cX4_bestFor 88 = .ok (.invokestatic 27, 3) := dq_184 (b1 := 0) (b2 := 27) (by decide +kernel) (by decide)
theorem dX4_bestFor_9 : decode cX4_bestFor 9 = .ok (.getfield 10, 3) := dq_180 (b1 := 0) (b2 := 10) (by decide +kernel) (by decide)
theorem dX4_bestFor_91 : decode cX4_bestFor 91 = .ok (.ireturn, 1) := dq_172 (by decide +kernel)
theorem dX4_turn_0 : decode cX4_turn 0 = .ok (.iload_n 1, 1) := dq_27 (by decide +kernel)
theorem dX4_turn_1 : decode cX4_turn 1 = .ok (.ifCond .eq 13, 3) := dq_153 (b1 := 0) (b2 := 13) (by decide +kernel) (by decide)
theorem dX4_turn_11 : decode cX4_turn 11 = .ok (.goto 10, 3) := dq_167 (b1 := 0) (b2 := 10) (by decide +kernel) (by decide)
theorem dX4_turn_14 : decode cX4_turn 14 = .ok (.aload_n 0, 1) := dq_42 (by decide +kernel)
theorem dX4_turn_15 : decode cX4_turn 15 = .ok (.getfield 10, 3) := dq_180 (b1 := 0) (b2 := 10) (by decide +kernel) (by decide)
theorem dX4_turn_18 : decode cX4_turn 18 = .ok (.invokevirtual 51, 3) := dq_182 (b1 := 0) (b2 := 51) (by decide +kernel) (by decide)
theorem dX4_turn_21 : decode cX4_turn 21 = .ok (.return_, 1) := dq_177 (by decide +kernel)
theorem dX4_turn_4 : decode cX4_turn 4 = .ok (.aload_n 0, 1) := dq_42 (by decide +kernel)
theorem dX4_turn_5 : decode cX4_turn 5 = .ok (.getfield 10, 3) := dq_180 (b1 := 0) (b2 := 10) (by decide +kernel) (by decide)
theorem dX4_turn_8 : decode cX4_turn 8 = .ok (.invokevirtual 48, 3) := dq_182 (b1 := 0) (b2 := 48) (by decide +kernel) (by decide)
theorem mb_X4_bestFor_wsX4_bestFor_r1 {w : Cond} (h : w ∈ wsX4_bestFor_r1) : w ∈ wsX4_bestFor := by unfold wsX4_bestFor; exact List.mem_cons_of_mem _ (List.mem_append_left _ (List.mem_append_left _ (List.mem_append_left _ (h))))
theorem mx_X4_bestFor_15 : Cond.code yX3_becomeLike cX3_becomeLike 2 none ∈ wsX4_bestFor := mb_X4_bestFor_wsX4_bestFor_r1 (List.mem_of_getElem? (i := 14) rfl)
theorem mx_X4_bestFor_16 : Cond.fieldLink RX3 27 "MillTalk$Level" "cells" "I" ∈ wsX4_bestFor := mb_X4_bestFor_wsX4_bestFor_r1 (List.mem_of_getElem? (i := 15) rfl)
theorem mx_X4_bestFor_17 : Cond.fieldLink RX3 31 "MillTalk$Level" "mill" "I" ∈ wsX4_bestFor := mb_X4_bestFor_wsX4_bestFor_r1 (List.mem_of_getElem? (i := 16) rfl)
theorem mx_X4_bestFor_18 : Cond.fieldLink RX3 34 "MillTalk$Level" "reach" "I" ∈ wsX4_bestFor := mb_X4_bestFor_wsX4_bestFor_r1 (List.mem_of_getElem? (i := 17) rfl)
theorem mx_X4_bestFor_19 : Cond.fieldLink RX3 37 "MillTalk$Level" "cap" "I" ∈ wsX4_bestFor := mb_X4_bestFor_wsX4_bestFor_r1 (List.mem_of_getElem? (i := 18) rfl)
theorem mx_X4_bestFor_20 : Cond.fieldLink RX3 40 "MillTalk$Level" "hour" "I" ∈ wsX4_bestFor := mb_X4_bestFor_wsX4_bestFor_r1 (List.mem_of_getElem? (i := 19) rfl)
theorem mx_X4_bestFor_21 : Cond.fieldLink RX3 43 "MillTalk$Level" "meal" "I" ∈ wsX4_bestFor := mb_X4_bestFor_wsX4_bestFor_r1 (List.mem_of_getElem? (i := 20) rfl)
theorem mx_X4_bestFor_22 : Cond.fieldLink RX3 46 "MillTalk$Level" "windCount" "I" ∈ wsX4_bestFor := mb_X4_bestFor_wsX4_bestFor_r1 (List.mem_of_getElem? (i := 21) rfl)
theorem mx_X4_bestFor_23 : Cond.fieldLink RX3 49 "MillTalk$Level" "soundCount" "I" ∈ wsX4_bestFor := mb_X4_bestFor_wsX4_bestFor_r1 (List.mem_of_getElem? (i := 22) rfl)
theorem mx_X4_bestFor_24 : Cond.fieldLink RX3 9 "MillTalk$Level" "winds" "[I" ∈ wsX4_bestFor := mb_X4_bestFor_wsX4_bestFor_r1 (List.mem_of_getElem? (i := 23) rfl)
theorem mb_X4_bestFor_wsX4_bestFor_r2 {w : Cond} (h : w ∈ wsX4_bestFor_r2) : w ∈ wsX4_bestFor := by unfold wsX4_bestFor; exact List.mem_cons_of_mem _ (List.mem_append_left _ (List.mem_append_left _ (List.mem_append_right _ (List.mem_append_left _ (h)))))
theorem mx_X4_bestFor_25 : Cond.methodLink RX3 52 arraycopyName ∈ wsX4_bestFor := mb_X4_bestFor_wsX4_bestFor_r2 (List.mem_of_getElem? (i := 0) rfl)
theorem mx_X4_bestFor_26 : Cond.native arraycopyName ∈ wsX4_bestFor := mb_X4_bestFor_wsX4_bestFor_r2 (List.mem_of_getElem? (i := 1) rfl)
theorem mx_X4_bestFor_27 : Cond.static arraycopyName ∈ wsX4_bestFor := mb_X4_bestFor_wsX4_bestFor_r2 (List.mem_of_getElem? (i := 2) rfl)
theorem mx_X4_bestFor_28 : Cond.initialized "java/lang/System" ∈ wsX4_bestFor := mb_X4_bestFor_wsX4_bestFor_r2 (List.mem_of_getElem? (i := 3) rfl)
theorem mx_X4_bestFor_29 : Cond.fieldLink RX3 15 "MillTalk$Level" "kinds" "[I" ∈ wsX4_bestFor := mb_X4_bestFor_wsX4_bestFor_r2 (List.mem_of_getElem? (i := 4) rfl)
theorem mx_X4_bestFor_30 : Cond.fieldLink RX3 18 "MillTalk$Level" "places" "[I" ∈ wsX4_bestFor := mb_X4_bestFor_wsX4_bestFor_r2 (List.mem_of_getElem? (i := 5) rfl)
theorem mx_X4_bestFor_31 : Cond.fieldLink RX3 21 "MillTalk$Level" "louds" "[I" ∈ wsX4_bestFor := mb_X4_bestFor_wsX4_bestFor_r2 (List.mem_of_getElem? (i := 6) rfl)
theorem mx_X4_bestFor_32 : Cond.fieldLink RX3 24 "MillTalk$Level" "hows" "[I" ∈ wsX4_bestFor := mb_X4_bestFor_wsX4_bestFor_r2 (List.mem_of_getElem? (i := 7) rfl)
theorem mb_X4_bestFor_wsX30 {w : Cond} (h : w ∈ wsX30) : w ∈ wsX4_bestFor := by unfold wsX4_bestFor; exact List.mem_cons_of_mem _ (List.mem_append_right _ (h))
theorem ggX4_bestFor_X3_becomeLike : GoodIn wsX4_bestFor wsX3_becomeLike := goodIn_sub (by unfold wsX3_becomeLike; exact List.forall_mem_cons.mpr ⟨mx_X4_bestFor_15, List.forall_mem_append.mpr ⟨List.forall_mem_cons.mpr ⟨mx_X4_bestFor_16, List.forall_mem_cons.mpr ⟨mx_X4_bestFor_17, List.forall_mem_cons.mpr ⟨mx_X4_bestFor_18, List.forall_mem_cons.mpr ⟨mx_X4_bestFor_19, List.forall_mem_cons.mpr ⟨mx_X4_bestFor_20, List.forall_mem_cons.mpr ⟨mx_X4_bestFor_21, List.forall_mem_cons.mpr ⟨mx_X4_bestFor_22, List.forall_mem_cons.mpr ⟨mx_X4_bestFor_23, List.forall_mem_cons.mpr ⟨mx_X4_bestFor_24, List.forall_mem_cons.mpr ⟨mx_X4_bestFor_25, List.forall_mem_cons.mpr ⟨mx_X4_bestFor_26, List.forall_mem_cons.mpr ⟨mx_X4_bestFor_27, List.forall_mem_cons.mpr ⟨mx_X4_bestFor_28, List.forall_mem_cons.mpr ⟨mx_X4_bestFor_29, List.forall_mem_cons.mpr ⟨mx_X4_bestFor_30, List.forall_mem_cons.mpr ⟨mx_X4_bestFor_31, List.forall_mem_cons.mpr ⟨mx_X4_bestFor_32, fun _ h_ => absurd h_ List.not_mem_nil⟩⟩⟩⟩⟩⟩⟩⟩⟩⟩⟩⟩⟩⟩⟩⟩⟩, (fun _ h_ => mb_X4_bestFor_wsX30 h_)⟩⟩) (by decide +kernel)
theorem mx_X4_bestFor_11 : Cond.methodLink RX4 19 yX3_becomeLike ∈ wsX4_bestFor := mb_X4_bestFor_wsX4_bestFor_r1 (List.mem_of_getElem? (i := 10) rfl)
theorem mx_X4_bestFor_12 : Cond.instanceMethod yX3_becomeLike ∈ wsX4_bestFor := mb_X4_bestFor_wsX4_bestFor_r1 (List.mem_of_getElem? (i := 11) rfl)
theorem mx_X4_bestFor_13 : Cond.selects RX3 yX3_becomeLike yX3_becomeLike ∈ wsX4_bestFor := mb_X4_bestFor_wsX4_bestFor_r1 (List.mem_of_getElem? (i := 12) rfl)
theorem mx_X4_bestFor_14 : Cond.initialized RX3 ∈ wsX4_bestFor := mb_X4_bestFor_wsX4_bestFor_r1 (List.mem_of_getElem? (i := 13) rfl)
theorem gX4_bestFor_X3_becomeLike : GoodIn wsX4_bestFor (wsV RX4 19 RX3 yX3_becomeLike wsX3_becomeLike) := goodIn_app (goodIn_sub (List.forall_mem_cons.mpr ⟨mx_X4_bestFor_11, List.forall_mem_cons.mpr ⟨mx_X4_bestFor_12, List.forall_mem_cons.mpr ⟨mx_X4_bestFor_13, List.forall_mem_cons.mpr ⟨mx_X4_bestFor_14, fun _ h_ => absurd h_ List.not_mem_nil⟩⟩⟩⟩) (by decide +kernel)) ggX4_bestFor_X3_becomeLike
theorem mx_X4_bestFor_36 : Cond.code yX3_mealBehind cX3_mealBehind 3 (some .int) ∈ wsX4_bestFor := mb_X4_bestFor_wsX4_bestFor_r2 (List.mem_of_getElem? (i := 11) rfl)
theorem mx_X4_bestFor_37 : Cond.methodLink RX3 94 yX3_pass ∈ wsX4_bestFor := mb_X4_bestFor_wsX4_bestFor_r2 (List.mem_of_getElem? (i := 12) rfl)
theorem mx_X4_bestFor_38 : Cond.instanceMethod yX3_pass ∈ wsX4_bestFor := mb_X4_bestFor_wsX4_bestFor_r2 (List.mem_of_getElem? (i := 13) rfl)
theorem mx_X4_bestFor_39 : Cond.selects RX3 yX3_pass yX3_pass ∈ wsX4_bestFor := mb_X4_bestFor_wsX4_bestFor_r2 (List.mem_of_getElem? (i := 14) rfl)
theorem mx_X4_bestFor_40 : Cond.code yX3_pass cX3_pass 3 none ∈ wsX4_bestFor := mb_X4_bestFor_wsX4_bestFor_r2 (List.mem_of_getElem? (i := 15) rfl)
theorem mx_X4_bestFor_41 : Cond.methodLink RX3 87 yX3_windOn ∈ wsX4_bestFor := mb_X4_bestFor_wsX4_bestFor_r2 (List.mem_of_getElem? (i := 16) rfl)
theorem mx_X4_bestFor_42 : Cond.instanceMethod yX3_windOn ∈ wsX4_bestFor := mb_X4_bestFor_wsX4_bestFor_r2 (List.mem_of_getElem? (i := 17) rfl)
theorem mx_X4_bestFor_43 : Cond.selects RX3 yX3_windOn yX3_windOn ∈ wsX4_bestFor := mb_X4_bestFor_wsX4_bestFor_r2 (List.mem_of_getElem? (i := 18) rfl)
theorem mx_X4_bestFor_44 : Cond.code yX3_windOn cX3_windOn 2 (some .int) ∈ wsX4_bestFor := mb_X4_bestFor_wsX4_bestFor_r2 (List.mem_of_getElem? (i := 19) rfl)
theorem mx_X4_bestFor_45 : Cond.methodLink RX3 90 yX3_passSound ∈ wsX4_bestFor := mb_X4_bestFor_wsX4_bestFor_r2 (List.mem_of_getElem? (i := 20) rfl)
theorem mx_X4_bestFor_46 : Cond.instanceMethod yX3_passSound ∈ wsX4_bestFor := mb_X4_bestFor_wsX4_bestFor_r2 (List.mem_of_getElem? (i := 21) rfl)
theorem mx_X4_bestFor_47 : Cond.selects RX3 yX3_passSound yX3_passSound ∈ wsX4_bestFor := mb_X4_bestFor_wsX4_bestFor_r2 (List.mem_of_getElem? (i := 22) rfl)
theorem mx_X4_bestFor_48 : Cond.code yX3_passSound cX3_passSound 5 none ∈ wsX4_bestFor := mb_X4_bestFor_wsX4_bestFor_r2 (List.mem_of_getElem? (i := 23) rfl)
theorem mb_X4_bestFor_wsX4_bestFor_r3 {w : Cond} (h : w ∈ wsX4_bestFor_r3) : w ∈ wsX4_bestFor := by unfold wsX4_bestFor; exact List.mem_cons_of_mem _ (List.mem_append_left _ (List.mem_append_left _ (List.mem_append_right _ (List.mem_append_right _ (List.mem_append_left _ (h))))))
theorem mx_X4_bestFor_49 : Cond.methodLink RX3 63 Lib.Math.min.name ∈ wsX4_bestFor := mb_X4_bestFor_wsX4_bestFor_r3 (List.mem_of_getElem? (i := 0) rfl)
theorem mx_X4_bestFor_9 : Cond.static Lib.Math.min.name ∈ wsX4_bestFor := mb_X4_bestFor_wsX4_bestFor_r1 (List.mem_of_getElem? (i := 8) rfl)
theorem mx_X4_bestFor_6 : Cond.initialized "java/lang/Math" ∈ wsX4_bestFor := mb_X4_bestFor_wsX4_bestFor_r1 (List.mem_of_getElem? (i := 5) rfl)
theorem mx_X4_bestFor_10 : Cond.code Lib.Math.min.name Lib.Math.min.code 2 (some .int) ∈ wsX4_bestFor := mb_X4_bestFor_wsX4_bestFor_r1 (List.mem_of_getElem? (i := 9) rfl)
theorem mx_X4_bestFor_50 : Cond.methodLink RX3 58 yX3_isLoose ∈ wsX4_bestFor := mb_X4_bestFor_wsX4_bestFor_r3 (List.mem_of_getElem? (i := 1) rfl)
theorem mx_X4_bestFor_51 : Cond.instanceMethod yX3_isLoose ∈ wsX4_bestFor := mb_X4_bestFor_wsX4_bestFor_r3 (List.mem_of_getElem? (i := 2) rfl)
theorem mx_X4_bestFor_52 : Cond.selects RX3 yX3_isLoose yX3_isLoose ∈ wsX4_bestFor := mb_X4_bestFor_wsX4_bestFor_r3 (List.mem_of_getElem? (i := 3) rfl)
theorem mx_X4_bestFor_53 : Cond.code yX3_isLoose cX3_isLoose 2 (some .boolean) ∈ wsX4_bestFor := mb_X4_bestFor_wsX4_bestFor_r3 (List.mem_of_getElem? (i := 4) rfl)
theorem mx_X4_bestFor_54 : Cond.methodLink RX3 69 yX3_driftOf ∈ wsX4_bestFor := mb_X4_bestFor_wsX4_bestFor_r3 (List.mem_of_getElem? (i := 5) rfl)
theorem mx_X4_bestFor_55 : Cond.instanceMethod yX3_driftOf ∈ wsX4_bestFor := mb_X4_bestFor_wsX4_bestFor_r3 (List.mem_of_getElem? (i := 6) rfl)
theorem mx_X4_bestFor_56 : Cond.selects RX3 yX3_driftOf yX3_driftOf ∈ wsX4_bestFor := mb_X4_bestFor_wsX4_bestFor_r3 (List.mem_of_getElem? (i := 7) rfl)
theorem mx_X4_bestFor_57 : Cond.code yX3_driftOf cX3_driftOf 4 (some .int) ∈ wsX4_bestFor := mb_X4_bestFor_wsX4_bestFor_r3 (List.mem_of_getElem? (i := 8) rfl)
theorem mx_X4_bestFor_58 : Cond.methodLink RX3 72 yX3_loudBehindHour ∈ wsX4_bestFor := mb_X4_bestFor_wsX4_bestFor_r3 (List.mem_of_getElem? (i := 9) rfl)
theorem mx_X4_bestFor_59 : Cond.instanceMethod yX3_loudBehindHour ∈ wsX4_bestFor := mb_X4_bestFor_wsX4_bestFor_r3 (List.mem_of_getElem? (i := 10) rfl)
theorem mx_X4_bestFor_60 : Cond.selects RX3 yX3_loudBehindHour yX3_loudBehindHour ∈ wsX4_bestFor := mb_X4_bestFor_wsX4_bestFor_r3 (List.mem_of_getElem? (i := 11) rfl)
theorem mx_X4_bestFor_61 : Cond.code yX3_loudBehindHour cX3_loudBehindHour 2 (some .int) ∈ wsX4_bestFor := mb_X4_bestFor_wsX4_bestFor_r3 (List.mem_of_getElem? (i := 12) rfl)
theorem mx_X4_bestFor_62 : Cond.methodLink RX3 76 yX3_hasCell ∈ wsX4_bestFor := mb_X4_bestFor_wsX4_bestFor_r3 (List.mem_of_getElem? (i := 13) rfl)
theorem mx_X4_bestFor_63 : Cond.instanceMethod yX3_hasCell ∈ wsX4_bestFor := mb_X4_bestFor_wsX4_bestFor_r3 (List.mem_of_getElem? (i := 14) rfl)
theorem mx_X4_bestFor_64 : Cond.selects RX3 yX3_hasCell yX3_hasCell ∈ wsX4_bestFor := mb_X4_bestFor_wsX4_bestFor_r3 (List.mem_of_getElem? (i := 15) rfl)
theorem mx_X4_bestFor_65 : Cond.code yX3_hasCell cX3_hasCell 2 (some .boolean) ∈ wsX4_bestFor := mb_X4_bestFor_wsX4_bestFor_r3 (List.mem_of_getElem? (i := 16) rfl)
theorem mx_X4_bestFor_66 : Cond.methodLink RX3 79 yX3_letLoose ∈ wsX4_bestFor := mb_X4_bestFor_wsX4_bestFor_r3 (List.mem_of_getElem? (i := 17) rfl)
theorem mx_X4_bestFor_67 : Cond.instanceMethod yX3_letLoose ∈ wsX4_bestFor := mb_X4_bestFor_wsX4_bestFor_r3 (List.mem_of_getElem? (i := 18) rfl)
theorem mx_X4_bestFor_68 : Cond.selects RX3 yX3_letLoose yX3_letLoose ∈ wsX4_bestFor := mb_X4_bestFor_wsX4_bestFor_r3 (List.mem_of_getElem? (i := 19) rfl)
theorem mx_X4_bestFor_69 : Cond.code yX3_letLoose cX3_letLoose 4 none ∈ wsX4_bestFor := mb_X4_bestFor_wsX4_bestFor_r3 (List.mem_of_getElem? (i := 20) rfl)
theorem mx_X4_bestFor_70 : Cond.methodLink RX3 83 yX3_grindsAt ∈ wsX4_bestFor := mb_X4_bestFor_wsX4_bestFor_r3 (List.mem_of_getElem? (i := 21) rfl)
theorem mx_X4_bestFor_71 : Cond.instanceMethod yX3_grindsAt ∈ wsX4_bestFor := mb_X4_bestFor_wsX4_bestFor_r3 (List.mem_of_getElem? (i := 22) rfl)
theorem mx_X4_bestFor_72 : Cond.selects RX3 yX3_grindsAt yX3_grindsAt ∈ wsX4_bestFor := mb_X4_bestFor_wsX4_bestFor_r3 (List.mem_of_getElem? (i := 23) rfl)
theorem mb_X4_bestFor_wsX4_bestFor_r4 {w : Cond} (h : w ∈ wsX4_bestFor_r4) : w ∈ wsX4_bestFor := by unfold wsX4_bestFor; exact List.mem_cons_of_mem _ (List.mem_append_left _ (List.mem_append_left _ (List.mem_append_right _ (List.mem_append_right _ (List.mem_append_right _ (h))))))
theorem mx_X4_bestFor_73 : Cond.code yX3_grindsAt cX3_grindsAt 4 (some .boolean) ∈ wsX4_bestFor := mb_X4_bestFor_wsX4_bestFor_r4 (List.mem_of_getElem? (i := 0) rfl)
theorem ggX4_bestFor_X3_mealBehind : GoodIn wsX4_bestFor wsX3_mealBehind := goodIn_sub (by unfold wsX3_mealBehind; exact List.forall_mem_cons.mpr ⟨mx_X4_bestFor_36, List.forall_mem_append.mpr ⟨List.forall_mem_append.mpr ⟨(by unfold wsX3_mealBehind_r1; exact List.forall_mem_cons.mpr ⟨mx_X4_bestFor_21, List.forall_mem_cons.mpr ⟨mx_X4_bestFor_37, List.forall_mem_cons.mpr ⟨mx_X4_bestFor_38, List.forall_mem_cons.mpr ⟨mx_X4_bestFor_39, List.forall_mem_cons.mpr ⟨mx_X4_bestFor_14, List.forall_mem_cons.mpr ⟨mx_X4_bestFor_40, List.forall_mem_cons.mpr ⟨mx_X4_bestFor_23, List.forall_mem_cons.mpr ⟨mx_X4_bestFor_20, List.forall_mem_cons.mpr ⟨mx_X4_bestFor_41, List.forall_mem_cons.mpr ⟨mx_X4_bestFor_42, List.forall_mem_cons.mpr ⟨mx_X4_bestFor_43, List.forall_mem_cons.mpr ⟨mx_X4_bestFor_44, List.forall_mem_cons.mpr ⟨mx_X4_bestFor_22, List.forall_mem_cons.mpr ⟨mx_X4_bestFor_24, List.forall_mem_cons.mpr ⟨mx_X4_bestFor_45, List.forall_mem_cons.mpr ⟨mx_X4_bestFor_46, List.forall_mem_cons.mpr ⟨mx_X4_bestFor_47, List.forall_mem_cons.mpr ⟨mx_X4_bestFor_48, List.forall_mem_cons.mpr ⟨mx_X4_bestFor_30, List.forall_mem_cons.mpr ⟨mx_X4_bestFor_32, List.forall_mem_cons.mpr ⟨mx_X4_bestFor_49, List.forall_mem_cons.mpr ⟨mx_X4_bestFor_9, List.forall_mem_cons.mpr ⟨mx_X4_bestFor_6, List.forall_mem_cons.mpr ⟨mx_X4_bestFor_10, fun _ h_ => absurd h_ List.not_mem_nil⟩⟩⟩⟩⟩⟩⟩⟩⟩⟩⟩⟩⟩⟩⟩⟩⟩⟩⟩⟩⟩⟩⟩⟩), List.forall_mem_append.mpr ⟨(by unfold wsX3_mealBehind_r2; exact List.forall_mem_cons.mpr ⟨mx_X4_bestFor_50, List.forall_mem_cons.mpr ⟨mx_X4_bestFor_51, List.forall_mem_cons.mpr ⟨mx_X4_bestFor_52, List.forall_mem_cons.mpr ⟨mx_X4_bestFor_53, List.forall_mem_cons.mpr ⟨mx_X4_bestFor_54, List.forall_mem_cons.mpr ⟨mx_X4_bestFor_55, List.forall_mem_cons.mpr ⟨mx_X4_bestFor_56, List.forall_mem_cons.mpr ⟨mx_X4_bestFor_57, List.forall_mem_cons.mpr ⟨mx_X4_bestFor_29, List.forall_mem_cons.mpr ⟨mx_X4_bestFor_58, List.forall_mem_cons.mpr ⟨mx_X4_bestFor_59, List.forall_mem_cons.mpr ⟨mx_X4_bestFor_60, List.forall_mem_cons.mpr ⟨mx_X4_bestFor_61, List.forall_mem_cons.mpr ⟨mx_X4_bestFor_31, List.forall_mem_cons.mpr ⟨mx_X4_bestFor_62, List.forall_mem_cons.mpr ⟨mx_X4_bestFor_63, List.forall_mem_cons.mpr ⟨mx_X4_bestFor_64, List.forall_mem_cons.mpr ⟨mx_X4_bestFor_65, List.forall_mem_cons.mpr ⟨mx_X4_bestFor_16, List.forall_mem_cons.mpr ⟨mx_X4_bestFor_66, List.forall_mem_cons.mpr ⟨mx_X4_bestFor_67, List.forall_mem_cons.mpr ⟨mx_X4_bestFor_68, List.forall_mem_cons.mpr ⟨mx_X4_bestFor_69, List.forall_mem_cons.mpr ⟨mx_X4_bestFor_70, fun _ h_ => absurd h_ List.not_mem_nil⟩⟩⟩⟩⟩⟩⟩⟩⟩⟩⟩⟩⟩⟩⟩⟩⟩⟩⟩⟩⟩⟩⟩⟩), (by unfold wsX3_mealBehind_r3; exact List.forall_mem_cons.mpr ⟨mx_X4_bestFor_71, List.forall_mem_cons.mpr ⟨mx_X4_bestFor_72, List.forall_mem_cons.mpr ⟨mx_X4_bestFor_73, List.forall_mem_cons.mpr ⟨mx_X4_bestFor_19, List.forall_mem_cons.mpr ⟨mx_X4_bestFor_17, List.forall_mem_cons.mpr ⟨mx_X4_bestFor_18, fun _ h_ => absurd h_ List.not_mem_nil⟩⟩⟩⟩⟩⟩)⟩⟩, (fun _ h_ => mb_X4_bestFor_wsX30 h_)⟩⟩) (by decide +kernel)
theorem mx_X4_bestFor_33 : Cond.methodLink RX4 37 yX3_mealBehind ∈ wsX4_bestFor := mb_X4_bestFor_wsX4_bestFor_r2 (List.mem_of_getElem? (i := 8) rfl)
theorem mx_X4_bestFor_34 : Cond.instanceMethod yX3_mealBehind ∈ wsX4_bestFor := mb_X4_bestFor_wsX4_bestFor_r2 (List.mem_of_getElem? (i := 9) rfl)
theorem mx_X4_bestFor_35 : Cond.selects RX3 yX3_mealBehind yX3_mealBehind ∈ wsX4_bestFor := mb_X4_bestFor_wsX4_bestFor_r2 (List.mem_of_getElem? (i := 10) rfl)
theorem gX4_bestFor_X3_mealBehind : GoodIn wsX4_bestFor (wsV RX4 37 RX3 yX3_mealBehind wsX3_mealBehind) := goodIn_app (goodIn_sub (List.forall_mem_cons.mpr ⟨mx_X4_bestFor_33, List.forall_mem_cons.mpr ⟨mx_X4_bestFor_34, List.forall_mem_cons.mpr ⟨mx_X4_bestFor_35, List.forall_mem_cons.mpr ⟨mx_X4_bestFor_14, fun _ h_ => absurd h_ List.not_mem_nil⟩⟩⟩⟩) (by decide +kernel)) ggX4_bestFor_X3_mealBehind
theorem mx_X4_bestFor_0 : Cond.code yX4_bestFor cX4_bestFor 5 (some .int) ∈ wsX4_bestFor := by unfold wsX4_bestFor; exact List.mem_cons_self
theorem mx_X4_bestFor_1 : Cond.fieldLink RX4 16 "MillTalk$Play" "outcome" "LMillTalk$Level;" ∈ wsX4_bestFor := mb_X4_bestFor_wsX4_bestFor_r1 (List.mem_of_getElem? (i := 0) rfl)
theorem mx_X4_bestFor_2 : Cond.fieldLink RX4 10 "MillTalk$Play" "board" "LMillTalk$Level;" ∈ wsX4_bestFor := mb_X4_bestFor_wsX4_bestFor_r1 (List.mem_of_getElem? (i := 1) rfl)
theorem mx_X4_bestFor_3 : Cond.fieldLink RX4 23 "MillTalk$Play" "hours" "I" ∈ wsX4_bestFor := mb_X4_bestFor_wsX4_bestFor_r1 (List.mem_of_getElem? (i := 2) rfl)
theorem mx_X4_bestFor_4 : Cond.methodLink RX4 45 Lib.Math.max.name ∈ wsX4_bestFor := mb_X4_bestFor_wsX4_bestFor_r1 (List.mem_of_getElem? (i := 3) rfl)
theorem mx_X4_bestFor_5 : Cond.static Lib.Math.max.name ∈ wsX4_bestFor := mb_X4_bestFor_wsX4_bestFor_r1 (List.mem_of_getElem? (i := 4) rfl)
theorem mx_X4_bestFor_7 : Cond.code Lib.Math.max.name Lib.Math.max.code 2 (some .int) ∈ wsX4_bestFor := mb_X4_bestFor_wsX4_bestFor_r1 (List.mem_of_getElem? (i := 6) rfl)
theorem mx_X4_bestFor_8 : Cond.methodLink RX4 27 Lib.Math.min.name ∈ wsX4_bestFor := mb_X4_bestFor_wsX4_bestFor_r1 (List.mem_of_getElem? (i := 7) rfl)
theorem mx_X4_bestFor_74 : Cond.methodLink RX4 33 yX4_bestFor ∈ wsX4_bestFor := mb_X4_bestFor_wsX4_bestFor_r4 (List.mem_of_getElem? (i := 1) rfl)
theorem mx_X4_bestFor_75 : Cond.instanceMethod yX4_bestFor ∈ wsX4_bestFor := mb_X4_bestFor_wsX4_bestFor_r4 (List.mem_of_getElem? (i := 2) rfl)
theorem mx_X4_bestFor_76 : Cond.selects RX4 yX4_bestFor yX4_bestFor ∈ wsX4_bestFor := mb_X4_bestFor_wsX4_bestFor_r4 (List.mem_of_getElem? (i := 3) rfl)
theorem mx_X4_bestFor_77 : Cond.initialized RX4 ∈ wsX4_bestFor := mb_X4_bestFor_wsX4_bestFor_r4 (List.mem_of_getElem? (i := 4) rfl)
theorem mx_X4_bestFor_78 : Cond.methodLink RX4 41 yX4_turn ∈ wsX4_bestFor := mb_X4_bestFor_wsX4_bestFor_r4 (List.mem_of_getElem? (i := 5) rfl)
theorem mx_X4_bestFor_79 : Cond.instanceMethod yX4_turn ∈ wsX4_bestFor := mb_X4_bestFor_wsX4_bestFor_r4 (List.mem_of_getElem? (i := 6) rfl)
theorem mx_X4_bestFor_80 : Cond.selects RX4 yX4_turn yX4_turn ∈ wsX4_bestFor := mb_X4_bestFor_wsX4_bestFor_r4 (List.mem_of_getElem? (i := 7) rfl)
theorem mx_X4_bestFor_81 : Cond.code yX4_turn cX4_turn 2 none ∈ wsX4_bestFor := mb_X4_bestFor_wsX4_bestFor_r4 (List.mem_of_getElem? (i := 8) rfl)
theorem mx_X4_bestFor_82 : Cond.methodLink RX4 48 yX3_turnCap ∈ wsX4_bestFor := mb_X4_bestFor_wsX4_bestFor_r4 (List.mem_of_getElem? (i := 9) rfl)
theorem mx_X4_bestFor_83 : Cond.instanceMethod yX3_turnCap ∈ wsX4_bestFor := mb_X4_bestFor_wsX4_bestFor_r4 (List.mem_of_getElem? (i := 10) rfl)
theorem mx_X4_bestFor_84 : Cond.selects RX3 yX3_turnCap yX3_turnCap ∈ wsX4_bestFor := mb_X4_bestFor_wsX4_bestFor_r4 (List.mem_of_getElem? (i := 11) rfl)
theorem mx_X4_bestFor_85 : Cond.code yX3_turnCap cX3_turnCap 1 none ∈ wsX4_bestFor := mb_X4_bestFor_wsX4_bestFor_r4 (List.mem_of_getElem? (i := 12) rfl)
theorem mx_X4_bestFor_86 : Cond.methodLink RX4 51 yX3_turnWind ∈ wsX4_bestFor := mb_X4_bestFor_wsX4_bestFor_r4 (List.mem_of_getElem? (i := 13) rfl)
theorem mx_X4_bestFor_87 : Cond.instanceMethod yX3_turnWind ∈ wsX4_bestFor := mb_X4_bestFor_wsX4_bestFor_r4 (List.mem_of_getElem? (i := 14) rfl)
theorem mx_X4_bestFor_88 : Cond.selects RX3 yX3_turnWind yX3_turnWind ∈ wsX4_bestFor := mb_X4_bestFor_wsX4_bestFor_r4 (List.mem_of_getElem? (i := 15) rfl)
theorem mx_X4_bestFor_89 : Cond.code yX3_turnWind cX3_turnWind 2 none ∈ wsX4_bestFor := mb_X4_bestFor_wsX4_bestFor_r4 (List.mem_of_getElem? (i := 16) rfl)
theorem mb_X4_bestFor_wsX40 {w : Cond} (h : w ∈ wsX40) : w ∈ wsX4_bestFor := by unfold wsX4_bestFor; exact List.mem_cons_of_mem _ (List.mem_append_left _ (List.mem_append_right _ (h)))
theorem ggX4_bestFor_X4_bestFor : GoodIn wsX4_bestFor wsX4_bestFor := goodIn_sub (by unfold wsX4_bestFor; exact List.forall_mem_cons.mpr ⟨mx_X4_bestFor_0, List.forall_mem_append.mpr ⟨List.forall_mem_append.mpr ⟨List.forall_mem_append.mpr ⟨(by unfold wsX4_bestFor_r1; exact List.forall_mem_cons.mpr ⟨mx_X4_bestFor_1, List.forall_mem_cons.mpr ⟨mx_X4_bestFor_2, List.forall_mem_cons.mpr ⟨mx_X4_bestFor_3, List.forall_mem_cons.mpr ⟨mx_X4_bestFor_4, List.forall_mem_cons.mpr ⟨mx_X4_bestFor_5, List.forall_mem_cons.mpr ⟨mx_X4_bestFor_6, List.forall_mem_cons.mpr ⟨mx_X4_bestFor_7, List.forall_mem_cons.mpr ⟨mx_X4_bestFor_8, List.forall_mem_cons.mpr ⟨mx_X4_bestFor_9, List.forall_mem_cons.mpr ⟨mx_X4_bestFor_10, List.forall_mem_cons.mpr ⟨mx_X4_bestFor_11, List.forall_mem_cons.mpr ⟨mx_X4_bestFor_12, List.forall_mem_cons.mpr ⟨mx_X4_bestFor_13, List.forall_mem_cons.mpr ⟨mx_X4_bestFor_14, List.forall_mem_cons.mpr ⟨mx_X4_bestFor_15, List.forall_mem_cons.mpr ⟨mx_X4_bestFor_16, List.forall_mem_cons.mpr ⟨mx_X4_bestFor_17, List.forall_mem_cons.mpr ⟨mx_X4_bestFor_18, List.forall_mem_cons.mpr ⟨mx_X4_bestFor_19, List.forall_mem_cons.mpr ⟨mx_X4_bestFor_20, List.forall_mem_cons.mpr ⟨mx_X4_bestFor_21, List.forall_mem_cons.mpr ⟨mx_X4_bestFor_22, List.forall_mem_cons.mpr ⟨mx_X4_bestFor_23, List.forall_mem_cons.mpr ⟨mx_X4_bestFor_24, fun _ h_ => absurd h_ List.not_mem_nil⟩⟩⟩⟩⟩⟩⟩⟩⟩⟩⟩⟩⟩⟩⟩⟩⟩⟩⟩⟩⟩⟩⟩⟩), List.forall_mem_append.mpr ⟨(by unfold wsX4_bestFor_r2; exact List.forall_mem_cons.mpr ⟨mx_X4_bestFor_25, List.forall_mem_cons.mpr ⟨mx_X4_bestFor_26, List.forall_mem_cons.mpr ⟨mx_X4_bestFor_27, List.forall_mem_cons.mpr ⟨mx_X4_bestFor_28, List.forall_mem_cons.mpr ⟨mx_X4_bestFor_29, List.forall_mem_cons.mpr ⟨mx_X4_bestFor_30, List.forall_mem_cons.mpr ⟨mx_X4_bestFor_31, List.forall_mem_cons.mpr ⟨mx_X4_bestFor_32, List.forall_mem_cons.mpr ⟨mx_X4_bestFor_33, List.forall_mem_cons.mpr ⟨mx_X4_bestFor_34, List.forall_mem_cons.mpr ⟨mx_X4_bestFor_35, List.forall_mem_cons.mpr ⟨mx_X4_bestFor_36, List.forall_mem_cons.mpr ⟨mx_X4_bestFor_37, List.forall_mem_cons.mpr ⟨mx_X4_bestFor_38, List.forall_mem_cons.mpr ⟨mx_X4_bestFor_39, List.forall_mem_cons.mpr ⟨mx_X4_bestFor_40, List.forall_mem_cons.mpr ⟨mx_X4_bestFor_41, List.forall_mem_cons.mpr ⟨mx_X4_bestFor_42, List.forall_mem_cons.mpr ⟨mx_X4_bestFor_43, List.forall_mem_cons.mpr ⟨mx_X4_bestFor_44, List.forall_mem_cons.mpr ⟨mx_X4_bestFor_45, List.forall_mem_cons.mpr ⟨mx_X4_bestFor_46, List.forall_mem_cons.mpr ⟨mx_X4_bestFor_47, List.forall_mem_cons.mpr ⟨mx_X4_bestFor_48, fun _ h_ => absurd h_ List.not_mem_nil⟩⟩⟩⟩⟩⟩⟩⟩⟩⟩⟩⟩⟩⟩⟩⟩⟩⟩⟩⟩⟩⟩⟩⟩), List.forall_mem_append.mpr ⟨(by unfold wsX4_bestFor_r3; exact List.forall_mem_cons.mpr ⟨mx_X4_bestFor_49, List.forall_mem_cons.mpr ⟨mx_X4_bestFor_50, List.forall_mem_cons.mpr ⟨mx_X4_bestFor_51, List.forall_mem_cons.mpr ⟨mx_X4_bestFor_52, List.forall_mem_cons.mpr ⟨mx_X4_bestFor_53, List.forall_mem_cons.mpr ⟨mx_X4_bestFor_54, List.forall_mem_cons.mpr ⟨mx_X4_bestFor_55, List.forall_mem_cons.mpr ⟨mx_X4_bestFor_56, List.forall_mem_cons.mpr ⟨mx_X4_bestFor_57, List.forall_mem_cons.mpr ⟨mx_X4_bestFor_58, List.forall_mem_cons.mpr ⟨mx_X4_bestFor_59, List.forall_mem_cons.mpr ⟨mx_X4_bestFor_60, List.forall_mem_cons.mpr ⟨mx_X4_bestFor_61, List.forall_mem_cons.mpr ⟨mx_X4_bestFor_62, List.forall_mem_cons.mpr ⟨mx_X4_bestFor_63, List.forall_mem_cons.mpr ⟨mx_X4_bestFor_64, List.forall_mem_cons.mpr ⟨mx_X4_bestFor_65, List.forall_mem_cons.mpr ⟨mx_X4_bestFor_66, List.forall_mem_cons.mpr ⟨mx_X4_bestFor_67, List.forall_mem_cons.mpr ⟨mx_X4_bestFor_68, List.forall_mem_cons.mpr ⟨mx_X4_bestFor_69, List.forall_mem_cons.mpr ⟨mx_X4_bestFor_70, List.forall_mem_cons.mpr ⟨mx_X4_bestFor_71, List.forall_mem_cons.mpr ⟨mx_X4_bestFor_72, fun _ h_ => absurd h_ List.not_mem_nil⟩⟩⟩⟩⟩⟩⟩⟩⟩⟩⟩⟩⟩⟩⟩⟩⟩⟩⟩⟩⟩⟩⟩⟩), (by unfold wsX4_bestFor_r4; exact List.forall_mem_cons.mpr ⟨mx_X4_bestFor_73, List.forall_mem_cons.mpr ⟨mx_X4_bestFor_74, List.forall_mem_cons.mpr ⟨mx_X4_bestFor_75, List.forall_mem_cons.mpr ⟨mx_X4_bestFor_76, List.forall_mem_cons.mpr ⟨mx_X4_bestFor_77, List.forall_mem_cons.mpr ⟨mx_X4_bestFor_78, List.forall_mem_cons.mpr ⟨mx_X4_bestFor_79, List.forall_mem_cons.mpr ⟨mx_X4_bestFor_80, List.forall_mem_cons.mpr ⟨mx_X4_bestFor_81, List.forall_mem_cons.mpr ⟨mx_X4_bestFor_82, List.forall_mem_cons.mpr ⟨mx_X4_bestFor_83, List.forall_mem_cons.mpr ⟨mx_X4_bestFor_84, List.forall_mem_cons.mpr ⟨mx_X4_bestFor_85, List.forall_mem_cons.mpr ⟨mx_X4_bestFor_86, List.forall_mem_cons.mpr ⟨mx_X4_bestFor_87, List.forall_mem_cons.mpr ⟨mx_X4_bestFor_88, List.forall_mem_cons.mpr ⟨mx_X4_bestFor_89, fun _ h_ => absurd h_ List.not_mem_nil⟩⟩⟩⟩⟩⟩⟩⟩⟩⟩⟩⟩⟩⟩⟩⟩⟩)⟩⟩⟩, (fun _ h_ => mb_X4_bestFor_wsX40 h_)⟩, (fun _ h_ => mb_X4_bestFor_wsX30 h_)⟩⟩) (by decide +kernel)
theorem gX4_bestFor_X4_bestFor : GoodIn wsX4_bestFor (wsV RX4 33 RX4 yX4_bestFor wsX4_bestFor) := goodIn_app (goodIn_sub (List.forall_mem_cons.mpr ⟨mx_X4_bestFor_74, List.forall_mem_cons.mpr ⟨mx_X4_bestFor_75, List.forall_mem_cons.mpr ⟨mx_X4_bestFor_76, List.forall_mem_cons.mpr ⟨mx_X4_bestFor_77, fun _ h_ => absurd h_ List.not_mem_nil⟩⟩⟩⟩) (by decide +kernel)) ggX4_bestFor_X4_bestFor
theorem ggX4_bestFor_X4_turn : GoodIn wsX4_bestFor wsX4_turn := goodIn_sub (by unfold wsX4_turn; exact List.forall_mem_cons.mpr ⟨mx_X4_bestFor_81, List.forall_mem_append.mpr ⟨List.forall_mem_append.mpr ⟨List.forall_mem_cons.mpr ⟨mx_X4_bestFor_2, List.forall_mem_cons.mpr ⟨mx_X4_bestFor_82, List.forall_mem_cons.mpr ⟨mx_X4_bestFor_83, List.forall_mem_cons.mpr ⟨mx_X4_bestFor_84, List.forall_mem_cons.mpr ⟨mx_X4_bestFor_14, List.forall_mem_cons.mpr ⟨mx_X4_bestFor_85, List.forall_mem_cons.mpr ⟨mx_X4_bestFor_19, List.forall_mem_cons.mpr ⟨mx_X4_bestFor_86, List.forall_mem_cons.mpr ⟨mx_X4_bestFor_87, List.forall_mem_cons.mpr ⟨mx_X4_bestFor_88, List.forall_mem_cons.mpr ⟨mx_X4_bestFor_89, List.forall_mem_cons.mpr ⟨mx_X4_bestFor_22, List.forall_mem_cons.mpr ⟨mx_X4_bestFor_20, List.forall_mem_cons.mpr ⟨mx_X4_bestFor_24, fun _ h_ => absurd h_ List.not_mem_nil⟩⟩⟩⟩⟩⟩⟩⟩⟩⟩⟩⟩⟩⟩, (fun _ h_ => mb_X4_bestFor_wsX40 h_)⟩, (fun _ h_ => mb_X4_bestFor_wsX30 h_)⟩⟩) (by decide +kernel)
theorem gX4_bestFor_X4_turn : GoodIn wsX4_bestFor (wsV RX4 41 RX4 yX4_turn wsX4_turn) := goodIn_app (goodIn_sub (List.forall_mem_cons.mpr ⟨mx_X4_bestFor_78, List.forall_mem_cons.mpr ⟨mx_X4_bestFor_79, List.forall_mem_cons.mpr ⟨mx_X4_bestFor_80, List.forall_mem_cons.mpr ⟨mx_X4_bestFor_77, fun _ h_ => absurd h_ List.not_mem_nil⟩⟩⟩⟩) (by decide +kernel)) ggX4_bestFor_X4_turn
theorem mx_X4_turn_6 : Cond.code yX3_turnCap cX3_turnCap 1 none ∈ wsX4_turn := by unfold wsX4_turn; exact List.mem_cons_of_mem _ (List.mem_append_left _ (List.mem_append_left _ (List.mem_of_getElem? (i := 5) rfl)))
theorem mx_X4_turn_7 : Cond.fieldLink RX3 37 "MillTalk$Level" "cap" "I" ∈ wsX4_turn := by unfold wsX4_turn; exact List.mem_cons_of_mem _ (List.mem_append_left _ (List.mem_append_left _ (List.mem_of_getElem? (i := 6) rfl)))
theorem mb_X4_turn_wsX30 {w : Cond} (h : w ∈ wsX30) : w ∈ wsX4_turn := by unfold wsX4_turn; exact List.mem_cons_of_mem _ (List.mem_append_right _ (h))
theorem ggX4_turn_X3_turnCap : GoodIn wsX4_turn wsX3_turnCap := goodIn_sub (by unfold wsX3_turnCap; exact List.forall_mem_cons.mpr ⟨mx_X4_turn_6, List.forall_mem_append.mpr ⟨List.forall_mem_cons.mpr ⟨mx_X4_turn_7, fun _ h_ => absurd h_ List.not_mem_nil⟩, (fun _ h_ => mb_X4_turn_wsX30 h_)⟩⟩) (by decide +kernel)
theorem mx_X4_turn_2 : Cond.methodLink RX4 48 yX3_turnCap ∈ wsX4_turn := by unfold wsX4_turn; exact List.mem_cons_of_mem _ (List.mem_append_left _ (List.mem_append_left _ (List.mem_of_getElem? (i := 1) rfl)))
theorem mx_X4_turn_3 : Cond.instanceMethod yX3_turnCap ∈ wsX4_turn := by unfold wsX4_turn; exact List.mem_cons_of_mem _ (List.mem_append_left _ (List.mem_append_left _ (List.mem_of_getElem? (i := 2) rfl)))
theorem mx_X4_turn_4 : Cond.selects RX3 yX3_turnCap yX3_turnCap ∈ wsX4_turn := by unfold wsX4_turn; exact List.mem_cons_of_mem _ (List.mem_append_left _ (List.mem_append_left _ (List.mem_of_getElem? (i := 3) rfl)))
theorem mx_X4_turn_5 : Cond.initialized RX3 ∈ wsX4_turn := by unfold wsX4_turn; exact List.mem_cons_of_mem _ (List.mem_append_left _ (List.mem_append_left _ (List.mem_of_getElem? (i := 4) rfl)))
theorem gX4_turn_X3_turnCap : GoodIn wsX4_turn (wsV RX4 48 RX3 yX3_turnCap wsX3_turnCap) := goodIn_app (goodIn_sub (List.forall_mem_cons.mpr ⟨mx_X4_turn_2, List.forall_mem_cons.mpr ⟨mx_X4_turn_3, List.forall_mem_cons.mpr ⟨mx_X4_turn_4, List.forall_mem_cons.mpr ⟨mx_X4_turn_5, fun _ h_ => absurd h_ List.not_mem_nil⟩⟩⟩⟩) (by decide +kernel)) ggX4_turn_X3_turnCap
theorem mx_X4_turn_11 : Cond.code yX3_turnWind cX3_turnWind 2 none ∈ wsX4_turn := by unfold wsX4_turn; exact List.mem_cons_of_mem _ (List.mem_append_left _ (List.mem_append_left _ (List.mem_of_getElem? (i := 10) rfl)))
theorem mx_X4_turn_12 : Cond.fieldLink RX3 46 "MillTalk$Level" "windCount" "I" ∈ wsX4_turn := by unfold wsX4_turn; exact List.mem_cons_of_mem _ (List.mem_append_left _ (List.mem_append_left _ (List.mem_of_getElem? (i := 11) rfl)))
theorem mx_X4_turn_13 : Cond.fieldLink RX3 40 "MillTalk$Level" "hour" "I" ∈ wsX4_turn := by unfold wsX4_turn; exact List.mem_cons_of_mem _ (List.mem_append_left _ (List.mem_append_left _ (List.mem_of_getElem? (i := 12) rfl)))
theorem mx_X4_turn_14 : Cond.fieldLink RX3 9 "MillTalk$Level" "winds" "[I" ∈ wsX4_turn := by unfold wsX4_turn; exact List.mem_cons_of_mem _ (List.mem_append_left _ (List.mem_append_left _ (List.mem_of_getElem? (i := 13) rfl)))
theorem ggX4_turn_X3_turnWind : GoodIn wsX4_turn wsX3_turnWind := goodIn_sub (by unfold wsX3_turnWind; exact List.forall_mem_cons.mpr ⟨mx_X4_turn_11, List.forall_mem_append.mpr ⟨List.forall_mem_cons.mpr ⟨mx_X4_turn_12, List.forall_mem_cons.mpr ⟨mx_X4_turn_13, List.forall_mem_cons.mpr ⟨mx_X4_turn_14, fun _ h_ => absurd h_ List.not_mem_nil⟩⟩⟩, (fun _ h_ => mb_X4_turn_wsX30 h_)⟩⟩) (by decide +kernel)
theorem mx_X4_turn_8 : Cond.methodLink RX4 51 yX3_turnWind ∈ wsX4_turn := by unfold wsX4_turn; exact List.mem_cons_of_mem _ (List.mem_append_left _ (List.mem_append_left _ (List.mem_of_getElem? (i := 7) rfl)))
theorem mx_X4_turn_9 : Cond.instanceMethod yX3_turnWind ∈ wsX4_turn := by unfold wsX4_turn; exact List.mem_cons_of_mem _ (List.mem_append_left _ (List.mem_append_left _ (List.mem_of_getElem? (i := 8) rfl)))
theorem mx_X4_turn_10 : Cond.selects RX3 yX3_turnWind yX3_turnWind ∈ wsX4_turn := by unfold wsX4_turn; exact List.mem_cons_of_mem _ (List.mem_append_left _ (List.mem_append_left _ (List.mem_of_getElem? (i := 9) rfl)))
theorem gX4_turn_X3_turnWind : GoodIn wsX4_turn (wsV RX4 51 RX3 yX3_turnWind wsX3_turnWind) := goodIn_app (goodIn_sub (List.forall_mem_cons.mpr ⟨mx_X4_turn_8, List.forall_mem_cons.mpr ⟨mx_X4_turn_9, List.forall_mem_cons.mpr ⟨mx_X4_turn_10, List.forall_mem_cons.mpr ⟨mx_X4_turn_5, fun _ h_ => absurd h_ List.not_mem_nil⟩⟩⟩⟩) (by decide +kernel)) ggX4_turn_X3_turnWind
theorem i_X4_bestFor_X4 : ∀ w ∈ u_ws RX4 TX4 3, w ∈ wsX4_bestFor := fun _ h_ => mb_X4_bestFor_wsX40 h_
theorem mb_X4_turn_wsX40 {w : Cond} (h : w ∈ wsX40) : w ∈ wsX4_turn := by unfold wsX4_turn; exact List.mem_cons_of_mem _ (List.mem_append_left _ (List.mem_append_right _ (h)))
theorem i_X4_turn_X4 : ∀ w ∈ u_ws RX4 TX4 3, w ∈ wsX4_turn := fun _ h_ => mb_X4_turn_wsX40 h_
theorem mx_X4_turn_1 : Cond.fieldLink RX4 10 "MillTalk$Play" "board" "LMillTalk$Level;" ∈ wsX4_turn := by unfold wsX4_turn; exact List.mem_cons_of_mem _ (List.mem_append_left _ (List.mem_append_left _ (List.mem_of_getElem? (i := 0) rfl)))
