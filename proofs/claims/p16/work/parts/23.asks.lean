theorem lf_X1_isAsk_1 {x : Int32} (c_1 : x = 0) : (x = 0 ∨ x = 1) := by
  grind
theorem lf_X1_isAsk_2 {x : Int32} (c_1 : ¬ (x = 0)) (c_2 : ¬ (x = 1)) : ¬ (x = 0 ∨ x = 1) := by
  grind
theorem lf_X1_isAsk_3 {x : Int32} (c_1 : ¬ (x = 0)) (c_2 : x = 1) : (x = 0 ∨ x = 1) := by
  grind
set_option maxHeartbeats 4000000 in
set_option maxRecDepth 100000 in
theorem r_X1_isAsk (l : Launch) (dC : Nat → ClassId) (dI : Nat → Nat → Nat) (cI cZ cL cJ : ClassId) (x : Int32)  : Met l yX1_isAsk wsX1_isAsk ({ frames := 0, cells := 0, slots := 0, locals := 0 }) (va_Pc [.int x] (fun U => va_P (dC, dI) vwCl [] U.heap ∧ va_K (dC, dI) vwCl [(cI, .int), (cZ, .boolean), (cL, .object RX3), (cJ, .array .int)] U)) (vp_Si (fun r => (r = 0 ∧ ¬ (x = 0 ∨ x = 1)) ∨ (r = 1 ∧ (x = 0 ∨ x = 1)))) 0 0 (fun _ => False) := by
  refine Met.ofW (cc := cX1_isAsk) (maxL := 1) (ret := (some .boolean)) (by decide) rfl ?_
  intro p e s m args below meth c s₁ B hml hv
  obtain ⟨rfl, hP, hK⟩ := hv
  have hx := B.exec
  have hb := B.bytes
  have hr := B.returns
  have hts := atoms_spec (ws := wsX1_isAsk) B.pre
  have hown : s.vm.findClass RX1 = some m.cls := findClass_of_methodNamed B.named
  have hlocks := B.notSynchronized
  have hP : va_P (dC, dI) vwCl [] s.heap := hP
  have hl := lv_entry ([.int x]) (n := 1) (Nat.le_of_ble_eq_true rfl)
  rw [lg_entry_eq]
  generalize (lg_sl ([.int x]) ++ List.replicate (1 - (lg_sl ([.int x])).length) Slot.unset).toArray = ls at hl ⊢
  have hl : lv_has ls 1 [(0, .int x)] := hl
  refine lv_iload_n hx hb dX1_isAsk_0 rfl (lv_at hl 0 rfl) ?_
  refine lv_if_eq (tgt := 9) hx hb dX1_isAsk_1 (by decide) (fun c_1 => ?_) (fun c_1 => ?_)
  · skip
    refine lv_iconst (v := 1) hx hb dX1_isAsk_9 (by decide) ?_
    refine lv_goto (tgt := 14) hx hb dX1_isAsk_10 (by decide) ?_
    exact W.zret (v := 1) hx hb hr (by decide) (fun t ht hW => ⟨1, rfl, Or.inr (⟨rfl, (lf_X1_isAsk_1 c_1)⟩), ht⟩) (fun _ h => by cases h) dX1_isAsk_14
  · skip
    refine lv_iload_n hx hb dX1_isAsk_4 rfl (lv_at hl 0 rfl) ?_
    refine lv_iconst (v := 1) hx hb dX1_isAsk_5 (by decide) ?_
    refine lv_icmp_ne (tgt := 13) hx hb dX1_isAsk_6 (by decide) (fun c_2 => ?_) (fun c_2 => ?_)
    · skip
      refine lv_iconst (v := 0) hx hb dX1_isAsk_13 (by decide) ?_
      exact W.zret (v := 0) hx hb hr (by decide) (fun t ht hW => ⟨0, rfl, Or.inl (⟨rfl, (lf_X1_isAsk_2 c_1 c_2)⟩), ht⟩) (fun _ h => by cases h) dX1_isAsk_14
    · skip
      refine lv_iconst (v := 1) hx hb dX1_isAsk_9 (by decide) ?_
      refine lv_goto (tgt := 14) hx hb dX1_isAsk_10 (by decide) ?_
      exact W.zret (v := 1) hx hb hr (by decide) (fun t ht hW => ⟨1, rfl, Or.inr (⟨rfl, (lf_X1_isAsk_3 c_1 c_2)⟩), ht⟩) (fun _ h => by cases h) dX1_isAsk_14
theorem lf_X1_leave_1 {z : Nat} (hz : z ≤ 16) (c_1 : 16 ≤ z) : z ≤ 16 := by
  first | omega | (simp only [lvX]; grind)
theorem lf_X1_leave_2 {z : Nat} {ft : Nat → Int32} {x : Int32} (hz : z ≤ 16) (c_1 : 16 ≤ z) : lvX x (z, ft) = (z, ft) := by
  first | omega | (simp only [lvX]; grind)
theorem lf_X1_leave_3 {z : Nat} {ft : Nat → Int32} {x : Int32} {g_2 : Nat → Int32} (hz : z ≤ 16) (c_1 : ¬ (16 ≤ z)) (hu_2 : g_2 = upd ft z x) : (z + 1) ≤ 16 := by
  first | omega | (simp only [lvX]; grind)
theorem lf_X1_leave_4 {z : Nat} {ft : Nat → Int32} {x : Int32} {g_2 : Nat → Int32} (hz : z ≤ 16) (c_1 : ¬ (16 ≤ z)) (hu_2 : g_2 = upd ft z x) : lvX x (z, ft) = ((z + 1), g_2) := by
  first | omega | (simp only [lvX]; grind)
set_option maxHeartbeats 4000000 in
set_option maxRecDepth 100000 in
theorem r_X1_leave (l : Launch) (dC : Nat → ClassId) (dI : Nat → Nat → Nat) (cI cZ cL cJ : ClassId) (sz : Nat) (k9 : Nat) (tc : Nat) (z : Nat) (nu : Int32) (ki : Int32) (ce : Int32) (lo : Int32) (ft : Nat → Int32) (x : Int32) (hz : z ≤ 16) : Met l yX1_leave wsX1_leave ({ frames := 0, cells := 0, slots := 0, locals := 0 }) (va_Pc [.ref k9, .int x] (fun U => U.heap.size = sz ∧ va_P (dC, dI) vwCl [(xo_1_riiiii k9 tc (nI z) nu ki ce lo), (xI tc cI 16 ft)] U.heap ∧ va_K (dC, dI) vwCl [(cI, .int), (cZ, .boolean), (cL, .object RX3), (cJ, .array .int)] U ∧ va_D (fun _ => True) [(xo_1_riiiii k9 tc (nI z) nu ki ce lo), (xI tc cI 16 ft)])) (va_Qv (fun (_ : Unit) => True) (fun (_ : Unit) t => ∃ (zn : Nat) (ftn : Nat → Int32), va_P (dC, dI) vwCl [(xo_1_riiiii k9 tc (nI zn) nu ki ce lo), (xI tc cI 16 ftn)] t.heap ∧ va_D (va_A [(xo_1_riiiii k9 tc (nI z) nu ki ce lo), (xI tc cI 16 ft)] sz) [(xo_1_riiiii k9 tc (nI zn) nu ki ce lo), (xI tc cI 16 ftn)] ∧ zn ≤ 16 ∧ lvX x (z, ft) = (zn, ftn)) (va_A [(xo_1_riiiii k9 tc (nI z) nu ki ce lo), (xI tc cI 16 ft)] sz)) 0 0 (va_A [(xo_1_riiiii k9 tc (nI z) nu ki ce lo), (xI tc cI 16 ft)] sz) := by
  refine Met.ofW (cc := cX1_leave) (maxL := 2) (ret := none) (by decide) rfl ?_
  intro p e s m args below meth c s₁ B hml hv
  obtain ⟨rfl, hsz, hP, hK, hD0⟩ := hv
  have hx := B.exec
  have hb := B.bytes
  have hr := B.returns
  have hts := atoms_spec (ws := wsX1_leave) B.pre
  have hown : s.vm.findClass RX1 = some m.cls := findClass_of_methodNamed B.named
  have hlocks := B.notSynchronized
  subst hsz
  have hD := hD0.self (sz := s.heap.size)
  generalize hAe : va_A [(xo_1_riiiii k9 tc (nI z) nu ki ce lo), (xI tc cI 16 ft)] s.heap.size = A at hD ⊢
  have hA : ∀ q : Nat, s.heap.size ≤ q → A q := fun q h => by rw [← hAe]; exact Or.inr h
  have hS : va_S A s.heap s.heap [] := va_S.rf
  have hP : va_P (dC, dI) vwCl [(xo_1_riiiii k9 tc (nI z) nu ki ce lo), (xI tc cI 16 ft)] s.heap := hP
  have hl := lv_entry ([.ref k9, .int x]) (n := 2) (Nat.le_of_ble_eq_true rfl)
  rw [lg_entry_eq]
  generalize (lg_sl ([.ref k9, .int x]) ++ List.replicate (2 - (lg_sl ([.ref k9, .int x])).length) Slot.unset).toArray = ls at hl ⊢
  have hl : lv_has ls 2 [(0, .ref k9), (1, .int x)] := hl
  refine lv_aload_n hx hb dX1_leave_0 rfl (lv_at hl 0 rfl) ?_
  refine va_get (D := (dC, dI)) (ci := 1) (v := .int (nI z)) (C := RX1) (T := TX1) (N := 6) hx hb hts i_X1_leave_X1 hown hK hP 0 rfl rfl 1 (by decide) (hts _ mx_X1_leave_1) (fun _ h9 => h9) rfl dX1_leave_1 ?_
  refine lv_bipush (v := 16) hx hb dX1_leave_4 (by decide) ?_
  refine lv_icmp_ge (tgt := 29) hx hb dX1_leave_6 (by decide) (fun c_1 => ?_) (fun c_1 => ?_)
  · have c_1 : 16 ≤ z := (nI_leI (a := 16) (b := z) (by omega) (by omega)).mp c_1
    have hX9 := cut2 (wc := [(xo_1_riiiii k9 tc (nI z) nu ki ce lo), (xI tc cI 16 ft)]) hP hD [0, 1] (by decide +kernel) rfl
    exact W.vret hx hb hr (fun t ht hW => ⟨⟨(), rfl, trivial, ⟨z, ft, va_Ht ht hX9.1, hX9.2, (lf_X1_leave_1 hz c_1), (lf_X1_leave_2 hz c_1)⟩⟩, hS.F ht⟩) hS.2.2 dX1_leave_29
  · have c_1 : ¬ (16 ≤ z) := fun q_ => c_1 ((nI_leI (a := 16) (b := z) (by omega) (by omega)).mpr q_)
    refine lv_aload_n hx hb dX1_leave_9 rfl (lv_at hl 0 rfl) ?_
    refine va_get (D := (dC, dI)) (ci := 1) (v := .ref tc) (C := RX1) (T := TX1) (N := 6) hx hb hts i_X1_leave_X1 hown hK hP 0 rfl rfl 0 (by decide) (hts _ mx_X1_leave_2) (fun _ h9 => h9) rfl dX1_leave_10 ?_
    refine lv_aload_n hx hb dX1_leave_13 rfl (lv_at hl 0 rfl) ?_
    refine va_get (D := (dC, dI)) (ci := 1) (v := .int (nI z)) (C := RX1) (T := TX1) (N := 6) hx hb hts i_X1_leave_X1 hown hK hP 0 rfl rfl 1 (by decide) (hts _ mx_X1_leave_1) (fun _ h9 => h9) rfl dX1_leave_14 ?_
    refine lv_iload_n hx hb dX1_leave_17 rfl (lv_at hl 1 rfl) ?_
    refine va_iast hx hb hK hP hD hS 1 0 rfl rfl (vp_in_nI (by omega) (by omega)) dX1_leave_18 (fun H locs hP hD hS => ?_)
    generalize hg_2 : upd ft ((nI z) : Int32).toNatClampNeg x = g_2 at hP hD
    have hu_2 : g_2 = upd ft z x := (by rw [← hg_2, nI_clamp (by omega)])
    have hP : va_P (dC, dI) vwCl [(xo_1_riiiii k9 tc (nI z) nu ki ce lo), (xI tc cI 16 g_2)] H := hP
    have hD := dto hP hD
    refine lv_aload_n hx hb dX1_leave_19 rfl (lv_at hl 0 rfl) ?_
    refine lv_dup hx hb dX1_leave_20 rfl ?_
    refine va_get (D := (dC, dI)) (ci := 1) (v := .int (nI z)) (C := RX1) (T := TX1) (N := 6) hx hb hts i_X1_leave_X1 hown hK hP 0 rfl rfl 1 (by decide) (hts _ mx_X1_leave_1) (fun _ h9 => h9) rfl dX1_leave_21 ?_
    refine lv_iconst (v := 1) hx hb dX1_leave_24 (by decide) ?_
    refine lv_iadd hx hb dX1_leave_25 ?_
    refine lv_topi (fun v_3 e_3 => ?_)
    obtain rfl : v_3 = (nI (z + 1)) := (e_3).trans (nI_add z 1)
    refine va_put (D := (dC, dI)) (ci := 1) (v := .int (nI (z + 1))) (ty := .int) (C := RX1) (T := TX1) (N := 6) hx hb hts i_X1_leave_X1 tyX1 tyX1_ok nmX1 hown hK hP hD hS 0 rfl rfl 1 (by decide) (hts _ mx_X1_leave_1) (fun _ h9 => h9) rfl (by decide +kernel) rfl rfl (Nat.le_of_ble_eq_true rfl) dX1_leave_26 (fun H locs hP hD hS => ?_)
    have hP : va_P (dC, dI) vwCl [(xo_1_riiiii k9 tc (nI (z + 1)) nu ki ce lo), (xI tc cI 16 g_2)] H := hP
    have hD := dto hP hD
    have hX9 := cut2 (wc := [(xo_1_riiiii k9 tc (nI (z + 1)) nu ki ce lo), (xI tc cI 16 g_2)]) hP hD [0, 1] (by decide +kernel) rfl
    exact W.vret hx hb hr (fun t ht hW => ⟨⟨(), rfl, trivial, ⟨(z + 1), g_2, va_Ht ht hX9.1, hX9.2, (lf_X1_leave_3 hz c_1 hu_2), (lf_X1_leave_4 hz c_1 hu_2)⟩⟩, hS.F ht⟩) hS.2.2 dX1_leave_29
theorem lf_X1_bodyFor_1  (ha1 : 1 ≤ 1) (ha5 : 1 ≤ 5) : 11 = (bfX 1 (0 : Int32)) := by
  decide
theorem lf_X1_bodyFor_2  (ha1 : 1 ≤ 2) (ha5 : 2 ≤ 5) : 12 = (bfX 2 (0 : Int32)) := by
  decide
theorem lf_X1_bodyFor_3  (ha1 : 1 ≤ 3) (ha5 : 3 ≤ 5) : 11 = (bfX 3 (0 : Int32)) := by
  decide
theorem lf_X1_bodyFor_4  (ha1 : 1 ≤ 4) (ha5 : 4 ≤ 5) : 13 = (bfX 4 (0 : Int32)) := by
  decide
theorem lf_X1_bodyFor_5  (ha1 : 1 ≤ 5) (ha5 : 5 ≤ 5) : 14 = (bfX 5 (0 : Int32)) := by
  decide
theorem lf_X1_bodyFor_6  (ha1 : 1 ≤ 1) (ha5 : 1 ≤ 5) : 21 = (bfX 1 (1 : Int32)) := by
  decide
theorem lf_X1_bodyFor_7  (ha1 : 1 ≤ 2) (ha5 : 2 ≤ 5) : 24 = (bfX 2 (1 : Int32)) := by
  decide
theorem lf_X1_bodyFor_8  (ha1 : 1 ≤ 3) (ha5 : 3 ≤ 5) : 22 = (bfX 3 (1 : Int32)) := by
  decide
theorem lf_X1_bodyFor_9  (ha1 : 1 ≤ 4) (ha5 : 4 ≤ 5) : 23 = (bfX 4 (1 : Int32)) := by
  decide
theorem lf_X1_bodyFor_10  (ha1 : 1 ≤ 5) (ha5 : 5 ≤ 5) : 23 = (bfX 5 (1 : Int32)) := by
  decide
set_option maxHeartbeats 4000000 in
set_option maxRecDepth 100000 in
theorem r_X1_bodyFor (l : Launch) (dC : Nat → ClassId) (dI : Nat → Nat → Nat) (cI cZ cL cJ : ClassId) (k9 : Nat) (tc : Nat) (z : Nat) (a : Nat) (nu : Int32) (ce : Int32) (lo : Int32) (x : Int32) (ha1 : 1 ≤ a) (ha5 : a ≤ 5) (hx01 : x = 0 ∨ x = 1) : Met l yX1_bodyFor wsX1_bodyFor ({ frames := 0, cells := 0, slots := 0, locals := 0 }) (va_Pc [.ref k9, .int x] (fun U => va_P (dC, dI) vwCl [(xo_1_riiiii k9 tc (nI z) nu (nI a) ce lo)] U.heap ∧ va_K (dC, dI) vwCl [(cI, .int), (cZ, .boolean), (cL, .object RX3), (cJ, .array .int)] U ∧ stt (fun _ => False) U U.heap)) (vp_Si (fun r => r = (bfX a x))) 0 0 (fun _ => False) := by
  refine Met.ofW (cc := cX1_bodyFor) (maxL := 5) (ret := (some .int)) (by decide) rfl ?_
  intro p e s m args below meth c s₁ B hml hv
  obtain ⟨rfl, hP, hK, hst⟩ := hv
  have hx := B.exec
  have hb := B.bytes
  have hr := B.returns
  have hts := atoms_spec (ws := wsX1_bodyFor) B.pre
  have hown : s.vm.findClass RX1 = some m.cls := findClass_of_methodNamed B.named
  have hlocks := B.notSynchronized
  have hP : va_P (dC, dI) vwCl [(xo_1_riiiii k9 tc (nI z) nu (nI a) ce lo)] s.heap := hP
  obtain ⟨⟨tb1, hZ1, hT1⟩, ⟨tb2, hZ2, hT2⟩, ⟨tb3, hZ3, hT3⟩, hNk⟩ := id hst
  have hl := lv_entry ([.ref k9, .int x]) (n := 5) (Nat.le_of_ble_eq_true rfl)
  rw [lg_entry_eq]
  generalize (lg_sl ([.ref k9, .int x]) ++ List.replicate (5 - (lg_sl ([.ref k9, .int x])).length) Slot.unset).toArray = ls at hl ⊢
  have hl : lv_has ls 5 [(0, .ref k9), (1, .int x)] := hl
  rcases hx01 with rfl | rfl
  · skip
    have hl : lv_has ls 5 [(0, .ref k9), (1, .int 0)] := hl
    rcases (show a = 1 ∨ a = 2 ∨ a = 3 ∨ a = 4 ∨ a = 5 by omega) with rfl | rfl | rfl | rfl | rfl
    · skip
      have hP : va_P (dC, dI) vwCl [(xo_1_riiiii k9 tc (nI z) nu 1 ce lo)] s.heap := hP
      refine lv_aload_n hx hb dX1_bodyFor_0 rfl (lv_at hl 0 rfl) ?_
      refine va_get (D := (dC, dI)) (ci := 1) (v := .int 1) (C := RX1) (T := TX1) (N := 6) hx hb hts i_X1_bodyFor_X1 hown hK hP 0 rfl rfl 3 (by decide) (hts _ mx_X1_bodyFor_1) (fun _ h9 => h9) rfl dX1_bodyFor_1 ?_
      refine lv_istore_n (lv' := [(2, .int 1), (0, .ref k9), (1, .int 0)]) hx hb dX1_bodyFor_4 rfl hl (by decide) rfl (fun ls hl => ?_)
      refine lv_iconst (v := 0) hx hb dX1_bodyFor_5 (by decide) ?_
      refine lv_istore_n (lv' := [(3, .int 0), (2, .int 1), (0, .ref k9), (1, .int 0)]) hx hb dX1_bodyFor_6 rfl hl (by decide) rfl (fun ls hl => ?_)
      refine lv_iload_n hx hb dX1_bodyFor_7 rfl (lv_at hl 0 rfl) ?_
      refine va_getsN hx hb hZ1 va_S.rf hown (va_Nw.use rfl hNk) (fun _ h9 => h9) dX1_bodyFor_8 ?_
      refine va_tlen (v := 6) hx hb hT1 va_S.rf (by decide) dX1_bodyFor_11 ?_
      refine lv_icmp_ge (tgt := 66) hx hb dX1_bodyFor_12 (by decide) (fun c_ => absurd c_ (by decide)) (fun _ => ?_)
      refine lv_iload_n hx hb dX1_bodyFor_15 rfl (lv_at hl 1 rfl) ?_
      refine lv_if_le (tgt := 66) hx hb dX1_bodyFor_16 (by decide) (fun c_ => absurd c_ (by decide)) (fun _ => ?_)
      refine lv_iload_n hx hb dX1_bodyFor_19 rfl (lv_at hl 1 rfl) ?_
      refine va_getsN hx hb hZ1 va_S.rf hown (va_Nw.use rfl hNk) (fun _ h9 => h9) dX1_bodyFor_20 ?_
      refine va_tlen (v := 6) hx hb hT1 va_S.rf (by decide) dX1_bodyFor_23 ?_
      refine lv_icmp_ge (tgt := 66) hx hb dX1_bodyFor_24 (by decide) (fun c_ => absurd c_ (by decide)) (fun _ => ?_)
      refine lv_iload_n hx hb dX1_bodyFor_27 rfl (lv_at hl 3 rfl) ?_
      refine lv_if_ne (tgt := 39) hx hb dX1_bodyFor_28 (by decide) (fun c_ => absurd (by decide) c_) (fun _ => ?_)
      refine va_gets hx hb hZ2 va_S.rf hown (hts _ mx_X1_bodyFor_2) (fun _ h9 => h9) dX1_bodyFor_31 ?_
      refine lv_iload_n hx hb dX1_bodyFor_34 rfl (lv_at hl 1 rfl) ?_
      refine va_ti hx hb hT2 va_S.rf (by unfold vp_in; decide) rfl dX1_bodyFor_35 ?_
      refine lv_topi (fun v_5 e_5 => ?_)
      obtain rfl : v_5 = 11 := (e_5).trans (by decide)
      refine lv_goto (tgt := 44) hx hb dX1_bodyFor_36 (by decide) ?_
      refine lv_istore (lv' := [(4, .int 11), (3, .int 0), (2, .int 1), (0, .ref k9), (1, .int 0)]) hx hb dX1_bodyFor_44 hl (by decide) rfl (fun ls hl => ?_)
      refine lv_iload hx hb dX1_bodyFor_46 (lv_at hl 0 rfl) ?_
      refine lv_if_eq (tgt := 54) hx hb dX1_bodyFor_48 (by decide) (fun c_ => absurd c_ (by decide)) (fun _ => ?_)
      refine lv_iload hx hb dX1_bodyFor_51 (lv_at hl 0 rfl) ?_
      exact W.iret (v := 11) hx hb hr (fun t ht hW => ⟨11, rfl, (lf_X1_bodyFor_1 ha1 ha5), ht⟩) (fun _ h => by cases h) dX1_bodyFor_53
    · skip
      have hP : va_P (dC, dI) vwCl [(xo_1_riiiii k9 tc (nI z) nu 2 ce lo)] s.heap := hP
      refine lv_aload_n hx hb dX1_bodyFor_0 rfl (lv_at hl 0 rfl) ?_
      refine va_get (D := (dC, dI)) (ci := 1) (v := .int 2) (C := RX1) (T := TX1) (N := 6) hx hb hts i_X1_bodyFor_X1 hown hK hP 0 rfl rfl 3 (by decide) (hts _ mx_X1_bodyFor_1) (fun _ h9 => h9) rfl dX1_bodyFor_1 ?_
      refine lv_istore_n (lv' := [(2, .int 2), (0, .ref k9), (1, .int 0)]) hx hb dX1_bodyFor_4 rfl hl (by decide) rfl (fun ls hl => ?_)
      refine lv_iconst (v := 0) hx hb dX1_bodyFor_5 (by decide) ?_
      refine lv_istore_n (lv' := [(3, .int 0), (2, .int 2), (0, .ref k9), (1, .int 0)]) hx hb dX1_bodyFor_6 rfl hl (by decide) rfl (fun ls hl => ?_)
      refine lv_iload_n hx hb dX1_bodyFor_7 rfl (lv_at hl 0 rfl) ?_
      refine va_getsN hx hb hZ1 va_S.rf hown (va_Nw.use rfl hNk) (fun _ h9 => h9) dX1_bodyFor_8 ?_
      refine va_tlen (v := 6) hx hb hT1 va_S.rf (by decide) dX1_bodyFor_11 ?_
      refine lv_icmp_ge (tgt := 66) hx hb dX1_bodyFor_12 (by decide) (fun c_ => absurd c_ (by decide)) (fun _ => ?_)
      refine lv_iload_n hx hb dX1_bodyFor_15 rfl (lv_at hl 1 rfl) ?_
      refine lv_if_le (tgt := 66) hx hb dX1_bodyFor_16 (by decide) (fun c_ => absurd c_ (by decide)) (fun _ => ?_)
      refine lv_iload_n hx hb dX1_bodyFor_19 rfl (lv_at hl 1 rfl) ?_
      refine va_getsN hx hb hZ1 va_S.rf hown (va_Nw.use rfl hNk) (fun _ h9 => h9) dX1_bodyFor_20 ?_
      refine va_tlen (v := 6) hx hb hT1 va_S.rf (by decide) dX1_bodyFor_23 ?_
      refine lv_icmp_ge (tgt := 66) hx hb dX1_bodyFor_24 (by decide) (fun c_ => absurd c_ (by decide)) (fun _ => ?_)
      refine lv_iload_n hx hb dX1_bodyFor_27 rfl (lv_at hl 3 rfl) ?_
      refine lv_if_ne (tgt := 39) hx hb dX1_bodyFor_28 (by decide) (fun c_ => absurd (by decide) c_) (fun _ => ?_)
      refine va_gets hx hb hZ2 va_S.rf hown (hts _ mx_X1_bodyFor_2) (fun _ h9 => h9) dX1_bodyFor_31 ?_
      refine lv_iload_n hx hb dX1_bodyFor_34 rfl (lv_at hl 1 rfl) ?_
      refine va_ti hx hb hT2 va_S.rf (by unfold vp_in; decide) rfl dX1_bodyFor_35 ?_
      refine lv_topi (fun v_11 e_11 => ?_)
      obtain rfl : v_11 = 12 := (e_11).trans (by decide)
      refine lv_goto (tgt := 44) hx hb dX1_bodyFor_36 (by decide) ?_
      refine lv_istore (lv' := [(4, .int 12), (3, .int 0), (2, .int 2), (0, .ref k9), (1, .int 0)]) hx hb dX1_bodyFor_44 hl (by decide) rfl (fun ls hl => ?_)
      refine lv_iload hx hb dX1_bodyFor_46 (lv_at hl 0 rfl) ?_
      refine lv_if_eq (tgt := 54) hx hb dX1_bodyFor_48 (by decide) (fun c_ => absurd c_ (by decide)) (fun _ => ?_)
      refine lv_iload hx hb dX1_bodyFor_51 (lv_at hl 0 rfl) ?_
      exact W.iret (v := 12) hx hb hr (fun t ht hW => ⟨12, rfl, (lf_X1_bodyFor_2 ha1 ha5), ht⟩) (fun _ h => by cases h) dX1_bodyFor_53
    · skip
      have hP : va_P (dC, dI) vwCl [(xo_1_riiiii k9 tc (nI z) nu 3 ce lo)] s.heap := hP
      refine lv_aload_n hx hb dX1_bodyFor_0 rfl (lv_at hl 0 rfl) ?_
      refine va_get (D := (dC, dI)) (ci := 1) (v := .int 3) (C := RX1) (T := TX1) (N := 6) hx hb hts i_X1_bodyFor_X1 hown hK hP 0 rfl rfl 3 (by decide) (hts _ mx_X1_bodyFor_1) (fun _ h9 => h9) rfl dX1_bodyFor_1 ?_
      refine lv_istore_n (lv' := [(2, .int 3), (0, .ref k9), (1, .int 0)]) hx hb dX1_bodyFor_4 rfl hl (by decide) rfl (fun ls hl => ?_)
      refine lv_iconst (v := 0) hx hb dX1_bodyFor_5 (by decide) ?_
      refine lv_istore_n (lv' := [(3, .int 0), (2, .int 3), (0, .ref k9), (1, .int 0)]) hx hb dX1_bodyFor_6 rfl hl (by decide) rfl (fun ls hl => ?_)
      refine lv_iload_n hx hb dX1_bodyFor_7 rfl (lv_at hl 0 rfl) ?_
      refine va_getsN hx hb hZ1 va_S.rf hown (va_Nw.use rfl hNk) (fun _ h9 => h9) dX1_bodyFor_8 ?_
      refine va_tlen (v := 6) hx hb hT1 va_S.rf (by decide) dX1_bodyFor_11 ?_
      refine lv_icmp_ge (tgt := 66) hx hb dX1_bodyFor_12 (by decide) (fun c_ => absurd c_ (by decide)) (fun _ => ?_)
      refine lv_iload_n hx hb dX1_bodyFor_15 rfl (lv_at hl 1 rfl) ?_
      refine lv_if_le (tgt := 66) hx hb dX1_bodyFor_16 (by decide) (fun c_ => absurd c_ (by decide)) (fun _ => ?_)
      refine lv_iload_n hx hb dX1_bodyFor_19 rfl (lv_at hl 1 rfl) ?_
      refine va_getsN hx hb hZ1 va_S.rf hown (va_Nw.use rfl hNk) (fun _ h9 => h9) dX1_bodyFor_20 ?_
      refine va_tlen (v := 6) hx hb hT1 va_S.rf (by decide) dX1_bodyFor_23 ?_
      refine lv_icmp_ge (tgt := 66) hx hb dX1_bodyFor_24 (by decide) (fun c_ => absurd c_ (by decide)) (fun _ => ?_)
      refine lv_iload_n hx hb dX1_bodyFor_27 rfl (lv_at hl 3 rfl) ?_
      refine lv_if_ne (tgt := 39) hx hb dX1_bodyFor_28 (by decide) (fun c_ => absurd (by decide) c_) (fun _ => ?_)
      refine va_gets hx hb hZ2 va_S.rf hown (hts _ mx_X1_bodyFor_2) (fun _ h9 => h9) dX1_bodyFor_31 ?_
      refine lv_iload_n hx hb dX1_bodyFor_34 rfl (lv_at hl 1 rfl) ?_
      refine va_ti hx hb hT2 va_S.rf (by unfold vp_in; decide) rfl dX1_bodyFor_35 ?_
      refine lv_topi (fun v_17 e_17 => ?_)
      obtain rfl : v_17 = 0 := (e_17).trans (by decide)
      refine lv_goto (tgt := 44) hx hb dX1_bodyFor_36 (by decide) ?_
      refine lv_istore (lv' := [(4, .int 0), (3, .int 0), (2, .int 3), (0, .ref k9), (1, .int 0)]) hx hb dX1_bodyFor_44 hl (by decide) rfl (fun ls hl => ?_)
      refine lv_iload hx hb dX1_bodyFor_46 (lv_at hl 0 rfl) ?_
      refine lv_if_eq (tgt := 54) hx hb dX1_bodyFor_48 (by decide) (fun _ => ?_) (fun c_ => absurd (by decide) c_)
      refine va_getsN hx hb hZ1 va_S.rf hown (va_Nw.use rfl hNk) (fun _ h9 => h9) dX1_bodyFor_54 ?_
      refine lv_iload_n hx hb dX1_bodyFor_57 rfl (lv_at hl 2 rfl) ?_
      refine va_ti hx hb hT1 va_S.rf (by unfold vp_in; decide) rfl dX1_bodyFor_58 ?_
      refine lv_topi (fun v_19 e_19 => ?_)
      obtain rfl : v_19 = 1 := (e_19).trans (by decide)
      refine lv_istore_n (lv' := [(2, .int 1), (4, .int 0), (3, .int 0), (0, .ref k9), (1, .int 0)]) hx hb dX1_bodyFor_59 rfl hl (by decide) rfl (fun ls hl => ?_)
      refine lv_iinc (v := 1) (lv' := [(3, .int 1), (2, .int 1), (4, .int 0), (0, .ref k9), (1, .int 0)]) hx hb dX1_bodyFor_60 hl (k := 2) rfl (by decide) (by decide) rfl (fun ls hl => ?_)
      refine lv_goto (tgt := 7) hx hb dX1_bodyFor_63 (by decide) ?_
      refine lv_iload_n hx hb dX1_bodyFor_7 rfl (lv_at hl 0 rfl) ?_
      refine va_getsN hx hb hZ1 va_S.rf hown (va_Nw.use rfl hNk) (fun _ h9 => h9) dX1_bodyFor_8 ?_
      refine va_tlen (v := 6) hx hb hT1 va_S.rf (by decide) dX1_bodyFor_11 ?_
      refine lv_icmp_ge (tgt := 66) hx hb dX1_bodyFor_12 (by decide) (fun c_ => absurd c_ (by decide)) (fun _ => ?_)
      refine lv_iload_n hx hb dX1_bodyFor_15 rfl (lv_at hl 1 rfl) ?_
      refine lv_if_le (tgt := 66) hx hb dX1_bodyFor_16 (by decide) (fun c_ => absurd c_ (by decide)) (fun _ => ?_)
      refine lv_iload_n hx hb dX1_bodyFor_19 rfl (lv_at hl 1 rfl) ?_
      refine va_getsN hx hb hZ1 va_S.rf hown (va_Nw.use rfl hNk) (fun _ h9 => h9) dX1_bodyFor_20 ?_
      refine va_tlen (v := 6) hx hb hT1 va_S.rf (by decide) dX1_bodyFor_23 ?_
      refine lv_icmp_ge (tgt := 66) hx hb dX1_bodyFor_24 (by decide) (fun c_ => absurd c_ (by decide)) (fun _ => ?_)
      refine lv_iload_n hx hb dX1_bodyFor_27 rfl (lv_at hl 4 rfl) ?_
      refine lv_if_ne (tgt := 39) hx hb dX1_bodyFor_28 (by decide) (fun c_ => absurd (by decide) c_) (fun _ => ?_)
      refine va_gets hx hb hZ2 va_S.rf hown (hts _ mx_X1_bodyFor_2) (fun _ h9 => h9) dX1_bodyFor_31 ?_
      refine lv_iload_n hx hb dX1_bodyFor_34 rfl (lv_at hl 1 rfl) ?_
      refine va_ti hx hb hT2 va_S.rf (by unfold vp_in; decide) rfl dX1_bodyFor_35 ?_
      refine lv_topi (fun v_24 e_24 => ?_)
      obtain rfl : v_24 = 11 := (e_24).trans (by decide)
      refine lv_goto (tgt := 44) hx hb dX1_bodyFor_36 (by decide) ?_
      refine lv_istore (lv' := [(4, .int 11), (3, .int 1), (2, .int 1), (0, .ref k9), (1, .int 0)]) hx hb dX1_bodyFor_44 hl (by decide) rfl (fun ls hl => ?_)
      refine lv_iload hx hb dX1_bodyFor_46 (lv_at hl 0 rfl) ?_
      refine lv_if_eq (tgt := 54) hx hb dX1_bodyFor_48 (by decide) (fun c_ => absurd c_ (by decide)) (fun _ => ?_)
      refine lv_iload hx hb dX1_bodyFor_51 (lv_at hl 0 rfl) ?_
      exact W.iret (v := 11) hx hb hr (fun t ht hW => ⟨11, rfl, (lf_X1_bodyFor_3 ha1 ha5), ht⟩) (fun _ h => by cases h) dX1_bodyFor_53
    · skip
      have hP : va_P (dC, dI) vwCl [(xo_1_riiiii k9 tc (nI z) nu 4 ce lo)] s.heap := hP
      refine lv_aload_n hx hb dX1_bodyFor_0 rfl (lv_at hl 0 rfl) ?_
      refine va_get (D := (dC, dI)) (ci := 1) (v := .int 4) (C := RX1) (T := TX1) (N := 6) hx hb hts i_X1_bodyFor_X1 hown hK hP 0 rfl rfl 3 (by decide) (hts _ mx_X1_bodyFor_1) (fun _ h9 => h9) rfl dX1_bodyFor_1 ?_
      refine lv_istore_n (lv' := [(2, .int 4), (0, .ref k9), (1, .int 0)]) hx hb dX1_bodyFor_4 rfl hl (by decide) rfl (fun ls hl => ?_)
      refine lv_iconst (v := 0) hx hb dX1_bodyFor_5 (by decide) ?_
      refine lv_istore_n (lv' := [(3, .int 0), (2, .int 4), (0, .ref k9), (1, .int 0)]) hx hb dX1_bodyFor_6 rfl hl (by decide) rfl (fun ls hl => ?_)
      refine lv_iload_n hx hb dX1_bodyFor_7 rfl (lv_at hl 0 rfl) ?_
      refine va_getsN hx hb hZ1 va_S.rf hown (va_Nw.use rfl hNk) (fun _ h9 => h9) dX1_bodyFor_8 ?_
      refine va_tlen (v := 6) hx hb hT1 va_S.rf (by decide) dX1_bodyFor_11 ?_
      refine lv_icmp_ge (tgt := 66) hx hb dX1_bodyFor_12 (by decide) (fun c_ => absurd c_ (by decide)) (fun _ => ?_)
      refine lv_iload_n hx hb dX1_bodyFor_15 rfl (lv_at hl 1 rfl) ?_
      refine lv_if_le (tgt := 66) hx hb dX1_bodyFor_16 (by decide) (fun c_ => absurd c_ (by decide)) (fun _ => ?_)
      refine lv_iload_n hx hb dX1_bodyFor_19 rfl (lv_at hl 1 rfl) ?_
      refine va_getsN hx hb hZ1 va_S.rf hown (va_Nw.use rfl hNk) (fun _ h9 => h9) dX1_bodyFor_20 ?_
      refine va_tlen (v := 6) hx hb hT1 va_S.rf (by decide) dX1_bodyFor_23 ?_
      refine lv_icmp_ge (tgt := 66) hx hb dX1_bodyFor_24 (by decide) (fun c_ => absurd c_ (by decide)) (fun _ => ?_)
      refine lv_iload_n hx hb dX1_bodyFor_27 rfl (lv_at hl 3 rfl) ?_
      refine lv_if_ne (tgt := 39) hx hb dX1_bodyFor_28 (by decide) (fun c_ => absurd (by decide) c_) (fun _ => ?_)
      refine va_gets hx hb hZ2 va_S.rf hown (hts _ mx_X1_bodyFor_2) (fun _ h9 => h9) dX1_bodyFor_31 ?_
      refine lv_iload_n hx hb dX1_bodyFor_34 rfl (lv_at hl 1 rfl) ?_
      refine va_ti hx hb hT2 va_S.rf (by unfold vp_in; decide) rfl dX1_bodyFor_35 ?_
      refine lv_topi (fun v_30 e_30 => ?_)
      obtain rfl : v_30 = 13 := (e_30).trans (by decide)
      refine lv_goto (tgt := 44) hx hb dX1_bodyFor_36 (by decide) ?_
      refine lv_istore (lv' := [(4, .int 13), (3, .int 0), (2, .int 4), (0, .ref k9), (1, .int 0)]) hx hb dX1_bodyFor_44 hl (by decide) rfl (fun ls hl => ?_)
      refine lv_iload hx hb dX1_bodyFor_46 (lv_at hl 0 rfl) ?_
      refine lv_if_eq (tgt := 54) hx hb dX1_bodyFor_48 (by decide) (fun c_ => absurd c_ (by decide)) (fun _ => ?_)
      refine lv_iload hx hb dX1_bodyFor_51 (lv_at hl 0 rfl) ?_
      exact W.iret (v := 13) hx hb hr (fun t ht hW => ⟨13, rfl, (lf_X1_bodyFor_4 ha1 ha5), ht⟩) (fun _ h => by cases h) dX1_bodyFor_53
    · skip
      have hP : va_P (dC, dI) vwCl [(xo_1_riiiii k9 tc (nI z) nu 5 ce lo)] s.heap := hP
      refine lv_aload_n hx hb dX1_bodyFor_0 rfl (lv_at hl 0 rfl) ?_
      refine va_get (D := (dC, dI)) (ci := 1) (v := .int 5) (C := RX1) (T := TX1) (N := 6) hx hb hts i_X1_bodyFor_X1 hown hK hP 0 rfl rfl 3 (by decide) (hts _ mx_X1_bodyFor_1) (fun _ h9 => h9) rfl dX1_bodyFor_1 ?_
      refine lv_istore_n (lv' := [(2, .int 5), (0, .ref k9), (1, .int 0)]) hx hb dX1_bodyFor_4 rfl hl (by decide) rfl (fun ls hl => ?_)
      refine lv_iconst (v := 0) hx hb dX1_bodyFor_5 (by decide) ?_
      refine lv_istore_n (lv' := [(3, .int 0), (2, .int 5), (0, .ref k9), (1, .int 0)]) hx hb dX1_bodyFor_6 rfl hl (by decide) rfl (fun ls hl => ?_)
      refine lv_iload_n hx hb dX1_bodyFor_7 rfl (lv_at hl 0 rfl) ?_
      refine va_getsN hx hb hZ1 va_S.rf hown (va_Nw.use rfl hNk) (fun _ h9 => h9) dX1_bodyFor_8 ?_
      refine va_tlen (v := 6) hx hb hT1 va_S.rf (by decide) dX1_bodyFor_11 ?_
      refine lv_icmp_ge (tgt := 66) hx hb dX1_bodyFor_12 (by decide) (fun c_ => absurd c_ (by decide)) (fun _ => ?_)
      refine lv_iload_n hx hb dX1_bodyFor_15 rfl (lv_at hl 1 rfl) ?_
      refine lv_if_le (tgt := 66) hx hb dX1_bodyFor_16 (by decide) (fun c_ => absurd c_ (by decide)) (fun _ => ?_)
      refine lv_iload_n hx hb dX1_bodyFor_19 rfl (lv_at hl 1 rfl) ?_
      refine va_getsN hx hb hZ1 va_S.rf hown (va_Nw.use rfl hNk) (fun _ h9 => h9) dX1_bodyFor_20 ?_
      refine va_tlen (v := 6) hx hb hT1 va_S.rf (by decide) dX1_bodyFor_23 ?_
      refine lv_icmp_ge (tgt := 66) hx hb dX1_bodyFor_24 (by decide) (fun c_ => absurd c_ (by decide)) (fun _ => ?_)
      refine lv_iload_n hx hb dX1_bodyFor_27 rfl (lv_at hl 3 rfl) ?_
      refine lv_if_ne (tgt := 39) hx hb dX1_bodyFor_28 (by decide) (fun c_ => absurd (by decide) c_) (fun _ => ?_)
      refine va_gets hx hb hZ2 va_S.rf hown (hts _ mx_X1_bodyFor_2) (fun _ h9 => h9) dX1_bodyFor_31 ?_
      refine lv_iload_n hx hb dX1_bodyFor_34 rfl (lv_at hl 1 rfl) ?_
      refine va_ti hx hb hT2 va_S.rf (by unfold vp_in; decide) rfl dX1_bodyFor_35 ?_
      refine lv_topi (fun v_36 e_36 => ?_)
      obtain rfl : v_36 = 14 := (e_36).trans (by decide)
      refine lv_goto (tgt := 44) hx hb dX1_bodyFor_36 (by decide) ?_
      refine lv_istore (lv' := [(4, .int 14), (3, .int 0), (2, .int 5), (0, .ref k9), (1, .int 0)]) hx hb dX1_bodyFor_44 hl (by decide) rfl (fun ls hl => ?_)
      refine lv_iload hx hb dX1_bodyFor_46 (lv_at hl 0 rfl) ?_
      refine lv_if_eq (tgt := 54) hx hb dX1_bodyFor_48 (by decide) (fun c_ => absurd c_ (by decide)) (fun _ => ?_)
      refine lv_iload hx hb dX1_bodyFor_51 (lv_at hl 0 rfl) ?_
      exact W.iret (v := 14) hx hb hr (fun t ht hW => ⟨14, rfl, (lf_X1_bodyFor_5 ha1 ha5), ht⟩) (fun _ h => by cases h) dX1_bodyFor_53
  · skip
    have hl : lv_has ls 5 [(0, .ref k9), (1, .int 1)] := hl
    rcases (show a = 1 ∨ a = 2 ∨ a = 3 ∨ a = 4 ∨ a = 5 by omega) with rfl | rfl | rfl | rfl | rfl
    · skip
      have hP : va_P (dC, dI) vwCl [(xo_1_riiiii k9 tc (nI z) nu 1 ce lo)] s.heap := hP
      refine lv_aload_n hx hb dX1_bodyFor_0 rfl (lv_at hl 0 rfl) ?_
      refine va_get (D := (dC, dI)) (ci := 1) (v := .int 1) (C := RX1) (T := TX1) (N := 6) hx hb hts i_X1_bodyFor_X1 hown hK hP 0 rfl rfl 3 (by decide) (hts _ mx_X1_bodyFor_1) (fun _ h9 => h9) rfl dX1_bodyFor_1 ?_
      refine lv_istore_n (lv' := [(2, .int 1), (0, .ref k9), (1, .int 1)]) hx hb dX1_bodyFor_4 rfl hl (by decide) rfl (fun ls hl => ?_)
      refine lv_iconst (v := 0) hx hb dX1_bodyFor_5 (by decide) ?_
      refine lv_istore_n (lv' := [(3, .int 0), (2, .int 1), (0, .ref k9), (1, .int 1)]) hx hb dX1_bodyFor_6 rfl hl (by decide) rfl (fun ls hl => ?_)
      refine lv_iload_n hx hb dX1_bodyFor_7 rfl (lv_at hl 0 rfl) ?_
      refine va_getsN hx hb hZ1 va_S.rf hown (va_Nw.use rfl hNk) (fun _ h9 => h9) dX1_bodyFor_8 ?_
      refine va_tlen (v := 6) hx hb hT1 va_S.rf (by decide) dX1_bodyFor_11 ?_
      refine lv_icmp_ge (tgt := 66) hx hb dX1_bodyFor_12 (by decide) (fun c_ => absurd c_ (by decide)) (fun _ => ?_)
      refine lv_iload_n hx hb dX1_bodyFor_15 rfl (lv_at hl 1 rfl) ?_
      refine lv_if_le (tgt := 66) hx hb dX1_bodyFor_16 (by decide) (fun c_ => absurd c_ (by decide)) (fun _ => ?_)
      refine lv_iload_n hx hb dX1_bodyFor_19 rfl (lv_at hl 1 rfl) ?_
      refine va_getsN hx hb hZ1 va_S.rf hown (va_Nw.use rfl hNk) (fun _ h9 => h9) dX1_bodyFor_20 ?_
      refine va_tlen (v := 6) hx hb hT1 va_S.rf (by decide) dX1_bodyFor_23 ?_
      refine lv_icmp_ge (tgt := 66) hx hb dX1_bodyFor_24 (by decide) (fun c_ => absurd c_ (by decide)) (fun _ => ?_)
      refine lv_iload_n hx hb dX1_bodyFor_27 rfl (lv_at hl 3 rfl) ?_
      refine lv_if_ne (tgt := 39) hx hb dX1_bodyFor_28 (by decide) (fun _ => ?_) (fun c_ => absurd c_ (by decide))
      refine va_gets hx hb hZ3 va_S.rf hown (hts _ mx_X1_bodyFor_3) (fun _ h9 => h9) dX1_bodyFor_39 ?_
      refine lv_iload_n hx hb dX1_bodyFor_42 rfl (lv_at hl 1 rfl) ?_
      refine va_ti hx hb hT3 va_S.rf (by unfold vp_in; decide) rfl dX1_bodyFor_43 ?_
      refine lv_topi (fun v_42 e_42 => ?_)
      obtain rfl : v_42 = 21 := (e_42).trans (by decide)
      refine lv_istore (lv' := [(4, .int 21), (3, .int 0), (2, .int 1), (0, .ref k9), (1, .int 1)]) hx hb dX1_bodyFor_44 hl (by decide) rfl (fun ls hl => ?_)
      refine lv_iload hx hb dX1_bodyFor_46 (lv_at hl 0 rfl) ?_
      refine lv_if_eq (tgt := 54) hx hb dX1_bodyFor_48 (by decide) (fun c_ => absurd c_ (by decide)) (fun _ => ?_)
      refine lv_iload hx hb dX1_bodyFor_51 (lv_at hl 0 rfl) ?_
      exact W.iret (v := 21) hx hb hr (fun t ht hW => ⟨21, rfl, (lf_X1_bodyFor_6 ha1 ha5), ht⟩) (fun _ h => by cases h) dX1_bodyFor_53
    · skip
      have hP : va_P (dC, dI) vwCl [(xo_1_riiiii k9 tc (nI z) nu 2 ce lo)] s.heap := hP
      refine lv_aload_n hx hb dX1_bodyFor_0 rfl (lv_at hl 0 rfl) ?_
      refine va_get (D := (dC, dI)) (ci := 1) (v := .int 2) (C := RX1) (T := TX1) (N := 6) hx hb hts i_X1_bodyFor_X1 hown hK hP 0 rfl rfl 3 (by decide) (hts _ mx_X1_bodyFor_1) (fun _ h9 => h9) rfl dX1_bodyFor_1 ?_
      refine lv_istore_n (lv' := [(2, .int 2), (0, .ref k9), (1, .int 1)]) hx hb dX1_bodyFor_4 rfl hl (by decide) rfl (fun ls hl => ?_)
      refine lv_iconst (v := 0) hx hb dX1_bodyFor_5 (by decide) ?_
      refine lv_istore_n (lv' := [(3, .int 0), (2, .int 2), (0, .ref k9), (1, .int 1)]) hx hb dX1_bodyFor_6 rfl hl (by decide) rfl (fun ls hl => ?_)
      refine lv_iload_n hx hb dX1_bodyFor_7 rfl (lv_at hl 0 rfl) ?_
      refine va_getsN hx hb hZ1 va_S.rf hown (va_Nw.use rfl hNk) (fun _ h9 => h9) dX1_bodyFor_8 ?_
      refine va_tlen (v := 6) hx hb hT1 va_S.rf (by decide) dX1_bodyFor_11 ?_
      refine lv_icmp_ge (tgt := 66) hx hb dX1_bodyFor_12 (by decide) (fun c_ => absurd c_ (by decide)) (fun _ => ?_)
      refine lv_iload_n hx hb dX1_bodyFor_15 rfl (lv_at hl 1 rfl) ?_
      refine lv_if_le (tgt := 66) hx hb dX1_bodyFor_16 (by decide) (fun c_ => absurd c_ (by decide)) (fun _ => ?_)
      refine lv_iload_n hx hb dX1_bodyFor_19 rfl (lv_at hl 1 rfl) ?_
      refine va_getsN hx hb hZ1 va_S.rf hown (va_Nw.use rfl hNk) (fun _ h9 => h9) dX1_bodyFor_20 ?_
      refine va_tlen (v := 6) hx hb hT1 va_S.rf (by decide) dX1_bodyFor_23 ?_
      refine lv_icmp_ge (tgt := 66) hx hb dX1_bodyFor_24 (by decide) (fun c_ => absurd c_ (by decide)) (fun _ => ?_)
      refine lv_iload_n hx hb dX1_bodyFor_27 rfl (lv_at hl 3 rfl) ?_
      refine lv_if_ne (tgt := 39) hx hb dX1_bodyFor_28 (by decide) (fun _ => ?_) (fun c_ => absurd c_ (by decide))
      refine va_gets hx hb hZ3 va_S.rf hown (hts _ mx_X1_bodyFor_3) (fun _ h9 => h9) dX1_bodyFor_39 ?_
      refine lv_iload_n hx hb dX1_bodyFor_42 rfl (lv_at hl 1 rfl) ?_
      refine va_ti hx hb hT3 va_S.rf (by unfold vp_in; decide) rfl dX1_bodyFor_43 ?_
      refine lv_topi (fun v_48 e_48 => ?_)
      obtain rfl : v_48 = 24 := (e_48).trans (by decide)
      refine lv_istore (lv' := [(4, .int 24), (3, .int 0), (2, .int 2), (0, .ref k9), (1, .int 1)]) hx hb dX1_bodyFor_44 hl (by decide) rfl (fun ls hl => ?_)
      refine lv_iload hx hb dX1_bodyFor_46 (lv_at hl 0 rfl) ?_
      refine lv_if_eq (tgt := 54) hx hb dX1_bodyFor_48 (by decide) (fun c_ => absurd c_ (by decide)) (fun _ => ?_)
      refine lv_iload hx hb dX1_bodyFor_51 (lv_at hl 0 rfl) ?_
      exact W.iret (v := 24) hx hb hr (fun t ht hW => ⟨24, rfl, (lf_X1_bodyFor_7 ha1 ha5), ht⟩) (fun _ h => by cases h) dX1_bodyFor_53
    · skip
      have hP : va_P (dC, dI) vwCl [(xo_1_riiiii k9 tc (nI z) nu 3 ce lo)] s.heap := hP
      refine lv_aload_n hx hb dX1_bodyFor_0 rfl (lv_at hl 0 rfl) ?_
      refine va_get (D := (dC, dI)) (ci := 1) (v := .int 3) (C := RX1) (T := TX1) (N := 6) hx hb hts i_X1_bodyFor_X1 hown hK hP 0 rfl rfl 3 (by decide) (hts _ mx_X1_bodyFor_1) (fun _ h9 => h9) rfl dX1_bodyFor_1 ?_
      refine lv_istore_n (lv' := [(2, .int 3), (0, .ref k9), (1, .int 1)]) hx hb dX1_bodyFor_4 rfl hl (by decide) rfl (fun ls hl => ?_)
      refine lv_iconst (v := 0) hx hb dX1_bodyFor_5 (by decide) ?_
      refine lv_istore_n (lv' := [(3, .int 0), (2, .int 3), (0, .ref k9), (1, .int 1)]) hx hb dX1_bodyFor_6 rfl hl (by decide) rfl (fun ls hl => ?_)
      refine lv_iload_n hx hb dX1_bodyFor_7 rfl (lv_at hl 0 rfl) ?_
      refine va_getsN hx hb hZ1 va_S.rf hown (va_Nw.use rfl hNk) (fun _ h9 => h9) dX1_bodyFor_8 ?_
      refine va_tlen (v := 6) hx hb hT1 va_S.rf (by decide) dX1_bodyFor_11 ?_
      refine lv_icmp_ge (tgt := 66) hx hb dX1_bodyFor_12 (by decide) (fun c_ => absurd c_ (by decide)) (fun _ => ?_)
      refine lv_iload_n hx hb dX1_bodyFor_15 rfl (lv_at hl 1 rfl) ?_
      refine lv_if_le (tgt := 66) hx hb dX1_bodyFor_16 (by decide) (fun c_ => absurd c_ (by decide)) (fun _ => ?_)
      refine lv_iload_n hx hb dX1_bodyFor_19 rfl (lv_at hl 1 rfl) ?_
      refine va_getsN hx hb hZ1 va_S.rf hown (va_Nw.use rfl hNk) (fun _ h9 => h9) dX1_bodyFor_20 ?_
      refine va_tlen (v := 6) hx hb hT1 va_S.rf (by decide) dX1_bodyFor_23 ?_
      refine lv_icmp_ge (tgt := 66) hx hb dX1_bodyFor_24 (by decide) (fun c_ => absurd c_ (by decide)) (fun _ => ?_)
      refine lv_iload_n hx hb dX1_bodyFor_27 rfl (lv_at hl 3 rfl) ?_
      refine lv_if_ne (tgt := 39) hx hb dX1_bodyFor_28 (by decide) (fun _ => ?_) (fun c_ => absurd c_ (by decide))
      refine va_gets hx hb hZ3 va_S.rf hown (hts _ mx_X1_bodyFor_3) (fun _ h9 => h9) dX1_bodyFor_39 ?_
      refine lv_iload_n hx hb dX1_bodyFor_42 rfl (lv_at hl 1 rfl) ?_
      refine va_ti hx hb hT3 va_S.rf (by unfold vp_in; decide) rfl dX1_bodyFor_43 ?_
      refine lv_topi (fun v_54 e_54 => ?_)
      obtain rfl : v_54 = 22 := (e_54).trans (by decide)
      refine lv_istore (lv' := [(4, .int 22), (3, .int 0), (2, .int 3), (0, .ref k9), (1, .int 1)]) hx hb dX1_bodyFor_44 hl (by decide) rfl (fun ls hl => ?_)
      refine lv_iload hx hb dX1_bodyFor_46 (lv_at hl 0 rfl) ?_
      refine lv_if_eq (tgt := 54) hx hb dX1_bodyFor_48 (by decide) (fun c_ => absurd c_ (by decide)) (fun _ => ?_)
      refine lv_iload hx hb dX1_bodyFor_51 (lv_at hl 0 rfl) ?_
      exact W.iret (v := 22) hx hb hr (fun t ht hW => ⟨22, rfl, (lf_X1_bodyFor_8 ha1 ha5), ht⟩) (fun _ h => by cases h) dX1_bodyFor_53
    · skip
      have hP : va_P (dC, dI) vwCl [(xo_1_riiiii k9 tc (nI z) nu 4 ce lo)] s.heap := hP
      refine lv_aload_n hx hb dX1_bodyFor_0 rfl (lv_at hl 0 rfl) ?_
      refine va_get (D := (dC, dI)) (ci := 1) (v := .int 4) (C := RX1) (T := TX1) (N := 6) hx hb hts i_X1_bodyFor_X1 hown hK hP 0 rfl rfl 3 (by decide) (hts _ mx_X1_bodyFor_1) (fun _ h9 => h9) rfl dX1_bodyFor_1 ?_
      refine lv_istore_n (lv' := [(2, .int 4), (0, .ref k9), (1, .int 1)]) hx hb dX1_bodyFor_4 rfl hl (by decide) rfl (fun ls hl => ?_)
      refine lv_iconst (v := 0) hx hb dX1_bodyFor_5 (by decide) ?_
      refine lv_istore_n (lv' := [(3, .int 0), (2, .int 4), (0, .ref k9), (1, .int 1)]) hx hb dX1_bodyFor_6 rfl hl (by decide) rfl (fun ls hl => ?_)
      refine lv_iload_n hx hb dX1_bodyFor_7 rfl (lv_at hl 0 rfl) ?_
      refine va_getsN hx hb hZ1 va_S.rf hown (va_Nw.use rfl hNk) (fun _ h9 => h9) dX1_bodyFor_8 ?_
      refine va_tlen (v := 6) hx hb hT1 va_S.rf (by decide) dX1_bodyFor_11 ?_
      refine lv_icmp_ge (tgt := 66) hx hb dX1_bodyFor_12 (by decide) (fun c_ => absurd c_ (by decide)) (fun _ => ?_)
      refine lv_iload_n hx hb dX1_bodyFor_15 rfl (lv_at hl 1 rfl) ?_
      refine lv_if_le (tgt := 66) hx hb dX1_bodyFor_16 (by decide) (fun c_ => absurd c_ (by decide)) (fun _ => ?_)
      refine lv_iload_n hx hb dX1_bodyFor_19 rfl (lv_at hl 1 rfl) ?_
      refine va_getsN hx hb hZ1 va_S.rf hown (va_Nw.use rfl hNk) (fun _ h9 => h9) dX1_bodyFor_20 ?_
      refine va_tlen (v := 6) hx hb hT1 va_S.rf (by decide) dX1_bodyFor_23 ?_
      refine lv_icmp_ge (tgt := 66) hx hb dX1_bodyFor_24 (by decide) (fun c_ => absurd c_ (by decide)) (fun _ => ?_)
      refine lv_iload_n hx hb dX1_bodyFor_27 rfl (lv_at hl 3 rfl) ?_
      refine lv_if_ne (tgt := 39) hx hb dX1_bodyFor_28 (by decide) (fun _ => ?_) (fun c_ => absurd c_ (by decide))
      refine va_gets hx hb hZ3 va_S.rf hown (hts _ mx_X1_bodyFor_3) (fun _ h9 => h9) dX1_bodyFor_39 ?_
      refine lv_iload_n hx hb dX1_bodyFor_42 rfl (lv_at hl 1 rfl) ?_
      refine va_ti hx hb hT3 va_S.rf (by unfold vp_in; decide) rfl dX1_bodyFor_43 ?_
      refine lv_topi (fun v_60 e_60 => ?_)
      obtain rfl : v_60 = 23 := (e_60).trans (by decide)
      refine lv_istore (lv' := [(4, .int 23), (3, .int 0), (2, .int 4), (0, .ref k9), (1, .int 1)]) hx hb dX1_bodyFor_44 hl (by decide) rfl (fun ls hl => ?_)
      refine lv_iload hx hb dX1_bodyFor_46 (lv_at hl 0 rfl) ?_
      refine lv_if_eq (tgt := 54) hx hb dX1_bodyFor_48 (by decide) (fun c_ => absurd c_ (by decide)) (fun _ => ?_)
      refine lv_iload hx hb dX1_bodyFor_51 (lv_at hl 0 rfl) ?_
      exact W.iret (v := 23) hx hb hr (fun t ht hW => ⟨23, rfl, (lf_X1_bodyFor_9 ha1 ha5), ht⟩) (fun _ h => by cases h) dX1_bodyFor_53
    · skip
      have hP : va_P (dC, dI) vwCl [(xo_1_riiiii k9 tc (nI z) nu 5 ce lo)] s.heap := hP
      refine lv_aload_n hx hb dX1_bodyFor_0 rfl (lv_at hl 0 rfl) ?_
      refine va_get (D := (dC, dI)) (ci := 1) (v := .int 5) (C := RX1) (T := TX1) (N := 6) hx hb hts i_X1_bodyFor_X1 hown hK hP 0 rfl rfl 3 (by decide) (hts _ mx_X1_bodyFor_1) (fun _ h9 => h9) rfl dX1_bodyFor_1 ?_
      refine lv_istore_n (lv' := [(2, .int 5), (0, .ref k9), (1, .int 1)]) hx hb dX1_bodyFor_4 rfl hl (by decide) rfl (fun ls hl => ?_)
      refine lv_iconst (v := 0) hx hb dX1_bodyFor_5 (by decide) ?_
      refine lv_istore_n (lv' := [(3, .int 0), (2, .int 5), (0, .ref k9), (1, .int 1)]) hx hb dX1_bodyFor_6 rfl hl (by decide) rfl (fun ls hl => ?_)
      refine lv_iload_n hx hb dX1_bodyFor_7 rfl (lv_at hl 0 rfl) ?_
      refine va_getsN hx hb hZ1 va_S.rf hown (va_Nw.use rfl hNk) (fun _ h9 => h9) dX1_bodyFor_8 ?_
      refine va_tlen (v := 6) hx hb hT1 va_S.rf (by decide) dX1_bodyFor_11 ?_
      refine lv_icmp_ge (tgt := 66) hx hb dX1_bodyFor_12 (by decide) (fun c_ => absurd c_ (by decide)) (fun _ => ?_)
      refine lv_iload_n hx hb dX1_bodyFor_15 rfl (lv_at hl 1 rfl) ?_
      refine lv_if_le (tgt := 66) hx hb dX1_bodyFor_16 (by decide) (fun c_ => absurd c_ (by decide)) (fun _ => ?_)
      refine lv_iload_n hx hb dX1_bodyFor_19 rfl (lv_at hl 1 rfl) ?_
      refine va_getsN hx hb hZ1 va_S.rf hown (va_Nw.use rfl hNk) (fun _ h9 => h9) dX1_bodyFor_20 ?_
      refine va_tlen (v := 6) hx hb hT1 va_S.rf (by decide) dX1_bodyFor_23 ?_
      refine lv_icmp_ge (tgt := 66) hx hb dX1_bodyFor_24 (by decide) (fun c_ => absurd c_ (by decide)) (fun _ => ?_)
      refine lv_iload_n hx hb dX1_bodyFor_27 rfl (lv_at hl 3 rfl) ?_
      refine lv_if_ne (tgt := 39) hx hb dX1_bodyFor_28 (by decide) (fun _ => ?_) (fun c_ => absurd c_ (by decide))
      refine va_gets hx hb hZ3 va_S.rf hown (hts _ mx_X1_bodyFor_3) (fun _ h9 => h9) dX1_bodyFor_39 ?_
      refine lv_iload_n hx hb dX1_bodyFor_42 rfl (lv_at hl 1 rfl) ?_
      refine va_ti hx hb hT3 va_S.rf (by unfold vp_in; decide) rfl dX1_bodyFor_43 ?_
      refine lv_topi (fun v_66 e_66 => ?_)
      obtain rfl : v_66 = 0 := (e_66).trans (by decide)
      refine lv_istore (lv' := [(4, .int 0), (3, .int 0), (2, .int 5), (0, .ref k9), (1, .int 1)]) hx hb dX1_bodyFor_44 hl (by decide) rfl (fun ls hl => ?_)
      refine lv_iload hx hb dX1_bodyFor_46 (lv_at hl 0 rfl) ?_
      refine lv_if_eq (tgt := 54) hx hb dX1_bodyFor_48 (by decide) (fun _ => ?_) (fun c_ => absurd (by decide) c_)
      refine va_getsN hx hb hZ1 va_S.rf hown (va_Nw.use rfl hNk) (fun _ h9 => h9) dX1_bodyFor_54 ?_
      refine lv_iload_n hx hb dX1_bodyFor_57 rfl (lv_at hl 2 rfl) ?_
      refine va_ti hx hb hT1 va_S.rf (by unfold vp_in; decide) rfl dX1_bodyFor_58 ?_
      refine lv_topi (fun v_68 e_68 => ?_)
      obtain rfl : v_68 = 4 := (e_68).trans (by decide)
      refine lv_istore_n (lv' := [(2, .int 4), (4, .int 0), (3, .int 0), (0, .ref k9), (1, .int 1)]) hx hb dX1_bodyFor_59 rfl hl (by decide) rfl (fun ls hl => ?_)
      refine lv_iinc (v := 1) (lv' := [(3, .int 1), (2, .int 4), (4, .int 0), (0, .ref k9), (1, .int 1)]) hx hb dX1_bodyFor_60 hl (k := 2) rfl (by decide) (by decide) rfl (fun ls hl => ?_)
      refine lv_goto (tgt := 7) hx hb dX1_bodyFor_63 (by decide) ?_
      refine lv_iload_n hx hb dX1_bodyFor_7 rfl (lv_at hl 0 rfl) ?_
      refine va_getsN hx hb hZ1 va_S.rf hown (va_Nw.use rfl hNk) (fun _ h9 => h9) dX1_bodyFor_8 ?_
      refine va_tlen (v := 6) hx hb hT1 va_S.rf (by decide) dX1_bodyFor_11 ?_
      refine lv_icmp_ge (tgt := 66) hx hb dX1_bodyFor_12 (by decide) (fun c_ => absurd c_ (by decide)) (fun _ => ?_)
      refine lv_iload_n hx hb dX1_bodyFor_15 rfl (lv_at hl 1 rfl) ?_
      refine lv_if_le (tgt := 66) hx hb dX1_bodyFor_16 (by decide) (fun c_ => absurd c_ (by decide)) (fun _ => ?_)
      refine lv_iload_n hx hb dX1_bodyFor_19 rfl (lv_at hl 1 rfl) ?_
      refine va_getsN hx hb hZ1 va_S.rf hown (va_Nw.use rfl hNk) (fun _ h9 => h9) dX1_bodyFor_20 ?_
      refine va_tlen (v := 6) hx hb hT1 va_S.rf (by decide) dX1_bodyFor_23 ?_
      refine lv_icmp_ge (tgt := 66) hx hb dX1_bodyFor_24 (by decide) (fun c_ => absurd c_ (by decide)) (fun _ => ?_)
      refine lv_iload_n hx hb dX1_bodyFor_27 rfl (lv_at hl 4 rfl) ?_
      refine lv_if_ne (tgt := 39) hx hb dX1_bodyFor_28 (by decide) (fun _ => ?_) (fun c_ => absurd c_ (by decide))
      refine va_gets hx hb hZ3 va_S.rf hown (hts _ mx_X1_bodyFor_3) (fun _ h9 => h9) dX1_bodyFor_39 ?_
      refine lv_iload_n hx hb dX1_bodyFor_42 rfl (lv_at hl 1 rfl) ?_
      refine va_ti hx hb hT3 va_S.rf (by unfold vp_in; decide) rfl dX1_bodyFor_43 ?_
      refine lv_topi (fun v_73 e_73 => ?_)
      obtain rfl : v_73 = 23 := (e_73).trans (by decide)
      refine lv_istore (lv' := [(4, .int 23), (3, .int 1), (2, .int 4), (0, .ref k9), (1, .int 1)]) hx hb dX1_bodyFor_44 hl (by decide) rfl (fun ls hl => ?_)
      refine lv_iload hx hb dX1_bodyFor_46 (lv_at hl 0 rfl) ?_
      refine lv_if_eq (tgt := 54) hx hb dX1_bodyFor_48 (by decide) (fun c_ => absurd c_ (by decide)) (fun _ => ?_)
      refine lv_iload hx hb dX1_bodyFor_51 (lv_at hl 0 rfl) ?_
      exact W.iret (v := 23) hx hb hr (fun t ht hW => ⟨23, rfl, (lf_X1_bodyFor_10 ha1 ha5), ht⟩) (fun _ h => by cases h) dX1_bodyFor_53
theorem lf_X1_begin_s_1 {z : Nat} {a : Nat} {nu : Int32} {ce : Int32} {lo : Int32} {ft : Nat → Int32} {dp : Nat} {zn_2 : Nat} {ftn_2 : Nat → Int32} (hz : z ≤ 16) (ha1 : 1 ≤ a) (ha5 : a ≤ 5) (hdn : dp ≤ 16) (c_1 : dp < 16) (hF_2_0 : zn_2 ≤ 16) (hF_2_1 : lvX (10 : Int32) (z, ft) = (zn_2, ftn_2)) : (bgX nu a ce lo (16 - dp) (10 : Int32) (z, ft)).2 = (zn_2, ftn_2) := by
  first
  | omega
  | (rw [show 16 - dp = 0 by omega]; rfl)
  | (rw [show 16 - dp = (16 - (dp + 1)) + 1 by omega]; simp only [bgX]; grind)
theorem lf_X1_begin_s_2 {z : Nat} {a : Nat} {nu : Int32} {ce : Int32} {lo : Int32} {ft : Nat → Int32} {dp : Nat} {zn_2 : Nat} {ftn_2 : Nat → Int32} (hz : z ≤ 16) (ha1 : 1 ≤ a) (ha5 : a ≤ 5) (hdn : dp ≤ 16) (c_1 : dp < 16) (hF_2_0 : zn_2 ≤ 16) (hF_2_1 : lvX (10 : Int32) (z, ft) = (zn_2, ftn_2)) : lo = ((bgX nu a ce lo (16 - dp) (10 : Int32) (z, ft)).1) := by
  first
  | omega
  | (rw [show 16 - dp = 0 by omega]; rfl)
  | (rw [show 16 - dp = (16 - (dp + 1)) + 1 by omega]; simp only [bgX]; grind)
theorem lf_X1_begin_s_3 {z : Nat} {a : Nat} {nu : Int32} {ce : Int32} {lo : Int32} {ft : Nat → Int32} {dp : Nat} {zn_2 : Nat} {ftn_2 : Nat → Int32} {zn_6 : Nat} {ftn_6 : Nat → Int32} {r_6 : Int32} {zn_7 : Nat} {ftn_7 : Nat → Int32} {r_7 : Int32} {v_8 : Int32} (hz : z ≤ 16) (ha1 : 1 ≤ a) (ha5 : a ≤ 5) (hdn : dp ≤ 16) (c_1 : dp < 16) (hF_2_0 : zn_2 ≤ 16) (hF_2_1 : lvX (11 : Int32) (z, ft) = (zn_2, ftn_2)) (k_4 : ¬ (11 : Int32) = 10) (hF_6_0 : zn_6 ≤ 16) (hF_6_1 : (bgX nu a ce lo (16 - (dp + 1)) 10 (zn_2, ftn_2)).2 = (zn_6, ftn_6)) (h_6 : r_6 = ((bgX nu a ce lo (16 - (dp + 1)) 10 (zn_2, ftn_2)).1)) (hF_7_0 : zn_7 ≤ 16) (hF_7_1 : (bgX nu a ce lo (16 - (dp + 1)) (bfX a 1) (zn_6, ftn_6)).2 = (zn_7, ftn_7)) (h_7 : r_7 = ((bgX nu a ce lo (16 - (dp + 1)) (bfX a 1) (zn_6, ftn_6)).1)) (e_8 : v_8 = (r_6 + r_7)) : (bgX nu a ce lo (16 - dp) (11 : Int32) (z, ft)).2 = (zn_7, ftn_7) := by
  first
  | omega
  | (rw [show 16 - dp = 0 by omega]; rfl)
  | (rw [show 16 - dp = (16 - (dp + 1)) + 1 by omega]; simp only [bgX]; grind)
theorem lf_X1_begin_s_4 {z : Nat} {a : Nat} {nu : Int32} {ce : Int32} {lo : Int32} {ft : Nat → Int32} {dp : Nat} {zn_2 : Nat} {ftn_2 : Nat → Int32} {zn_6 : Nat} {ftn_6 : Nat → Int32} {r_6 : Int32} {zn_7 : Nat} {ftn_7 : Nat → Int32} {r_7 : Int32} {v_8 : Int32} (hz : z ≤ 16) (ha1 : 1 ≤ a) (ha5 : a ≤ 5) (hdn : dp ≤ 16) (c_1 : dp < 16) (hF_2_0 : zn_2 ≤ 16) (hF_2_1 : lvX (11 : Int32) (z, ft) = (zn_2, ftn_2)) (k_4 : ¬ (11 : Int32) = 10) (hF_6_0 : zn_6 ≤ 16) (hF_6_1 : (bgX nu a ce lo (16 - (dp + 1)) 10 (zn_2, ftn_2)).2 = (zn_6, ftn_6)) (h_6 : r_6 = ((bgX nu a ce lo (16 - (dp + 1)) 10 (zn_2, ftn_2)).1)) (hF_7_0 : zn_7 ≤ 16) (hF_7_1 : (bgX nu a ce lo (16 - (dp + 1)) (bfX a 1) (zn_6, ftn_6)).2 = (zn_7, ftn_7)) (h_7 : r_7 = ((bgX nu a ce lo (16 - (dp + 1)) (bfX a 1) (zn_6, ftn_6)).1)) (e_8 : v_8 = (r_6 + r_7)) : v_8 = ((bgX nu a ce lo (16 - dp) (11 : Int32) (z, ft)).1) := by
  first
  | omega
  | (rw [show 16 - dp = 0 by omega]; rfl)
  | (rw [show 16 - dp = (16 - (dp + 1)) + 1 by omega]; simp only [bgX]; grind)
theorem lf_X1_begin_s_5 {z : Nat} {a : Nat} {nu : Int32} {ce : Int32} {lo : Int32} {ft : Nat → Int32} {dp : Nat} {zn_2 : Nat} {ftn_2 : Nat → Int32} {zn_10 : Nat} {ftn_10 : Nat → Int32} {r_10 : Int32} {v_11 : Int32} (hz : z ≤ 16) (ha1 : 1 ≤ a) (ha5 : a ≤ 5) (hdn : dp ≤ 16) (c_1 : dp < 16) (hF_2_0 : zn_2 ≤ 16) (hF_2_1 : lvX (12 : Int32) (z, ft) = (zn_2, ftn_2)) (k_4 : ¬ (12 : Int32) = 10) (k_5 : ¬ (12 : Int32) = 11) (hF_10_0 : zn_10 ≤ 16) (hF_10_1 : (bgX nu a ce lo (16 - (dp + 1)) 11 (zn_2, ftn_2)).2 = (zn_10, ftn_10)) (h_10 : r_10 = ((bgX nu a ce lo (16 - (dp + 1)) 11 (zn_2, ftn_2)).1)) (e_11 : v_11 = (-r_10)) : (bgX nu a ce lo (16 - dp) (12 : Int32) (z, ft)).2 = (zn_10, ftn_10) := by
  first
  | omega
  | (rw [show 16 - dp = 0 by omega]; rfl)
  | (rw [show 16 - dp = (16 - (dp + 1)) + 1 by omega]; simp only [bgX]; grind)
theorem lf_X1_begin_s_6 {z : Nat} {a : Nat} {nu : Int32} {ce : Int32} {lo : Int32} {ft : Nat → Int32} {dp : Nat} {zn_2 : Nat} {ftn_2 : Nat → Int32} {zn_10 : Nat} {ftn_10 : Nat → Int32} {r_10 : Int32} {v_11 : Int32} (hz : z ≤ 16) (ha1 : 1 ≤ a) (ha5 : a ≤ 5) (hdn : dp ≤ 16) (c_1 : dp < 16) (hF_2_0 : zn_2 ≤ 16) (hF_2_1 : lvX (12 : Int32) (z, ft) = (zn_2, ftn_2)) (k_4 : ¬ (12 : Int32) = 10) (k_5 : ¬ (12 : Int32) = 11) (hF_10_0 : zn_10 ≤ 16) (hF_10_1 : (bgX nu a ce lo (16 - (dp + 1)) 11 (zn_2, ftn_2)).2 = (zn_10, ftn_10)) (h_10 : r_10 = ((bgX nu a ce lo (16 - (dp + 1)) 11 (zn_2, ftn_2)).1)) (e_11 : v_11 = (-r_10)) : v_11 = ((bgX nu a ce lo (16 - dp) (12 : Int32) (z, ft)).1) := by
  first
  | omega
  | (rw [show 16 - dp = 0 by omega]; rfl)
  | (rw [show 16 - dp = (16 - (dp + 1)) + 1 by omega]; simp only [bgX]; grind)
theorem lf_X1_begin_s_7 {z : Nat} {a : Nat} {nu : Int32} {ce : Int32} {lo : Int32} {ft : Nat → Int32} {dp : Nat} {zn_2 : Nat} {ftn_2 : Nat → Int32} {zn_13 : Nat} {ftn_13 : Nat → Int32} {r_13 : Int32} {v_14 : Int32} (hz : z ≤ 16) (ha1 : 1 ≤ a) (ha5 : a ≤ 5) (hdn : dp ≤ 16) (c_1 : dp < 16) (hF_2_0 : zn_2 ≤ 16) (hF_2_1 : lvX (13 : Int32) (z, ft) = (zn_2, ftn_2)) (k_4 : ¬ (13 : Int32) = 10) (k_5 : ¬ (13 : Int32) = 11) (k_9 : ¬ (13 : Int32) = 12) (hF_13_0 : zn_13 ≤ 16) (hF_13_1 : (bgX nu a ce lo (16 - (dp + 1)) 10 (zn_2, ftn_2)).2 = (zn_13, ftn_13)) (h_13 : r_13 = ((bgX nu a ce lo (16 - (dp + 1)) 10 (zn_2, ftn_2)).1)) (e_14 : v_14 = (r_13 - 100)) : (bgX nu a ce lo (16 - dp) (13 : Int32) (z, ft)).2 = (zn_13, ftn_13) := by
  first
  | omega
  | (rw [show 16 - dp = 0 by omega]; rfl)
  | (rw [show 16 - dp = (16 - (dp + 1)) + 1 by omega]; simp only [bgX]; grind)
theorem lf_X1_begin_s_8 {z : Nat} {a : Nat} {nu : Int32} {ce : Int32} {lo : Int32} {ft : Nat → Int32} {dp : Nat} {zn_2 : Nat} {ftn_2 : Nat → Int32} {zn_13 : Nat} {ftn_13 : Nat → Int32} {r_13 : Int32} {v_14 : Int32} (hz : z ≤ 16) (ha1 : 1 ≤ a) (ha5 : a ≤ 5) (hdn : dp ≤ 16) (c_1 : dp < 16) (hF_2_0 : zn_2 ≤ 16) (hF_2_1 : lvX (13 : Int32) (z, ft) = (zn_2, ftn_2)) (k_4 : ¬ (13 : Int32) = 10) (k_5 : ¬ (13 : Int32) = 11) (k_9 : ¬ (13 : Int32) = 12) (hF_13_0 : zn_13 ≤ 16) (hF_13_1 : (bgX nu a ce lo (16 - (dp + 1)) 10 (zn_2, ftn_2)).2 = (zn_13, ftn_13)) (h_13 : r_13 = ((bgX nu a ce lo (16 - (dp + 1)) 10 (zn_2, ftn_2)).1)) (e_14 : v_14 = (r_13 - 100)) : v_14 = ((bgX nu a ce lo (16 - dp) (13 : Int32) (z, ft)).1) := by
  first
  | omega
  | (rw [show 16 - dp = 0 by omega]; rfl)
  | (rw [show 16 - dp = (16 - (dp + 1)) + 1 by omega]; simp only [bgX]; grind)
theorem lf_X1_begin_s_9 {z : Nat} {a : Nat} {nu : Int32} {ce : Int32} {lo : Int32} {ft : Nat → Int32} {dp : Nat} {zn_2 : Nat} {ftn_2 : Nat → Int32} {zn_16 : Nat} {ftn_16 : Nat → Int32} {r_16 : Int32} {v_17 : Int32} (hz : z ≤ 16) (ha1 : 1 ≤ a) (ha5 : a ≤ 5) (hdn : dp ≤ 16) (c_1 : dp < 16) (hF_2_0 : zn_2 ≤ 16) (hF_2_1 : lvX (14 : Int32) (z, ft) = (zn_2, ftn_2)) (k_4 : ¬ (14 : Int32) = 10) (k_5 : ¬ (14 : Int32) = 11) (k_9 : ¬ (14 : Int32) = 12) (k_12 : ¬ (14 : Int32) = 13) (hF_16_0 : zn_16 ≤ 16) (hF_16_1 : (bgX nu a ce lo (16 - (dp + 1)) 13 (zn_2, ftn_2)).2 = (zn_16, ftn_16)) (h_16 : r_16 = ((bgX nu a ce lo (16 - (dp + 1)) 13 (zn_2, ftn_2)).1)) (e_17 : v_17 = (r_16 * 2)) : (bgX nu a ce lo (16 - dp) (14 : Int32) (z, ft)).2 = (zn_16, ftn_16) := by
  first
  | omega
  | (rw [show 16 - dp = 0 by omega]; rfl)
  | (rw [show 16 - dp = (16 - (dp + 1)) + 1 by omega]; simp only [bgX]; grind)
theorem lf_X1_begin_s_10 {z : Nat} {a : Nat} {nu : Int32} {ce : Int32} {lo : Int32} {ft : Nat → Int32} {dp : Nat} {zn_2 : Nat} {ftn_2 : Nat → Int32} {zn_16 : Nat} {ftn_16 : Nat → Int32} {r_16 : Int32} {v_17 : Int32} (hz : z ≤ 16) (ha1 : 1 ≤ a) (ha5 : a ≤ 5) (hdn : dp ≤ 16) (c_1 : dp < 16) (hF_2_0 : zn_2 ≤ 16) (hF_2_1 : lvX (14 : Int32) (z, ft) = (zn_2, ftn_2)) (k_4 : ¬ (14 : Int32) = 10) (k_5 : ¬ (14 : Int32) = 11) (k_9 : ¬ (14 : Int32) = 12) (k_12 : ¬ (14 : Int32) = 13) (hF_16_0 : zn_16 ≤ 16) (hF_16_1 : (bgX nu a ce lo (16 - (dp + 1)) 13 (zn_2, ftn_2)).2 = (zn_16, ftn_16)) (h_16 : r_16 = ((bgX nu a ce lo (16 - (dp + 1)) 13 (zn_2, ftn_2)).1)) (e_17 : v_17 = (r_16 * 2)) : v_17 = ((bgX nu a ce lo (16 - dp) (14 : Int32) (z, ft)).1) := by
  first
  | omega
  | (rw [show 16 - dp = 0 by omega]; rfl)
  | (rw [show 16 - dp = (16 - (dp + 1)) + 1 by omega]; simp only [bgX]; grind)
theorem lf_X1_begin_s_11 {z : Nat} {a : Nat} {nu : Int32} {ce : Int32} {lo : Int32} {ft : Nat → Int32} {dp : Nat} {zn_2 : Nat} {ftn_2 : Nat → Int32} (hz : z ≤ 16) (ha1 : 1 ≤ a) (ha5 : a ≤ 5) (hdn : dp ≤ 16) (c_1 : dp < 16) (hF_2_0 : zn_2 ≤ 16) (hF_2_1 : lvX (15 : Int32) (z, ft) = (zn_2, ftn_2)) (k_4 : ¬ (15 : Int32) = 10) (k_5 : ¬ (15 : Int32) = 11) (k_9 : ¬ (15 : Int32) = 12) (k_12 : ¬ (15 : Int32) = 13) (k_15 : ¬ (15 : Int32) = 14) : (bgX nu a ce lo (16 - dp) (15 : Int32) (z, ft)).2 = (zn_2, ftn_2) := by
  first
  | omega
  | (rw [show 16 - dp = 0 by omega]; rfl)
  | (rw [show 16 - dp = (16 - (dp + 1)) + 1 by omega]; simp only [bgX]; grind)
theorem lf_X1_begin_s_12 {z : Nat} {a : Nat} {nu : Int32} {ce : Int32} {lo : Int32} {ft : Nat → Int32} {dp : Nat} {zn_2 : Nat} {ftn_2 : Nat → Int32} (hz : z ≤ 16) (ha1 : 1 ≤ a) (ha5 : a ≤ 5) (hdn : dp ≤ 16) (c_1 : dp < 16) (hF_2_0 : zn_2 ≤ 16) (hF_2_1 : lvX (15 : Int32) (z, ft) = (zn_2, ftn_2)) (k_4 : ¬ (15 : Int32) = 10) (k_5 : ¬ (15 : Int32) = 11) (k_9 : ¬ (15 : Int32) = 12) (k_12 : ¬ (15 : Int32) = 13) (k_15 : ¬ (15 : Int32) = 14) : 0 = ((bgX nu a ce lo (16 - dp) (15 : Int32) (z, ft)).1) := by
  first
  | omega
  | (rw [show 16 - dp = 0 by omega]; rfl)
  | (rw [show 16 - dp = (16 - (dp + 1)) + 1 by omega]; simp only [bgX]; grind)
theorem lf_X1_begin_s_13 {z : Nat} {a : Nat} {nu : Int32} {ce : Int32} {lo : Int32} {ft : Nat → Int32} {dp : Nat} {zn_2 : Nat} {ftn_2 : Nat → Int32} (hz : z ≤ 16) (ha1 : 1 ≤ a) (ha5 : a ≤ 5) (hdn : dp ≤ 16) (c_1 : dp < 16) (hF_2_0 : zn_2 ≤ 16) (hF_2_1 : lvX (16 : Int32) (z, ft) = (zn_2, ftn_2)) (k_4 : ¬ (16 : Int32) = 10) (k_5 : ¬ (16 : Int32) = 11) (k_9 : ¬ (16 : Int32) = 12) (k_12 : ¬ (16 : Int32) = 13) (k_15 : ¬ (16 : Int32) = 14) (k_18 : ¬ (16 : Int32) = 15) : (bgX nu a ce lo (16 - dp) (16 : Int32) (z, ft)).2 = (zn_2, ftn_2) := by
  first
  | omega
  | (rw [show 16 - dp = 0 by omega]; rfl)
  | (rw [show 16 - dp = (16 - (dp + 1)) + 1 by omega]; simp only [bgX]; grind)
theorem lf_X1_begin_s_14 {z : Nat} {a : Nat} {nu : Int32} {ce : Int32} {lo : Int32} {ft : Nat → Int32} {dp : Nat} {zn_2 : Nat} {ftn_2 : Nat → Int32} (hz : z ≤ 16) (ha1 : 1 ≤ a) (ha5 : a ≤ 5) (hdn : dp ≤ 16) (c_1 : dp < 16) (hF_2_0 : zn_2 ≤ 16) (hF_2_1 : lvX (16 : Int32) (z, ft) = (zn_2, ftn_2)) (k_4 : ¬ (16 : Int32) = 10) (k_5 : ¬ (16 : Int32) = 11) (k_9 : ¬ (16 : Int32) = 12) (k_12 : ¬ (16 : Int32) = 13) (k_15 : ¬ (16 : Int32) = 14) (k_18 : ¬ (16 : Int32) = 15) : 0 = ((bgX nu a ce lo (16 - dp) (16 : Int32) (z, ft)).1) := by
  first
  | omega
  | (rw [show 16 - dp = 0 by omega]; rfl)
  | (rw [show 16 - dp = (16 - (dp + 1)) + 1 by omega]; simp only [bgX]; grind)
theorem lf_X1_begin_s_15 {z : Nat} {a : Nat} {nu : Int32} {ce : Int32} {lo : Int32} {ft : Nat → Int32} {dp : Nat} {zn_2 : Nat} {ftn_2 : Nat → Int32} (hz : z ≤ 16) (ha1 : 1 ≤ a) (ha5 : a ≤ 5) (hdn : dp ≤ 16) (c_1 : dp < 16) (hF_2_0 : zn_2 ≤ 16) (hF_2_1 : lvX (17 : Int32) (z, ft) = (zn_2, ftn_2)) (k_4 : ¬ (17 : Int32) = 10) (k_5 : ¬ (17 : Int32) = 11) (k_9 : ¬ (17 : Int32) = 12) (k_12 : ¬ (17 : Int32) = 13) (k_15 : ¬ (17 : Int32) = 14) (k_18 : ¬ (17 : Int32) = 15) (k_19 : ¬ (17 : Int32) = 16) : (bgX nu a ce lo (16 - dp) (17 : Int32) (z, ft)).2 = (zn_2, ftn_2) := by
  first
  | omega
  | (rw [show 16 - dp = 0 by omega]; rfl)
  | (rw [show 16 - dp = (16 - (dp + 1)) + 1 by omega]; simp only [bgX]; grind)
theorem lf_X1_begin_s_16 {z : Nat} {a : Nat} {nu : Int32} {ce : Int32} {lo : Int32} {ft : Nat → Int32} {dp : Nat} {zn_2 : Nat} {ftn_2 : Nat → Int32} (hz : z ≤ 16) (ha1 : 1 ≤ a) (ha5 : a ≤ 5) (hdn : dp ≤ 16) (c_1 : dp < 16) (hF_2_0 : zn_2 ≤ 16) (hF_2_1 : lvX (17 : Int32) (z, ft) = (zn_2, ftn_2)) (k_4 : ¬ (17 : Int32) = 10) (k_5 : ¬ (17 : Int32) = 11) (k_9 : ¬ (17 : Int32) = 12) (k_12 : ¬ (17 : Int32) = 13) (k_15 : ¬ (17 : Int32) = 14) (k_18 : ¬ (17 : Int32) = 15) (k_19 : ¬ (17 : Int32) = 16) : 0 = ((bgX nu a ce lo (16 - dp) (17 : Int32) (z, ft)).1) := by
  first
  | omega
  | (rw [show 16 - dp = 0 by omega]; rfl)
  | (rw [show 16 - dp = (16 - (dp + 1)) + 1 by omega]; simp only [bgX]; grind)
theorem lf_X1_begin_s_17 {z : Nat} {a : Nat} {nu : Int32} {ce : Int32} {lo : Int32} {ft : Nat → Int32} {dp : Nat} {zn_2 : Nat} {ftn_2 : Nat → Int32} (hz : z ≤ 16) (ha1 : 1 ≤ a) (ha5 : a ≤ 5) (hdn : dp ≤ 16) (c_1 : dp < 16) (hF_2_0 : zn_2 ≤ 16) (hF_2_1 : lvX (18 : Int32) (z, ft) = (zn_2, ftn_2)) (k_4 : ¬ (18 : Int32) = 10) (k_5 : ¬ (18 : Int32) = 11) (k_9 : ¬ (18 : Int32) = 12) (k_12 : ¬ (18 : Int32) = 13) (k_15 : ¬ (18 : Int32) = 14) (k_18 : ¬ (18 : Int32) = 15) (k_19 : ¬ (18 : Int32) = 16) (k_20 : ¬ (18 : Int32) = 17) : (bgX nu a ce lo (16 - dp) (18 : Int32) (z, ft)).2 = (zn_2, ftn_2) := by
  first
  | omega
  | (rw [show 16 - dp = 0 by omega]; rfl)
  | (rw [show 16 - dp = (16 - (dp + 1)) + 1 by omega]; simp only [bgX]; grind)
theorem lf_X1_begin_s_18 {z : Nat} {a : Nat} {nu : Int32} {ce : Int32} {lo : Int32} {ft : Nat → Int32} {dp : Nat} {zn_2 : Nat} {ftn_2 : Nat → Int32} (hz : z ≤ 16) (ha1 : 1 ≤ a) (ha5 : a ≤ 5) (hdn : dp ≤ 16) (c_1 : dp < 16) (hF_2_0 : zn_2 ≤ 16) (hF_2_1 : lvX (18 : Int32) (z, ft) = (zn_2, ftn_2)) (k_4 : ¬ (18 : Int32) = 10) (k_5 : ¬ (18 : Int32) = 11) (k_9 : ¬ (18 : Int32) = 12) (k_12 : ¬ (18 : Int32) = 13) (k_15 : ¬ (18 : Int32) = 14) (k_18 : ¬ (18 : Int32) = 15) (k_19 : ¬ (18 : Int32) = 16) (k_20 : ¬ (18 : Int32) = 17) : 0 = ((bgX nu a ce lo (16 - dp) (18 : Int32) (z, ft)).1) := by
  first
  | omega
  | (rw [show 16 - dp = 0 by omega]; rfl)
  | (rw [show 16 - dp = (16 - (dp + 1)) + 1 by omega]; simp only [bgX]; grind)
theorem lf_X1_begin_s_19 {z : Nat} {a : Nat} {nu : Int32} {ce : Int32} {lo : Int32} {ft : Nat → Int32} {dp : Nat} {zn_2 : Nat} {ftn_2 : Nat → Int32} (hz : z ≤ 16) (ha1 : 1 ≤ a) (ha5 : a ≤ 5) (hdn : dp ≤ 16) (c_1 : dp < 16) (hF_2_0 : zn_2 ≤ 16) (hF_2_1 : lvX (19 : Int32) (z, ft) = (zn_2, ftn_2)) (k_4 : ¬ (19 : Int32) = 10) (k_5 : ¬ (19 : Int32) = 11) (k_9 : ¬ (19 : Int32) = 12) (k_12 : ¬ (19 : Int32) = 13) (k_15 : ¬ (19 : Int32) = 14) (k_18 : ¬ (19 : Int32) = 15) (k_19 : ¬ (19 : Int32) = 16) (k_20 : ¬ (19 : Int32) = 17) (k_21 : ¬ (19 : Int32) = 18) : (bgX nu a ce lo (16 - dp) (19 : Int32) (z, ft)).2 = (zn_2, ftn_2) := by
  first
  | omega
  | (rw [show 16 - dp = 0 by omega]; rfl)
  | (rw [show 16 - dp = (16 - (dp + 1)) + 1 by omega]; simp only [bgX]; grind)
theorem lf_X1_begin_s_20 {z : Nat} {a : Nat} {nu : Int32} {ce : Int32} {lo : Int32} {ft : Nat → Int32} {dp : Nat} {zn_2 : Nat} {ftn_2 : Nat → Int32} (hz : z ≤ 16) (ha1 : 1 ≤ a) (ha5 : a ≤ 5) (hdn : dp ≤ 16) (c_1 : dp < 16) (hF_2_0 : zn_2 ≤ 16) (hF_2_1 : lvX (19 : Int32) (z, ft) = (zn_2, ftn_2)) (k_4 : ¬ (19 : Int32) = 10) (k_5 : ¬ (19 : Int32) = 11) (k_9 : ¬ (19 : Int32) = 12) (k_12 : ¬ (19 : Int32) = 13) (k_15 : ¬ (19 : Int32) = 14) (k_18 : ¬ (19 : Int32) = 15) (k_19 : ¬ (19 : Int32) = 16) (k_20 : ¬ (19 : Int32) = 17) (k_21 : ¬ (19 : Int32) = 18) : 0 = ((bgX nu a ce lo (16 - dp) (19 : Int32) (z, ft)).1) := by
  first
  | omega
  | (rw [show 16 - dp = 0 by omega]; rfl)
  | (rw [show 16 - dp = (16 - (dp + 1)) + 1 by omega]; simp only [bgX]; grind)
theorem lf_X1_begin_s_21 {z : Nat} {a : Nat} {nu : Int32} {ce : Int32} {lo : Int32} {ft : Nat → Int32} {dp : Nat} {zn_2 : Nat} {ftn_2 : Nat → Int32} (hz : z ≤ 16) (ha1 : 1 ≤ a) (ha5 : a ≤ 5) (hdn : dp ≤ 16) (c_1 : dp < 16) (hF_2_0 : zn_2 ≤ 16) (hF_2_1 : lvX (20 : Int32) (z, ft) = (zn_2, ftn_2)) (k_4 : ¬ (20 : Int32) = 10) (k_5 : ¬ (20 : Int32) = 11) (k_9 : ¬ (20 : Int32) = 12) (k_12 : ¬ (20 : Int32) = 13) (k_15 : ¬ (20 : Int32) = 14) (k_18 : ¬ (20 : Int32) = 15) (k_19 : ¬ (20 : Int32) = 16) (k_20 : ¬ (20 : Int32) = 17) (k_21 : ¬ (20 : Int32) = 18) (k_22 : ¬ (20 : Int32) = 19) : (bgX nu a ce lo (16 - dp) (20 : Int32) (z, ft)).2 = (zn_2, ftn_2) := by
  first
  | omega
  | (rw [show 16 - dp = 0 by omega]; rfl)
  | (rw [show 16 - dp = (16 - (dp + 1)) + 1 by omega]; simp only [bgX]; grind)
theorem lf_X1_begin_s_22 {z : Nat} {a : Nat} {nu : Int32} {ce : Int32} {lo : Int32} {ft : Nat → Int32} {dp : Nat} {zn_2 : Nat} {ftn_2 : Nat → Int32} (hz : z ≤ 16) (ha1 : 1 ≤ a) (ha5 : a ≤ 5) (hdn : dp ≤ 16) (c_1 : dp < 16) (hF_2_0 : zn_2 ≤ 16) (hF_2_1 : lvX (20 : Int32) (z, ft) = (zn_2, ftn_2)) (k_4 : ¬ (20 : Int32) = 10) (k_5 : ¬ (20 : Int32) = 11) (k_9 : ¬ (20 : Int32) = 12) (k_12 : ¬ (20 : Int32) = 13) (k_15 : ¬ (20 : Int32) = 14) (k_18 : ¬ (20 : Int32) = 15) (k_19 : ¬ (20 : Int32) = 16) (k_20 : ¬ (20 : Int32) = 17) (k_21 : ¬ (20 : Int32) = 18) (k_22 : ¬ (20 : Int32) = 19) : nu = ((bgX nu a ce lo (16 - dp) (20 : Int32) (z, ft)).1) := by
  first
  | omega
  | (rw [show 16 - dp = 0 by omega]; rfl)
  | (rw [show 16 - dp = (16 - (dp + 1)) + 1 by omega]; simp only [bgX]; grind)
theorem lf_X1_begin_s_23 {z : Nat} {a : Nat} {nu : Int32} {ce : Int32} {lo : Int32} {ft : Nat → Int32} {dp : Nat} {zn_2 : Nat} {ftn_2 : Nat → Int32} {zn_25 : Nat} {ftn_25 : Nat → Int32} {r_25 : Int32} {v_26 : Int32} (hz : z ≤ 16) (ha1 : 1 ≤ a) (ha5 : a ≤ 5) (hdn : dp ≤ 16) (c_1 : dp < 16) (hF_2_0 : zn_2 ≤ 16) (hF_2_1 : lvX (21 : Int32) (z, ft) = (zn_2, ftn_2)) (k_4 : ¬ (21 : Int32) = 10) (k_5 : ¬ (21 : Int32) = 11) (k_9 : ¬ (21 : Int32) = 12) (k_12 : ¬ (21 : Int32) = 13) (k_15 : ¬ (21 : Int32) = 14) (k_18 : ¬ (21 : Int32) = 15) (k_19 : ¬ (21 : Int32) = 16) (k_20 : ¬ (21 : Int32) = 17) (k_21 : ¬ (21 : Int32) = 18) (k_22 : ¬ (21 : Int32) = 19) (k_23 : ¬ (21 : Int32) = 20) (hF_25_0 : zn_25 ≤ 16) (hF_25_1 : (bgX nu a ce lo (16 - (dp + 1)) 20 (zn_2, ftn_2)).2 = (zn_25, ftn_25)) (h_25 : r_25 = ((bgX nu a ce lo (16 - (dp + 1)) 20 (zn_2, ftn_2)).1)) (e_26 : v_26 = (r_25 + ce)) : (bgX nu a ce lo (16 - dp) (21 : Int32) (z, ft)).2 = (zn_25, ftn_25) := by
  first
  | omega
  | (rw [show 16 - dp = 0 by omega]; rfl)
  | (rw [show 16 - dp = (16 - (dp + 1)) + 1 by omega]; simp only [bgX]; grind)
theorem lf_X1_begin_s_24 {z : Nat} {a : Nat} {nu : Int32} {ce : Int32} {lo : Int32} {ft : Nat → Int32} {dp : Nat} {zn_2 : Nat} {ftn_2 : Nat → Int32} {zn_25 : Nat} {ftn_25 : Nat → Int32} {r_25 : Int32} {v_26 : Int32} (hz : z ≤ 16) (ha1 : 1 ≤ a) (ha5 : a ≤ 5) (hdn : dp ≤ 16) (c_1 : dp < 16) (hF_2_0 : zn_2 ≤ 16) (hF_2_1 : lvX (21 : Int32) (z, ft) = (zn_2, ftn_2)) (k_4 : ¬ (21 : Int32) = 10) (k_5 : ¬ (21 : Int32) = 11) (k_9 : ¬ (21 : Int32) = 12) (k_12 : ¬ (21 : Int32) = 13) (k_15 : ¬ (21 : Int32) = 14) (k_18 : ¬ (21 : Int32) = 15) (k_19 : ¬ (21 : Int32) = 16) (k_20 : ¬ (21 : Int32) = 17) (k_21 : ¬ (21 : Int32) = 18) (k_22 : ¬ (21 : Int32) = 19) (k_23 : ¬ (21 : Int32) = 20) (hF_25_0 : zn_25 ≤ 16) (hF_25_1 : (bgX nu a ce lo (16 - (dp + 1)) 20 (zn_2, ftn_2)).2 = (zn_25, ftn_25)) (h_25 : r_25 = ((bgX nu a ce lo (16 - (dp + 1)) 20 (zn_2, ftn_2)).1)) (e_26 : v_26 = (r_25 + ce)) : v_26 = ((bgX nu a ce lo (16 - dp) (21 : Int32) (z, ft)).1) := by
  first
  | omega
  | (rw [show 16 - dp = 0 by omega]; rfl)
  | (rw [show 16 - dp = (16 - (dp + 1)) + 1 by omega]; simp only [bgX]; grind)
theorem lf_X1_begin_s_25 {z : Nat} {a : Nat} {nu : Int32} {ce : Int32} {lo : Int32} {ft : Nat → Int32} {dp : Nat} {zn_2 : Nat} {ftn_2 : Nat → Int32} {zn_28 : Nat} {ftn_28 : Nat → Int32} {r_28 : Int32} {v_29 : Int32} (hz : z ≤ 16) (ha1 : 1 ≤ a) (ha5 : a ≤ 5) (hdn : dp ≤ 16) (c_1 : dp < 16) (hF_2_0 : zn_2 ≤ 16) (hF_2_1 : lvX (22 : Int32) (z, ft) = (zn_2, ftn_2)) (k_4 : ¬ (22 : Int32) = 10) (k_5 : ¬ (22 : Int32) = 11) (k_9 : ¬ (22 : Int32) = 12) (k_12 : ¬ (22 : Int32) = 13) (k_15 : ¬ (22 : Int32) = 14) (k_18 : ¬ (22 : Int32) = 15) (k_19 : ¬ (22 : Int32) = 16) (k_20 : ¬ (22 : Int32) = 17) (k_21 : ¬ (22 : Int32) = 18) (k_22 : ¬ (22 : Int32) = 19) (k_23 : ¬ (22 : Int32) = 20) (k_24 : ¬ (22 : Int32) = 21) (hF_28_0 : zn_28 ≤ 16) (hF_28_1 : (bgX nu a ce lo (16 - (dp + 1)) 21 (zn_2, ftn_2)).2 = (zn_28, ftn_28)) (h_28 : r_28 = ((bgX nu a ce lo (16 - (dp + 1)) 21 (zn_2, ftn_2)).1)) (e_29 : v_29 = (r_28 - 1000)) : (bgX nu a ce lo (16 - dp) (22 : Int32) (z, ft)).2 = (zn_28, ftn_28) := by
  first
  | omega
  | (rw [show 16 - dp = 0 by omega]; rfl)
  | (rw [show 16 - dp = (16 - (dp + 1)) + 1 by omega]; simp only [bgX]; grind)
theorem lf_X1_begin_s_26 {z : Nat} {a : Nat} {nu : Int32} {ce : Int32} {lo : Int32} {ft : Nat → Int32} {dp : Nat} {zn_2 : Nat} {ftn_2 : Nat → Int32} {zn_28 : Nat} {ftn_28 : Nat → Int32} {r_28 : Int32} {v_29 : Int32} (hz : z ≤ 16) (ha1 : 1 ≤ a) (ha5 : a ≤ 5) (hdn : dp ≤ 16) (c_1 : dp < 16) (hF_2_0 : zn_2 ≤ 16) (hF_2_1 : lvX (22 : Int32) (z, ft) = (zn_2, ftn_2)) (k_4 : ¬ (22 : Int32) = 10) (k_5 : ¬ (22 : Int32) = 11) (k_9 : ¬ (22 : Int32) = 12) (k_12 : ¬ (22 : Int32) = 13) (k_15 : ¬ (22 : Int32) = 14) (k_18 : ¬ (22 : Int32) = 15) (k_19 : ¬ (22 : Int32) = 16) (k_20 : ¬ (22 : Int32) = 17) (k_21 : ¬ (22 : Int32) = 18) (k_22 : ¬ (22 : Int32) = 19) (k_23 : ¬ (22 : Int32) = 20) (k_24 : ¬ (22 : Int32) = 21) (hF_28_0 : zn_28 ≤ 16) (hF_28_1 : (bgX nu a ce lo (16 - (dp + 1)) 21 (zn_2, ftn_2)).2 = (zn_28, ftn_28)) (h_28 : r_28 = ((bgX nu a ce lo (16 - (dp + 1)) 21 (zn_2, ftn_2)).1)) (e_29 : v_29 = (r_28 - 1000)) : v_29 = ((bgX nu a ce lo (16 - dp) (22 : Int32) (z, ft)).1) := by
  first
  | omega
  | (rw [show 16 - dp = 0 by omega]; rfl)
  | (rw [show 16 - dp = (16 - (dp + 1)) + 1 by omega]; simp only [bgX]; grind)
theorem lf_X1_begin_s_27 {z : Nat} {a : Nat} {nu : Int32} {ce : Int32} {lo : Int32} {ft : Nat → Int32} {dp : Nat} {zn_2 : Nat} {ftn_2 : Nat → Int32} {zn_31 : Nat} {ftn_31 : Nat → Int32} {r_31 : Int32} {zn_32 : Nat} {ftn_32 : Nat → Int32} {r_32 : Int32} {v_33 : Int32} (hz : z ≤ 16) (ha1 : 1 ≤ a) (ha5 : a ≤ 5) (hdn : dp ≤ 16) (c_1 : dp < 16) (hF_2_0 : zn_2 ≤ 16) (hF_2_1 : lvX (23 : Int32) (z, ft) = (zn_2, ftn_2)) (k_4 : ¬ (23 : Int32) = 10) (k_5 : ¬ (23 : Int32) = 11) (k_9 : ¬ (23 : Int32) = 12) (k_12 : ¬ (23 : Int32) = 13) (k_15 : ¬ (23 : Int32) = 14) (k_18 : ¬ (23 : Int32) = 15) (k_19 : ¬ (23 : Int32) = 16) (k_20 : ¬ (23 : Int32) = 17) (k_21 : ¬ (23 : Int32) = 18) (k_22 : ¬ (23 : Int32) = 19) (k_23 : ¬ (23 : Int32) = 20) (k_24 : ¬ (23 : Int32) = 21) (k_27 : ¬ (23 : Int32) = 22) (hF_31_0 : zn_31 ≤ 16) (hF_31_1 : (bgX nu a ce lo (16 - (dp + 1)) 20 (zn_2, ftn_2)).2 = (zn_31, ftn_31)) (h_31 : r_31 = ((bgX nu a ce lo (16 - (dp + 1)) 20 (zn_2, ftn_2)).1)) (hF_32_0 : zn_32 ≤ 16) (hF_32_1 : (bgX nu a ce lo (16 - (dp + 1)) (bfX a 0) (zn_31, ftn_31)).2 = (zn_32, ftn_32)) (h_32 : r_32 = ((bgX nu a ce lo (16 - (dp + 1)) (bfX a 0) (zn_31, ftn_31)).1)) (e_33 : v_33 = (r_31 - r_32)) : (bgX nu a ce lo (16 - dp) (23 : Int32) (z, ft)).2 = (zn_32, ftn_32) := by
  first
  | omega
  | (rw [show 16 - dp = 0 by omega]; rfl)
  | (rw [show 16 - dp = (16 - (dp + 1)) + 1 by omega]; simp only [bgX]; grind)
theorem lf_X1_begin_s_28 {z : Nat} {a : Nat} {nu : Int32} {ce : Int32} {lo : Int32} {ft : Nat → Int32} {dp : Nat} {zn_2 : Nat} {ftn_2 : Nat → Int32} {zn_31 : Nat} {ftn_31 : Nat → Int32} {r_31 : Int32} {zn_32 : Nat} {ftn_32 : Nat → Int32} {r_32 : Int32} {v_33 : Int32} (hz : z ≤ 16) (ha1 : 1 ≤ a) (ha5 : a ≤ 5) (hdn : dp ≤ 16) (c_1 : dp < 16) (hF_2_0 : zn_2 ≤ 16) (hF_2_1 : lvX (23 : Int32) (z, ft) = (zn_2, ftn_2)) (k_4 : ¬ (23 : Int32) = 10) (k_5 : ¬ (23 : Int32) = 11) (k_9 : ¬ (23 : Int32) = 12) (k_12 : ¬ (23 : Int32) = 13) (k_15 : ¬ (23 : Int32) = 14) (k_18 : ¬ (23 : Int32) = 15) (k_19 : ¬ (23 : Int32) = 16) (k_20 : ¬ (23 : Int32) = 17) (k_21 : ¬ (23 : Int32) = 18) (k_22 : ¬ (23 : Int32) = 19) (k_23 : ¬ (23 : Int32) = 20) (k_24 : ¬ (23 : Int32) = 21) (k_27 : ¬ (23 : Int32) = 22) (hF_31_0 : zn_31 ≤ 16) (hF_31_1 : (bgX nu a ce lo (16 - (dp + 1)) 20 (zn_2, ftn_2)).2 = (zn_31, ftn_31)) (h_31 : r_31 = ((bgX nu a ce lo (16 - (dp + 1)) 20 (zn_2, ftn_2)).1)) (hF_32_0 : zn_32 ≤ 16) (hF_32_1 : (bgX nu a ce lo (16 - (dp + 1)) (bfX a 0) (zn_31, ftn_31)).2 = (zn_32, ftn_32)) (h_32 : r_32 = ((bgX nu a ce lo (16 - (dp + 1)) (bfX a 0) (zn_31, ftn_31)).1)) (e_33 : v_33 = (r_31 - r_32)) : v_33 = ((bgX nu a ce lo (16 - dp) (23 : Int32) (z, ft)).1) := by
  first
  | omega
  | (rw [show 16 - dp = 0 by omega]; rfl)
  | (rw [show 16 - dp = (16 - (dp + 1)) + 1 by omega]; simp only [bgX]; grind)
theorem lf_X1_begin_s_29 {z : Nat} {a : Nat} {nu : Int32} {ce : Int32} {lo : Int32} {ft : Nat → Int32} {dp : Nat} {zn_2 : Nat} {ftn_2 : Nat → Int32} {zn_35 : Nat} {ftn_35 : Nat → Int32} {r_35 : Int32} {v_36 : Int32} (hz : z ≤ 16) (ha1 : 1 ≤ a) (ha5 : a ≤ 5) (hdn : dp ≤ 16) (c_1 : dp < 16) (hF_2_0 : zn_2 ≤ 16) (hF_2_1 : lvX (24 : Int32) (z, ft) = (zn_2, ftn_2)) (k_4 : ¬ (24 : Int32) = 10) (k_5 : ¬ (24 : Int32) = 11) (k_9 : ¬ (24 : Int32) = 12) (k_12 : ¬ (24 : Int32) = 13) (k_15 : ¬ (24 : Int32) = 14) (k_18 : ¬ (24 : Int32) = 15) (k_19 : ¬ (24 : Int32) = 16) (k_20 : ¬ (24 : Int32) = 17) (k_21 : ¬ (24 : Int32) = 18) (k_22 : ¬ (24 : Int32) = 19) (k_23 : ¬ (24 : Int32) = 20) (k_24 : ¬ (24 : Int32) = 21) (k_27 : ¬ (24 : Int32) = 22) (k_30 : ¬ (24 : Int32) = 23) (hF_35_0 : zn_35 ≤ 16) (hF_35_1 : (bgX nu a ce lo (16 - (dp + 1)) 21 (zn_2, ftn_2)).2 = (zn_35, ftn_35)) (h_35 : r_35 = ((bgX nu a ce lo (16 - (dp + 1)) 21 (zn_2, ftn_2)).1)) (e_36 : v_36 = (r_35 * 2)) : (bgX nu a ce lo (16 - dp) (24 : Int32) (z, ft)).2 = (zn_35, ftn_35) := by
  first
  | omega
  | (rw [show 16 - dp = 0 by omega]; rfl)
  | (rw [show 16 - dp = (16 - (dp + 1)) + 1 by omega]; simp only [bgX]; grind)
theorem lf_X1_begin_s_30 {z : Nat} {a : Nat} {nu : Int32} {ce : Int32} {lo : Int32} {ft : Nat → Int32} {dp : Nat} {zn_2 : Nat} {ftn_2 : Nat → Int32} {zn_35 : Nat} {ftn_35 : Nat → Int32} {r_35 : Int32} {v_36 : Int32} (hz : z ≤ 16) (ha1 : 1 ≤ a) (ha5 : a ≤ 5) (hdn : dp ≤ 16) (c_1 : dp < 16) (hF_2_0 : zn_2 ≤ 16) (hF_2_1 : lvX (24 : Int32) (z, ft) = (zn_2, ftn_2)) (k_4 : ¬ (24 : Int32) = 10) (k_5 : ¬ (24 : Int32) = 11) (k_9 : ¬ (24 : Int32) = 12) (k_12 : ¬ (24 : Int32) = 13) (k_15 : ¬ (24 : Int32) = 14) (k_18 : ¬ (24 : Int32) = 15) (k_19 : ¬ (24 : Int32) = 16) (k_20 : ¬ (24 : Int32) = 17) (k_21 : ¬ (24 : Int32) = 18) (k_22 : ¬ (24 : Int32) = 19) (k_23 : ¬ (24 : Int32) = 20) (k_24 : ¬ (24 : Int32) = 21) (k_27 : ¬ (24 : Int32) = 22) (k_30 : ¬ (24 : Int32) = 23) (hF_35_0 : zn_35 ≤ 16) (hF_35_1 : (bgX nu a ce lo (16 - (dp + 1)) 21 (zn_2, ftn_2)).2 = (zn_35, ftn_35)) (h_35 : r_35 = ((bgX nu a ce lo (16 - (dp + 1)) 21 (zn_2, ftn_2)).1)) (e_36 : v_36 = (r_35 * 2)) : v_36 = ((bgX nu a ce lo (16 - dp) (24 : Int32) (z, ft)).1) := by
  first
  | omega
  | (rw [show 16 - dp = 0 by omega]; rfl)
  | (rw [show 16 - dp = (16 - (dp + 1)) + 1 by omega]; simp only [bgX]; grind)
theorem lf_X1_begin_s_31 {z : Nat} {a : Nat} {nu : Int32} {ce : Int32} {lo : Int32} {ft : Nat → Int32} {dp : Nat} {x : Int32} {zn_2 : Nat} {ftn_2 : Nat → Int32} (hz : z ≤ 16) (ha1 : 1 ≤ a) (ha5 : a ≤ 5) (hdn : dp ≤ 16) (c_1 : dp < 16) (hF_2_0 : zn_2 ≤ 16) (hF_2_1 : lvX x (z, ft) = (zn_2, ftn_2)) (k_4 : ¬ x = 10) (k_5 : ¬ x = 11) (k_9 : ¬ x = 12) (k_12 : ¬ x = 13) (k_15 : ¬ x = 14) (k_18 : ¬ x = 15) (k_19 : ¬ x = 16) (k_20 : ¬ x = 17) (k_21 : ¬ x = 18) (k_22 : ¬ x = 19) (k_23 : ¬ x = 20) (k_24 : ¬ x = 21) (k_27 : ¬ x = 22) (k_30 : ¬ x = 23) (k_34 : ¬ x = 24) : (bgX nu a ce lo (16 - dp) x (z, ft)).2 = (zn_2, ftn_2) := by
  first
  | omega
  | (rw [show 16 - dp = 0 by omega]; rfl)
  | (rw [show 16 - dp = (16 - (dp + 1)) + 1 by omega]; simp only [bgX]; grind)
theorem lf_X1_begin_s_32 {z : Nat} {a : Nat} {nu : Int32} {ce : Int32} {lo : Int32} {ft : Nat → Int32} {dp : Nat} {x : Int32} {zn_2 : Nat} {ftn_2 : Nat → Int32} (hz : z ≤ 16) (ha1 : 1 ≤ a) (ha5 : a ≤ 5) (hdn : dp ≤ 16) (c_1 : dp < 16) (hF_2_0 : zn_2 ≤ 16) (hF_2_1 : lvX x (z, ft) = (zn_2, ftn_2)) (k_4 : ¬ x = 10) (k_5 : ¬ x = 11) (k_9 : ¬ x = 12) (k_12 : ¬ x = 13) (k_15 : ¬ x = 14) (k_18 : ¬ x = 15) (k_19 : ¬ x = 16) (k_20 : ¬ x = 17) (k_21 : ¬ x = 18) (k_22 : ¬ x = 19) (k_23 : ¬ x = 20) (k_24 : ¬ x = 21) (k_27 : ¬ x = 22) (k_30 : ¬ x = 23) (k_34 : ¬ x = 24) : 0 = ((bgX nu a ce lo (16 - dp) x (z, ft)).1) := by
  first
  | omega
  | (rw [show 16 - dp = 0 by omega]; rfl)
  | (rw [show 16 - dp = (16 - (dp + 1)) + 1 by omega]; simp only [bgX]; grind)
theorem lf_X1_begin_s_33 {z : Nat} {a : Nat} {nu : Int32} {ce : Int32} {lo : Int32} {ft : Nat → Int32} {dp : Nat} {x : Int32} (hz : z ≤ 16) (ha1 : 1 ≤ a) (ha5 : a ≤ 5) (hdn : dp ≤ 16) (c_1 : ¬ (dp < 16)) : (bgX nu a ce lo (16 - dp) x (z, ft)).2 = (z, ft) := by
  first
  | omega
  | (rw [show 16 - dp = 0 by omega]; rfl)
  | (rw [show 16 - dp = (16 - (dp + 1)) + 1 by omega]; simp only [bgX]; grind)
theorem lf_X1_begin_s_34 {z : Nat} {a : Nat} {nu : Int32} {ce : Int32} {lo : Int32} {ft : Nat → Int32} {dp : Nat} {x : Int32} (hz : z ≤ 16) (ha1 : 1 ≤ a) (ha5 : a ≤ 5) (hdn : dp ≤ 16) (c_1 : ¬ (dp < 16)) : 0 = ((bgX nu a ce lo (16 - dp) x (z, ft)).1) := by
  first
  | omega
  | (rw [show 16 - dp = 0 by omega]; rfl)
  | (rw [show 16 - dp = (16 - (dp + 1)) + 1 by omega]; simp only [bgX]; grind)
set_option maxHeartbeats 4000000 in
set_option maxRecDepth 100000 in
theorem r_X1_begin_s (l : Launch) (dC : Nat → ClassId) (dI : Nat → Nat → Nat) (cI cZ cL cJ : ClassId) (sz : Nat) (k9 : Nat) (tc : Nat) (z : Nat) (a : Nat) (nu : Int32) (ce : Int32) (lo : Int32) (ft : Nat → Int32) (dp : Nat) (x : Int32) (hz : z ≤ 16) (ha1 : 1 ≤ a) (ha5 : a ≤ 5) (hdn : dp ≤ 16) (IHb : ∀ (l : Launch) (dC : Nat → ClassId) (dI : Nat → Nat → Nat) (cI cZ cL cJ : ClassId) (sz : Nat) (k9 : Nat) (tc : Nat) (z : Nat) (a : Nat) (nu : Int32) (ce : Int32) (lo : Int32) (ft : Nat → Int32) (x : Int32) (hz : z ≤ 16) (ha1 : 1 ≤ a) (ha5 : a ≤ 5) (hdn : (dp + 1) ≤ 16), Met l yX1_begin wsX1_begin ({ frames := 40 - 2 * (dp + 1), cells := 0, slots := 0, locals := 4000 - 100 * (dp + 1) }) (va_Pc [.ref k9, .int x, .int (nI (dp + 1))] (fun U => U.heap.size = sz ∧ va_P (dC, dI) vwCl [(xo_1_riiiii k9 tc (nI z) nu (nI a) ce lo), (xI tc cI 16 ft)] U.heap ∧ va_K (dC, dI) vwCl [(cI, .int), (cZ, .boolean), (cL, .object RX3), (cJ, .array .int)] U ∧ va_D (fun _ => True) [(xo_1_riiiii k9 tc (nI z) nu (nI a) ce lo), (xI tc cI 16 ft)] ∧ stt (va_A [(xo_1_riiiii k9 tc (nI z) nu (nI a) ce lo), (xI tc cI 16 ft)] sz) U U.heap)) (va_Qi (fun r (_ : Unit) => r = ((bgX nu a ce lo (16 - (dp + 1)) x (z, ft)).1)) (fun (_ : Unit) t => ∃ (zn : Nat) (ftn : Nat → Int32), va_P (dC, dI) vwCl [(xo_1_riiiii k9 tc (nI zn) nu (nI a) ce lo), (xI tc cI 16 ftn)] t.heap ∧ va_D (va_A [(xo_1_riiiii k9 tc (nI z) nu (nI a) ce lo), (xI tc cI 16 ft)] sz) [(xo_1_riiiii k9 tc (nI zn) nu (nI a) ce lo), (xI tc cI 16 ftn)] ∧ zn ≤ 16 ∧ (bgX nu a ce lo (16 - (dp + 1)) x (z, ft)).2 = (zn, ftn)) (va_A [(xo_1_riiiii k9 tc (nI z) nu (nI a) ce lo), (xI tc cI 16 ft)] sz)) 0 0 (va_A [(xo_1_riiiii k9 tc (nI z) nu (nI a) ce lo), (xI tc cI 16 ft)] sz)) (IHa : ∀ (l : Launch) (dC : Nat → ClassId) (dI : Nat → Nat → Nat) (cI cZ cL cJ : ClassId) (sz : Nat) (k9 : Nat) (tc : Nat) (z : Nat) (a : Nat) (nu : Int32) (ce : Int32) (lo : Int32) (ft : Nat → Int32) (x : Int32) (hz : z ≤ 16) (ha1 : 1 ≤ a) (ha5 : a ≤ 5) (hdn : (dp + 1) ≤ 16) (hx01 : x = 0 ∨ x = 1), Met l yX1_askAnew wsX1_askAnew ({ frames := 41 - 2 * (dp + 1), cells := 0, slots := 0, locals := 4050 - 100 * (dp + 1) }) (va_Pc [.ref k9, .int x, .int (nI (dp + 1))] (fun U => U.heap.size = sz ∧ va_P (dC, dI) vwCl [(xo_1_riiiii k9 tc (nI z) nu (nI a) ce lo), (xI tc cI 16 ft)] U.heap ∧ va_K (dC, dI) vwCl [(cI, .int), (cZ, .boolean), (cL, .object RX3), (cJ, .array .int)] U ∧ va_D (fun _ => True) [(xo_1_riiiii k9 tc (nI z) nu (nI a) ce lo), (xI tc cI 16 ft)] ∧ stt (va_A [(xo_1_riiiii k9 tc (nI z) nu (nI a) ce lo), (xI tc cI 16 ft)] sz) U U.heap)) (va_Qi (fun r (_ : Unit) => r = ((bgX nu a ce lo (16 - (dp + 1)) (bfX a x) (z, ft)).1)) (fun (_ : Unit) t => ∃ (zn : Nat) (ftn : Nat → Int32), va_P (dC, dI) vwCl [(xo_1_riiiii k9 tc (nI zn) nu (nI a) ce lo), (xI tc cI 16 ftn)] t.heap ∧ va_D (va_A [(xo_1_riiiii k9 tc (nI z) nu (nI a) ce lo), (xI tc cI 16 ft)] sz) [(xo_1_riiiii k9 tc (nI zn) nu (nI a) ce lo), (xI tc cI 16 ftn)] ∧ zn ≤ 16 ∧ (bgX nu a ce lo (16 - (dp + 1)) (bfX a x) (z, ft)).2 = (zn, ftn)) (va_A [(xo_1_riiiii k9 tc (nI z) nu (nI a) ce lo), (xI tc cI 16 ft)] sz)) 0 0 (va_A [(xo_1_riiiii k9 tc (nI z) nu (nI a) ce lo), (xI tc cI 16 ft)] sz)) : Met l yX1_begin wsX1_begin ({ frames := 40 - 2 * dp, cells := 0, slots := 0, locals := 4000 - 100 * dp }) (va_Pc [.ref k9, .int x, .int (nI dp)] (fun U => U.heap.size = sz ∧ va_P (dC, dI) vwCl [(xo_1_riiiii k9 tc (nI z) nu (nI a) ce lo), (xI tc cI 16 ft)] U.heap ∧ va_K (dC, dI) vwCl [(cI, .int), (cZ, .boolean), (cL, .object RX3), (cJ, .array .int)] U ∧ va_D (fun _ => True) [(xo_1_riiiii k9 tc (nI z) nu (nI a) ce lo), (xI tc cI 16 ft)] ∧ stt (va_A [(xo_1_riiiii k9 tc (nI z) nu (nI a) ce lo), (xI tc cI 16 ft)] sz) U U.heap)) (va_Qi (fun r (_ : Unit) => r = ((bgX nu a ce lo (16 - dp) x (z, ft)).1)) (fun (_ : Unit) t => ∃ (zn : Nat) (ftn : Nat → Int32), va_P (dC, dI) vwCl [(xo_1_riiiii k9 tc (nI zn) nu (nI a) ce lo), (xI tc cI 16 ftn)] t.heap ∧ va_D (va_A [(xo_1_riiiii k9 tc (nI z) nu (nI a) ce lo), (xI tc cI 16 ft)] sz) [(xo_1_riiiii k9 tc (nI zn) nu (nI a) ce lo), (xI tc cI 16 ftn)] ∧ zn ≤ 16 ∧ (bgX nu a ce lo (16 - dp) x (z, ft)).2 = (zn, ftn)) (va_A [(xo_1_riiiii k9 tc (nI z) nu (nI a) ce lo), (xI tc cI 16 ft)] sz)) 0 0 (va_A [(xo_1_riiiii k9 tc (nI z) nu (nI a) ce lo), (xI tc cI 16 ft)] sz) := by
  refine Met.ofW (cc := cX1_begin) (maxL := 4) (ret := (some .int)) (by decide) rfl ?_
  intro p e s m args below meth c s₁ B hml hv
  obtain ⟨rfl, hsz, hP, hK, hD0, hst⟩ := hv
  have hx := B.exec
  have hb := B.bytes
  have hr := B.returns
  have hts := atoms_spec (ws := wsX1_begin) B.pre
  have hown : s.vm.findClass RX1 = some m.cls := findClass_of_methodNamed B.named
  have hlocks := B.notSynchronized
  subst hsz
  have hD := hD0.self (sz := s.heap.size)
  generalize hAe : va_A [(xo_1_riiiii k9 tc (nI z) nu (nI a) ce lo), (xI tc cI 16 ft)] s.heap.size = A at hD hst ⊢
  have hA : ∀ q : Nat, s.heap.size ≤ q → A q := fun q h => by rw [← hAe]; exact Or.inr h
  have hS : va_S A s.heap s.heap [] := va_S.rf
  have hP : va_P (dC, dI) vwCl [(xo_1_riiiii k9 tc (nI z) nu (nI a) ce lo), (xI tc cI 16 ft)] s.heap := hP
  obtain ⟨⟨tb1, hZ1, hT1⟩, ⟨tb2, hZ2, hT2⟩, ⟨tb3, hZ3, hT3⟩, hNk⟩ := id hst
  have hl := lv_entry ([.ref k9, .int x, .int (nI dp)]) (n := 4) (Nat.le_of_ble_eq_true rfl)
  rw [lg_entry_eq]
  generalize (lg_sl ([.ref k9, .int x, .int (nI dp)]) ++ List.replicate (4 - (lg_sl ([.ref k9, .int x, .int (nI dp)])).length) Slot.unset).toArray = ls at hl ⊢
  have hl : lv_has ls 4 [(0, .ref k9), (1, .int x), (2, .int (nI dp))] := hl
  refine lv_iload_n hx hb dX1_begin_0 rfl (lv_at hl 2 rfl) ?_
  refine lv_bipush (v := 16) hx hb dX1_begin_1 (by decide) ?_
  refine lv_icmp_lt (tgt := 8) hx hb dX1_begin_3 (by decide) (fun c_1 => ?_) (fun c_1 => ?_)
  · have c_1 : dp < 16 := (nI_ltI (a := dp) (b := 16) (by omega) (by omega)).mp c_1
    refine lv_aload_n hx hb dX1_begin_8 rfl (lv_at hl 0 rfl) ?_
    refine lv_iload_n hx hb dX1_begin_9 rfl (lv_at hl 1 rfl) ?_
    have hc_2 := cutW (wc := [(xo_1_riiiii k9 tc (nI z) nu (nI a) ce lo), (xI tc cI 16 ft)]) hP hD hS hA [0, 1] (by decide +kernel) rfl
    refine va_callv (va_runV (As := [.int x]) (rest := []) ⟨hx, hb, hml, hown, hts⟩ (r_X1_leave l dC dI cI cZ cL cJ s.heap.size k9 tc z nu (nI a) ce lo ft x (by omega)) (cwV 1 hts gX1_begin_X1_leave rfl rfl rfl (by decide +kernel) ⟨by show 0 + 1 ≤ 40 - 2 * dp; omega, by show 8 + (2 + 11) + 0 ≤ 4000 - 100 * dp; omega⟩) (pvW 1 0 hK hP rfl rfl hc_2) rfl rfl hl.1 rfl (lv_room (Nat.le_of_ble_eq_true rfl)) dX1_begin_10 ⟨Nat.le_of_ble_eq_true rfl, Nat.le_of_ble_eq_true rfl⟩) hS (fun q _ h => hc_2.2.2 q h) hc_2.2.2 (fun u_2 t_2 H1 locs ht hvm h_2 hB hz1 hk1 hS => ?_)
    refine xl_2_4 hB (fun zn_2 ftn_2 hP1 hD1 hF_2_0 hF_2_1 => ?_)
    clear hB
    rw [ht] at hP1
    obtain ⟨hP, hD⟩ := va_join (wr := []) (w1 := [(xo_1_riiiii k9 tc (nI zn_2) nu (nI a) ce lo), (xI tc cI 16 ftn_2)]) hP hD [0, 1] [] rfl rfl (by decide +kernel) (by decide +kernel) hk1 hc_2.2.2 hP1 hD1
    generalize H1 = H at hP hS ⊢
    have hP : va_P (dC, dI) vwCl [(xo_1_riiiii k9 tc (nI zn_2) nu (nI a) ce lo), (xI tc cI 16 ftn_2)] H := hP
    have hD := dto hP hD
    refine lv_iload_n hx hb dX1_begin_13 rfl (lv_at hl 2 rfl) ?_
    refine lv_iconst (v := 1) hx hb dX1_begin_14 (by decide) ?_
    refine lv_iadd hx hb dX1_begin_15 ?_
    refine lv_topi (fun v_3 e_3 => ?_)
    obtain rfl : v_3 = (nI (dp + 1)) := (e_3).trans (nI_add dp 1)
    refine lv_istore_n (lv' := [(3, .int (nI (dp + 1))), (0, .ref k9), (1, .int x), (2, .int (nI dp))]) hx hb dX1_begin_16 rfl hl (by decide) rfl (fun ls hl => ?_)
    refine lv_iload_n hx hb dX1_begin_17 rfl (lv_at hl 2 rfl) ?_
    by_cases k_4 : x = 10
    · subst k_4
      refine lv_tableIn (off := 74) (tgt := 92) hx hb dX1_begin_18 (by decide) (by decide) (by decide) (by decide) ?_
      refine lv_aload_n hx hb dX1_begin_92 rfl (lv_at hl 1 rfl) ?_
      refine va_get (D := (dC, dI)) (ci := 1) (v := .int lo) (C := RX1) (T := TX1) (N := 6) hx hb hts i_X1_begin_X1 hown hK hP 0 rfl rfl 5 (by decide) (hts _ mx_X1_begin_1) (fun _ h9 => h9) rfl dX1_begin_93 ?_
      have hX9 := cut2 (wc := [(xo_1_riiiii k9 tc (nI zn_2) nu (nI a) ce lo), (xI tc cI 16 ftn_2)]) hP hD [0, 1] (by decide +kernel) rfl
      exact W.iret (v := lo) hx hb hr (fun t ht hW => ⟨⟨lo, (), rfl, (lf_X1_begin_s_2 hz ha1 ha5 hdn c_1 hF_2_0 hF_2_1), ⟨zn_2, ftn_2, va_Ht ht hX9.1, hX9.2, (by omega), (lf_X1_begin_s_1 hz ha1 ha5 hdn c_1 hF_2_0 hF_2_1)⟩⟩, hS.F ht⟩) hS.2.2 dX1_begin_96
    by_cases k_5 : x = 11
    · subst k_5
      refine lv_tableIn (off := 79) (tgt := 97) hx hb dX1_begin_18 (by decide) (by decide) (by decide) (by decide) ?_
      refine lv_aload_n hx hb dX1_begin_97 rfl (lv_at hl 1 rfl) ?_
      refine lv_bipush (v := 10) hx hb dX1_begin_98 (by decide) ?_
      refine lv_iload_n hx hb dX1_begin_100 rfl (lv_at hl 0 rfl) ?_
      have hc_6 := cutW (wc := [(xo_1_riiiii k9 tc (nI zn_2) nu (nI a) ce lo), (xI tc cI 16 ftn_2)]) hP hD hS hA [0, 1] (by decide +kernel) rfl
      refine va_calli (va_runV (As := [.int 10, .int (nI (dp + 1))]) (rest := []) ⟨hx, hb, hml, hown, hts⟩ (IHb l dC dI cI cZ cL cJ H.size k9 tc zn_2 a nu ce lo ftn_2 10 (by omega) (ha1) (ha5) (by omega)) (cwV 2 hts gX1_begin_X1_begin rfl rfl rfl (by decide +kernel) ⟨by show 40 - 2 * (dp + 1) + 1 ≤ 40 - 2 * dp; omega, by show 8 + (4 + 11) + (4000 - 100 * (dp + 1)) ≤ 4000 - 100 * dp; omega⟩) ⟨fun a U g mk q => by obtain ⟨q0, q1, qP, qK, qD, qS⟩ := q; exact ⟨q0, q1, qP, va_K.moved (u := U) (U := U.calling g mk a) (Vm.Alike.refl U.vm) qK, qD, stt_same rfl qS⟩, va_recv hK hP (ci := 1) (q0 := 0) rfl rfl, fun U hU hW => ⟨rfl, by rw [hU], by rw [hU]; exact hc_6.1, va_K.moved hW.alike hK, hc_6.2.1.weaken (fun _ _ _ _ => trivial), by rw [hU]; exact stt_warm hW (stt_narrow (stt_kept hst hS.2.1) hc_6.2.2)⟩⟩ rfl rfl hl.1 rfl (lv_room (Nat.le_of_ble_eq_true rfl)) dX1_begin_101 ⟨Nat.le_of_ble_eq_true rfl, Nat.le_of_ble_eq_true rfl⟩) hS (fun q _ h => hc_6.2.2 q h) hc_6.2.2 (fun r_6 u_6 t_6 H1 locs ht hvm h_6 hB hz1 hk1 hS => ?_)
      refine xl_2_4 hB (fun zn_6 ftn_6 hP1 hD1 hF_6_0 hF_6_1 => ?_)
      clear hB
      rw [ht] at hP1
      obtain ⟨hP, hD⟩ := va_join (wr := []) (w1 := [(xo_1_riiiii k9 tc (nI zn_6) nu (nI a) ce lo), (xI tc cI 16 ftn_6)]) hP hD [0, 1] [] rfl rfl (by decide +kernel) (by decide +kernel) hk1 hc_6.2.2 hP1 hD1
      generalize H1 = H at hP hS ⊢
      have hP : va_P (dC, dI) vwCl [(xo_1_riiiii k9 tc (nI zn_6) nu (nI a) ce lo), (xI tc cI 16 ftn_6)] H := hP
      have hD := dto hP hD
      refine lv_aload_n hx hb dX1_begin_104 rfl (lv_at hl 1 rfl) ?_
      refine lv_iconst (v := 1) hx hb dX1_begin_105 (by decide) ?_
      refine lv_iload_n hx hb dX1_begin_106 rfl (lv_at hl 0 rfl) ?_
      have hc_7 := cutW (wc := [(xo_1_riiiii k9 tc (nI zn_6) nu (nI a) ce lo), (xI tc cI 16 ftn_6)]) hP hD hS hA [0, 1] (by decide +kernel) rfl
      refine va_calli (va_runV (As := [.int 1, .int (nI (dp + 1))]) (rest := [.int r_6]) ⟨hx, hb, hml, hown, hts⟩ (IHa l dC dI cI cZ cL cJ H.size k9 tc zn_6 a nu ce lo ftn_6 1 (by omega) (ha1) (ha5) (by omega) (by decide)) (cwV 2 hts gX1_begin_X1_askAnew rfl rfl rfl (by decide +kernel) ⟨by show 41 - 2 * (dp + 1) + 1 ≤ 40 - 2 * dp; omega, by show 8 + (3 + 11) + (4050 - 100 * (dp + 1)) ≤ 4000 - 100 * dp; omega⟩) ⟨fun a U g mk q => by obtain ⟨q0, q1, qP, qK, qD, qS⟩ := q; exact ⟨q0, q1, qP, va_K.moved (u := U) (U := U.calling g mk a) (Vm.Alike.refl U.vm) qK, qD, stt_same rfl qS⟩, va_recv hK hP (ci := 1) (q0 := 0) rfl rfl, fun U hU hW => ⟨rfl, by rw [hU], by rw [hU]; exact hc_7.1, va_K.moved hW.alike hK, hc_7.2.1.weaken (fun _ _ _ _ => trivial), by rw [hU]; exact stt_warm hW (stt_narrow (stt_kept hst hS.2.1) hc_7.2.2)⟩⟩ rfl rfl hl.1 rfl (lv_room (Nat.le_of_ble_eq_true rfl)) dX1_begin_107 ⟨Nat.le_of_ble_eq_true rfl, Nat.le_of_ble_eq_true rfl⟩) hS (fun q _ h => hc_7.2.2 q h) hc_7.2.2 (fun r_7 u_7 t_7 H1 locs ht hvm h_7 hB hz1 hk1 hS => ?_)
      refine xl_2_4 hB (fun zn_7 ftn_7 hP1 hD1 hF_7_0 hF_7_1 => ?_)
      clear hB
      rw [ht] at hP1
      obtain ⟨hP, hD⟩ := va_join (wr := []) (w1 := [(xo_1_riiiii k9 tc (nI zn_7) nu (nI a) ce lo), (xI tc cI 16 ftn_7)]) hP hD [0, 1] [] rfl rfl (by decide +kernel) (by decide +kernel) hk1 hc_7.2.2 hP1 hD1
      generalize H1 = H at hP hS ⊢
      have hP : va_P (dC, dI) vwCl [(xo_1_riiiii k9 tc (nI zn_7) nu (nI a) ce lo), (xI tc cI 16 ftn_7)] H := hP
      have hD := dto hP hD
      refine lv_iadd hx hb dX1_begin_110 ?_
      refine lv_topi (fun v_8 e_8 => ?_)
      have hX9 := cut2 (wc := [(xo_1_riiiii k9 tc (nI zn_7) nu (nI a) ce lo), (xI tc cI 16 ftn_7)]) hP hD [0, 1] (by decide +kernel) rfl
      exact W.iret (v := v_8) hx hb hr (fun t ht hW => ⟨⟨v_8, (), rfl, (lf_X1_begin_s_4 hz ha1 ha5 hdn c_1 hF_2_0 hF_2_1 k_4 hF_6_0 hF_6_1 h_6 hF_7_0 hF_7_1 h_7 e_8), ⟨zn_7, ftn_7, va_Ht ht hX9.1, hX9.2, (by omega), (lf_X1_begin_s_3 hz ha1 ha5 hdn c_1 hF_2_0 hF_2_1 k_4 hF_6_0 hF_6_1 h_6 hF_7_0 hF_7_1 h_7 e_8)⟩⟩, hS.F ht⟩) hS.2.2 dX1_begin_111
    by_cases k_9 : x = 12
    · subst k_9
      refine lv_tableIn (off := 94) (tgt := 112) hx hb dX1_begin_18 (by decide) (by decide) (by decide) (by decide) ?_
      refine lv_aload_n hx hb dX1_begin_112 rfl (lv_at hl 1 rfl) ?_
      refine lv_bipush (v := 11) hx hb dX1_begin_113 (by decide) ?_
      refine lv_iload_n hx hb dX1_begin_115 rfl (lv_at hl 0 rfl) ?_
      have hc_10 := cutW (wc := [(xo_1_riiiii k9 tc (nI zn_2) nu (nI a) ce lo), (xI tc cI 16 ftn_2)]) hP hD hS hA [0, 1] (by decide +kernel) rfl
      refine va_calli (va_runV (As := [.int 11, .int (nI (dp + 1))]) (rest := []) ⟨hx, hb, hml, hown, hts⟩ (IHb l dC dI cI cZ cL cJ H.size k9 tc zn_2 a nu ce lo ftn_2 11 (by omega) (ha1) (ha5) (by omega)) (cwV 2 hts gX1_begin_X1_begin rfl rfl rfl (by decide +kernel) ⟨by show 40 - 2 * (dp + 1) + 1 ≤ 40 - 2 * dp; omega, by show 8 + (4 + 11) + (4000 - 100 * (dp + 1)) ≤ 4000 - 100 * dp; omega⟩) ⟨fun a U g mk q => by obtain ⟨q0, q1, qP, qK, qD, qS⟩ := q; exact ⟨q0, q1, qP, va_K.moved (u := U) (U := U.calling g mk a) (Vm.Alike.refl U.vm) qK, qD, stt_same rfl qS⟩, va_recv hK hP (ci := 1) (q0 := 0) rfl rfl, fun U hU hW => ⟨rfl, by rw [hU], by rw [hU]; exact hc_10.1, va_K.moved hW.alike hK, hc_10.2.1.weaken (fun _ _ _ _ => trivial), by rw [hU]; exact stt_warm hW (stt_narrow (stt_kept hst hS.2.1) hc_10.2.2)⟩⟩ rfl rfl hl.1 rfl (lv_room (Nat.le_of_ble_eq_true rfl)) dX1_begin_116 ⟨Nat.le_of_ble_eq_true rfl, Nat.le_of_ble_eq_true rfl⟩) hS (fun q _ h => hc_10.2.2 q h) hc_10.2.2 (fun r_10 u_10 t_10 H1 locs ht hvm h_10 hB hz1 hk1 hS => ?_)
      refine xl_2_4 hB (fun zn_10 ftn_10 hP1 hD1 hF_10_0 hF_10_1 => ?_)
      clear hB
      rw [ht] at hP1
      obtain ⟨hP, hD⟩ := va_join (wr := []) (w1 := [(xo_1_riiiii k9 tc (nI zn_10) nu (nI a) ce lo), (xI tc cI 16 ftn_10)]) hP hD [0, 1] [] rfl rfl (by decide +kernel) (by decide +kernel) hk1 hc_10.2.2 hP1 hD1
      generalize H1 = H at hP hS ⊢
      have hP : va_P (dC, dI) vwCl [(xo_1_riiiii k9 tc (nI zn_10) nu (nI a) ce lo), (xI tc cI 16 ftn_10)] H := hP
      have hD := dto hP hD
      refine lv_ineg hx hb dX1_begin_119 ?_
      refine lv_topi (fun v_11 e_11 => ?_)
      have hX9 := cut2 (wc := [(xo_1_riiiii k9 tc (nI zn_10) nu (nI a) ce lo), (xI tc cI 16 ftn_10)]) hP hD [0, 1] (by decide +kernel) rfl
      exact W.iret (v := v_11) hx hb hr (fun t ht hW => ⟨⟨v_11, (), rfl, (lf_X1_begin_s_6 hz ha1 ha5 hdn c_1 hF_2_0 hF_2_1 k_4 k_5 hF_10_0 hF_10_1 h_10 e_11), ⟨zn_10, ftn_10, va_Ht ht hX9.1, hX9.2, (by omega), (lf_X1_begin_s_5 hz ha1 ha5 hdn c_1 hF_2_0 hF_2_1 k_4 k_5 hF_10_0 hF_10_1 h_10 e_11)⟩⟩, hS.F ht⟩) hS.2.2 dX1_begin_120
    by_cases k_12 : x = 13
    · subst k_12
      refine lv_tableIn (off := 103) (tgt := 121) hx hb dX1_begin_18 (by decide) (by decide) (by decide) (by decide) ?_
      refine lv_aload_n hx hb dX1_begin_121 rfl (lv_at hl 1 rfl) ?_
      refine lv_bipush (v := 10) hx hb dX1_begin_122 (by decide) ?_
      refine lv_iload_n hx hb dX1_begin_124 rfl (lv_at hl 0 rfl) ?_
      have hc_13 := cutW (wc := [(xo_1_riiiii k9 tc (nI zn_2) nu (nI a) ce lo), (xI tc cI 16 ftn_2)]) hP hD hS hA [0, 1] (by decide +kernel) rfl
      refine va_calli (va_runV (As := [.int 10, .int (nI (dp + 1))]) (rest := []) ⟨hx, hb, hml, hown, hts⟩ (IHb l dC dI cI cZ cL cJ H.size k9 tc zn_2 a nu ce lo ftn_2 10 (by omega) (ha1) (ha5) (by omega)) (cwV 2 hts gX1_begin_X1_begin rfl rfl rfl (by decide +kernel) ⟨by show 40 - 2 * (dp + 1) + 1 ≤ 40 - 2 * dp; omega, by show 8 + (4 + 11) + (4000 - 100 * (dp + 1)) ≤ 4000 - 100 * dp; omega⟩) ⟨fun a U g mk q => by obtain ⟨q0, q1, qP, qK, qD, qS⟩ := q; exact ⟨q0, q1, qP, va_K.moved (u := U) (U := U.calling g mk a) (Vm.Alike.refl U.vm) qK, qD, stt_same rfl qS⟩, va_recv hK hP (ci := 1) (q0 := 0) rfl rfl, fun U hU hW => ⟨rfl, by rw [hU], by rw [hU]; exact hc_13.1, va_K.moved hW.alike hK, hc_13.2.1.weaken (fun _ _ _ _ => trivial), by rw [hU]; exact stt_warm hW (stt_narrow (stt_kept hst hS.2.1) hc_13.2.2)⟩⟩ rfl rfl hl.1 rfl (lv_room (Nat.le_of_ble_eq_true rfl)) dX1_begin_125 ⟨Nat.le_of_ble_eq_true rfl, Nat.le_of_ble_eq_true rfl⟩) hS (fun q _ h => hc_13.2.2 q h) hc_13.2.2 (fun r_13 u_13 t_13 H1 locs ht hvm h_13 hB hz1 hk1 hS => ?_)
      refine xl_2_4 hB (fun zn_13 ftn_13 hP1 hD1 hF_13_0 hF_13_1 => ?_)
      clear hB
      rw [ht] at hP1
      obtain ⟨hP, hD⟩ := va_join (wr := []) (w1 := [(xo_1_riiiii k9 tc (nI zn_13) nu (nI a) ce lo), (xI tc cI 16 ftn_13)]) hP hD [0, 1] [] rfl rfl (by decide +kernel) (by decide +kernel) hk1 hc_13.2.2 hP1 hD1
      generalize H1 = H at hP hS ⊢
      have hP : va_P (dC, dI) vwCl [(xo_1_riiiii k9 tc (nI zn_13) nu (nI a) ce lo), (xI tc cI 16 ftn_13)] H := hP
      have hD := dto hP hD
      refine lv_bipush (v := 100) hx hb dX1_begin_128 (by decide) ?_
      refine lv_isub hx hb dX1_begin_130 ?_
      refine lv_topi (fun v_14 e_14 => ?_)
      have hX9 := cut2 (wc := [(xo_1_riiiii k9 tc (nI zn_13) nu (nI a) ce lo), (xI tc cI 16 ftn_13)]) hP hD [0, 1] (by decide +kernel) rfl
      exact W.iret (v := v_14) hx hb hr (fun t ht hW => ⟨⟨v_14, (), rfl, (lf_X1_begin_s_8 hz ha1 ha5 hdn c_1 hF_2_0 hF_2_1 k_4 k_5 k_9 hF_13_0 hF_13_1 h_13 e_14), ⟨zn_13, ftn_13, va_Ht ht hX9.1, hX9.2, (by omega), (lf_X1_begin_s_7 hz ha1 ha5 hdn c_1 hF_2_0 hF_2_1 k_4 k_5 k_9 hF_13_0 hF_13_1 h_13 e_14)⟩⟩, hS.F ht⟩) hS.2.2 dX1_begin_131
    by_cases k_15 : x = 14
    · subst k_15
      refine lv_tableIn (off := 114) (tgt := 132) hx hb dX1_begin_18 (by decide) (by decide) (by decide) (by decide) ?_
      refine lv_aload_n hx hb dX1_begin_132 rfl (lv_at hl 1 rfl) ?_
      refine lv_bipush (v := 13) hx hb dX1_begin_133 (by decide) ?_
      refine lv_iload_n hx hb dX1_begin_135 rfl (lv_at hl 0 rfl) ?_
      have hc_16 := cutW (wc := [(xo_1_riiiii k9 tc (nI zn_2) nu (nI a) ce lo), (xI tc cI 16 ftn_2)]) hP hD hS hA [0, 1] (by decide +kernel) rfl
      refine va_calli (va_runV (As := [.int 13, .int (nI (dp + 1))]) (rest := []) ⟨hx, hb, hml, hown, hts⟩ (IHb l dC dI cI cZ cL cJ H.size k9 tc zn_2 a nu ce lo ftn_2 13 (by omega) (ha1) (ha5) (by omega)) (cwV 2 hts gX1_begin_X1_begin rfl rfl rfl (by decide +kernel) ⟨by show 40 - 2 * (dp + 1) + 1 ≤ 40 - 2 * dp; omega, by show 8 + (4 + 11) + (4000 - 100 * (dp + 1)) ≤ 4000 - 100 * dp; omega⟩) ⟨fun a U g mk q => by obtain ⟨q0, q1, qP, qK, qD, qS⟩ := q; exact ⟨q0, q1, qP, va_K.moved (u := U) (U := U.calling g mk a) (Vm.Alike.refl U.vm) qK, qD, stt_same rfl qS⟩, va_recv hK hP (ci := 1) (q0 := 0) rfl rfl, fun U hU hW => ⟨rfl, by rw [hU], by rw [hU]; exact hc_16.1, va_K.moved hW.alike hK, hc_16.2.1.weaken (fun _ _ _ _ => trivial), by rw [hU]; exact stt_warm hW (stt_narrow (stt_kept hst hS.2.1) hc_16.2.2)⟩⟩ rfl rfl hl.1 rfl (lv_room (Nat.le_of_ble_eq_true rfl)) dX1_begin_136 ⟨Nat.le_of_ble_eq_true rfl, Nat.le_of_ble_eq_true rfl⟩) hS (fun q _ h => hc_16.2.2 q h) hc_16.2.2 (fun r_16 u_16 t_16 H1 locs ht hvm h_16 hB hz1 hk1 hS => ?_)
      refine xl_2_4 hB (fun zn_16 ftn_16 hP1 hD1 hF_16_0 hF_16_1 => ?_)
      clear hB
      rw [ht] at hP1
      obtain ⟨hP, hD⟩ := va_join (wr := []) (w1 := [(xo_1_riiiii k9 tc (nI zn_16) nu (nI a) ce lo), (xI tc cI 16 ftn_16)]) hP hD [0, 1] [] rfl rfl (by decide +kernel) (by decide +kernel) hk1 hc_16.2.2 hP1 hD1
      generalize H1 = H at hP hS ⊢
      have hP : va_P (dC, dI) vwCl [(xo_1_riiiii k9 tc (nI zn_16) nu (nI a) ce lo), (xI tc cI 16 ftn_16)] H := hP
      have hD := dto hP hD
      refine lv_iconst (v := 2) hx hb dX1_begin_139 (by decide) ?_
      refine lv_imul hx hb dX1_begin_140 ?_
      refine lv_topi (fun v_17 e_17 => ?_)
      have hX9 := cut2 (wc := [(xo_1_riiiii k9 tc (nI zn_16) nu (nI a) ce lo), (xI tc cI 16 ftn_16)]) hP hD [0, 1] (by decide +kernel) rfl
      exact W.iret (v := v_17) hx hb hr (fun t ht hW => ⟨⟨v_17, (), rfl, (lf_X1_begin_s_10 hz ha1 ha5 hdn c_1 hF_2_0 hF_2_1 k_4 k_5 k_9 k_12 hF_16_0 hF_16_1 h_16 e_17), ⟨zn_16, ftn_16, va_Ht ht hX9.1, hX9.2, (by omega), (lf_X1_begin_s_9 hz ha1 ha5 hdn c_1 hF_2_0 hF_2_1 k_4 k_5 k_9 k_12 hF_16_0 hF_16_1 h_16 e_17)⟩⟩, hS.F ht⟩) hS.2.2 dX1_begin_141
    by_cases k_18 : x = 15
    · subst k_18
      refine lv_tableIn (off := 179) (tgt := 197) hx hb dX1_begin_18 (by decide) (by decide) (by decide) (by decide) ?_
      refine lv_iconst (v := 0) hx hb dX1_begin_197 (by decide) ?_
      have hX9 := cut2 (wc := [(xo_1_riiiii k9 tc (nI zn_2) nu (nI a) ce lo), (xI tc cI 16 ftn_2)]) hP hD [0, 1] (by decide +kernel) rfl
      exact W.iret (v := 0) hx hb hr (fun t ht hW => ⟨⟨0, (), rfl, (lf_X1_begin_s_12 hz ha1 ha5 hdn c_1 hF_2_0 hF_2_1 k_4 k_5 k_9 k_12 k_15), ⟨zn_2, ftn_2, va_Ht ht hX9.1, hX9.2, (by omega), (lf_X1_begin_s_11 hz ha1 ha5 hdn c_1 hF_2_0 hF_2_1 k_4 k_5 k_9 k_12 k_15)⟩⟩, hS.F ht⟩) hS.2.2 dX1_begin_198
    by_cases k_19 : x = 16
    · subst k_19
      refine lv_tableIn (off := 179) (tgt := 197) hx hb dX1_begin_18 (by decide) (by decide) (by decide) (by decide) ?_
      refine lv_iconst (v := 0) hx hb dX1_begin_197 (by decide) ?_
      have hX9 := cut2 (wc := [(xo_1_riiiii k9 tc (nI zn_2) nu (nI a) ce lo), (xI tc cI 16 ftn_2)]) hP hD [0, 1] (by decide +kernel) rfl
      exact W.iret (v := 0) hx hb hr (fun t ht hW => ⟨⟨0, (), rfl, (lf_X1_begin_s_14 hz ha1 ha5 hdn c_1 hF_2_0 hF_2_1 k_4 k_5 k_9 k_12 k_15 k_18), ⟨zn_2, ftn_2, va_Ht ht hX9.1, hX9.2, (by omega), (lf_X1_begin_s_13 hz ha1 ha5 hdn c_1 hF_2_0 hF_2_1 k_4 k_5 k_9 k_12 k_15 k_18)⟩⟩, hS.F ht⟩) hS.2.2 dX1_begin_198
    by_cases k_20 : x = 17
    · subst k_20
      refine lv_tableIn (off := 179) (tgt := 197) hx hb dX1_begin_18 (by decide) (by decide) (by decide) (by decide) ?_
      refine lv_iconst (v := 0) hx hb dX1_begin_197 (by decide) ?_
      have hX9 := cut2 (wc := [(xo_1_riiiii k9 tc (nI zn_2) nu (nI a) ce lo), (xI tc cI 16 ftn_2)]) hP hD [0, 1] (by decide +kernel) rfl
      exact W.iret (v := 0) hx hb hr (fun t ht hW => ⟨⟨0, (), rfl, (lf_X1_begin_s_16 hz ha1 ha5 hdn c_1 hF_2_0 hF_2_1 k_4 k_5 k_9 k_12 k_15 k_18 k_19), ⟨zn_2, ftn_2, va_Ht ht hX9.1, hX9.2, (by omega), (lf_X1_begin_s_15 hz ha1 ha5 hdn c_1 hF_2_0 hF_2_1 k_4 k_5 k_9 k_12 k_15 k_18 k_19)⟩⟩, hS.F ht⟩) hS.2.2 dX1_begin_198
    by_cases k_21 : x = 18
    · subst k_21
      refine lv_tableIn (off := 179) (tgt := 197) hx hb dX1_begin_18 (by decide) (by decide) (by decide) (by decide) ?_
      refine lv_iconst (v := 0) hx hb dX1_begin_197 (by decide) ?_
      have hX9 := cut2 (wc := [(xo_1_riiiii k9 tc (nI zn_2) nu (nI a) ce lo), (xI tc cI 16 ftn_2)]) hP hD [0, 1] (by decide +kernel) rfl
      exact W.iret (v := 0) hx hb hr (fun t ht hW => ⟨⟨0, (), rfl, (lf_X1_begin_s_18 hz ha1 ha5 hdn c_1 hF_2_0 hF_2_1 k_4 k_5 k_9 k_12 k_15 k_18 k_19 k_20), ⟨zn_2, ftn_2, va_Ht ht hX9.1, hX9.2, (by omega), (lf_X1_begin_s_17 hz ha1 ha5 hdn c_1 hF_2_0 hF_2_1 k_4 k_5 k_9 k_12 k_15 k_18 k_19 k_20)⟩⟩, hS.F ht⟩) hS.2.2 dX1_begin_198
    by_cases k_22 : x = 19
    · subst k_22
      refine lv_tableIn (off := 179) (tgt := 197) hx hb dX1_begin_18 (by decide) (by decide) (by decide) (by decide) ?_
      refine lv_iconst (v := 0) hx hb dX1_begin_197 (by decide) ?_
      have hX9 := cut2 (wc := [(xo_1_riiiii k9 tc (nI zn_2) nu (nI a) ce lo), (xI tc cI 16 ftn_2)]) hP hD [0, 1] (by decide +kernel) rfl
      exact W.iret (v := 0) hx hb hr (fun t ht hW => ⟨⟨0, (), rfl, (lf_X1_begin_s_20 hz ha1 ha5 hdn c_1 hF_2_0 hF_2_1 k_4 k_5 k_9 k_12 k_15 k_18 k_19 k_20 k_21), ⟨zn_2, ftn_2, va_Ht ht hX9.1, hX9.2, (by omega), (lf_X1_begin_s_19 hz ha1 ha5 hdn c_1 hF_2_0 hF_2_1 k_4 k_5 k_9 k_12 k_15 k_18 k_19 k_20 k_21)⟩⟩, hS.F ht⟩) hS.2.2 dX1_begin_198
    by_cases k_23 : x = 20
    · subst k_23
      refine lv_tableIn (off := 124) (tgt := 142) hx hb dX1_begin_18 (by decide) (by decide) (by decide) (by decide) ?_
      refine lv_aload_n hx hb dX1_begin_142 rfl (lv_at hl 1 rfl) ?_
      refine va_get (D := (dC, dI)) (ci := 1) (v := .int nu) (C := RX1) (T := TX1) (N := 6) hx hb hts i_X1_begin_X1 hown hK hP 0 rfl rfl 2 (by decide) (hts _ mx_X1_begin_2) (fun _ h9 => h9) rfl dX1_begin_143 ?_
      have hX9 := cut2 (wc := [(xo_1_riiiii k9 tc (nI zn_2) nu (nI a) ce lo), (xI tc cI 16 ftn_2)]) hP hD [0, 1] (by decide +kernel) rfl
      exact W.iret (v := nu) hx hb hr (fun t ht hW => ⟨⟨nu, (), rfl, (lf_X1_begin_s_22 hz ha1 ha5 hdn c_1 hF_2_0 hF_2_1 k_4 k_5 k_9 k_12 k_15 k_18 k_19 k_20 k_21 k_22), ⟨zn_2, ftn_2, va_Ht ht hX9.1, hX9.2, (by omega), (lf_X1_begin_s_21 hz ha1 ha5 hdn c_1 hF_2_0 hF_2_1 k_4 k_5 k_9 k_12 k_15 k_18 k_19 k_20 k_21 k_22)⟩⟩, hS.F ht⟩) hS.2.2 dX1_begin_146
    by_cases k_24 : x = 21
    · subst k_24
      refine lv_tableIn (off := 129) (tgt := 147) hx hb dX1_begin_18 (by decide) (by decide) (by decide) (by decide) ?_
      refine lv_aload_n hx hb dX1_begin_147 rfl (lv_at hl 1 rfl) ?_
      refine lv_bipush (v := 20) hx hb dX1_begin_148 (by decide) ?_
      refine lv_iload_n hx hb dX1_begin_150 rfl (lv_at hl 0 rfl) ?_
      have hc_25 := cutW (wc := [(xo_1_riiiii k9 tc (nI zn_2) nu (nI a) ce lo), (xI tc cI 16 ftn_2)]) hP hD hS hA [0, 1] (by decide +kernel) rfl
      refine va_calli (va_runV (As := [.int 20, .int (nI (dp + 1))]) (rest := []) ⟨hx, hb, hml, hown, hts⟩ (IHb l dC dI cI cZ cL cJ H.size k9 tc zn_2 a nu ce lo ftn_2 20 (by omega) (ha1) (ha5) (by omega)) (cwV 2 hts gX1_begin_X1_begin rfl rfl rfl (by decide +kernel) ⟨by show 40 - 2 * (dp + 1) + 1 ≤ 40 - 2 * dp; omega, by show 8 + (4 + 11) + (4000 - 100 * (dp + 1)) ≤ 4000 - 100 * dp; omega⟩) ⟨fun a U g mk q => by obtain ⟨q0, q1, qP, qK, qD, qS⟩ := q; exact ⟨q0, q1, qP, va_K.moved (u := U) (U := U.calling g mk a) (Vm.Alike.refl U.vm) qK, qD, stt_same rfl qS⟩, va_recv hK hP (ci := 1) (q0 := 0) rfl rfl, fun U hU hW => ⟨rfl, by rw [hU], by rw [hU]; exact hc_25.1, va_K.moved hW.alike hK, hc_25.2.1.weaken (fun _ _ _ _ => trivial), by rw [hU]; exact stt_warm hW (stt_narrow (stt_kept hst hS.2.1) hc_25.2.2)⟩⟩ rfl rfl hl.1 rfl (lv_room (Nat.le_of_ble_eq_true rfl)) dX1_begin_151 ⟨Nat.le_of_ble_eq_true rfl, Nat.le_of_ble_eq_true rfl⟩) hS (fun q _ h => hc_25.2.2 q h) hc_25.2.2 (fun r_25 u_25 t_25 H1 locs ht hvm h_25 hB hz1 hk1 hS => ?_)
      refine xl_2_4 hB (fun zn_25 ftn_25 hP1 hD1 hF_25_0 hF_25_1 => ?_)
      clear hB
      rw [ht] at hP1
      obtain ⟨hP, hD⟩ := va_join (wr := []) (w1 := [(xo_1_riiiii k9 tc (nI zn_25) nu (nI a) ce lo), (xI tc cI 16 ftn_25)]) hP hD [0, 1] [] rfl rfl (by decide +kernel) (by decide +kernel) hk1 hc_25.2.2 hP1 hD1
      generalize H1 = H at hP hS ⊢
      have hP : va_P (dC, dI) vwCl [(xo_1_riiiii k9 tc (nI zn_25) nu (nI a) ce lo), (xI tc cI 16 ftn_25)] H := hP
      have hD := dto hP hD
      refine lv_aload_n hx hb dX1_begin_154 rfl (lv_at hl 1 rfl) ?_
      refine va_get (D := (dC, dI)) (ci := 1) (v := .int ce) (C := RX1) (T := TX1) (N := 6) hx hb hts i_X1_begin_X1 hown hK hP 0 rfl rfl 4 (by decide) (hts _ mx_X1_begin_3) (fun _ h9 => h9) rfl dX1_begin_155 ?_
      refine lv_iadd hx hb dX1_begin_158 ?_
      refine lv_topi (fun v_26 e_26 => ?_)
      have hX9 := cut2 (wc := [(xo_1_riiiii k9 tc (nI zn_25) nu (nI a) ce lo), (xI tc cI 16 ftn_25)]) hP hD [0, 1] (by decide +kernel) rfl
      exact W.iret (v := v_26) hx hb hr (fun t ht hW => ⟨⟨v_26, (), rfl, (lf_X1_begin_s_24 hz ha1 ha5 hdn c_1 hF_2_0 hF_2_1 k_4 k_5 k_9 k_12 k_15 k_18 k_19 k_20 k_21 k_22 k_23 hF_25_0 hF_25_1 h_25 e_26), ⟨zn_25, ftn_25, va_Ht ht hX9.1, hX9.2, (by omega), (lf_X1_begin_s_23 hz ha1 ha5 hdn c_1 hF_2_0 hF_2_1 k_4 k_5 k_9 k_12 k_15 k_18 k_19 k_20 k_21 k_22 k_23 hF_25_0 hF_25_1 h_25 e_26)⟩⟩, hS.F ht⟩) hS.2.2 dX1_begin_159
    by_cases k_27 : x = 22
    · subst k_27
      refine lv_tableIn (off := 142) (tgt := 160) hx hb dX1_begin_18 (by decide) (by decide) (by decide) (by decide) ?_
      refine lv_aload_n hx hb dX1_begin_160 rfl (lv_at hl 1 rfl) ?_
      refine lv_bipush (v := 21) hx hb dX1_begin_161 (by decide) ?_
      refine lv_iload_n hx hb dX1_begin_163 rfl (lv_at hl 0 rfl) ?_
      have hc_28 := cutW (wc := [(xo_1_riiiii k9 tc (nI zn_2) nu (nI a) ce lo), (xI tc cI 16 ftn_2)]) hP hD hS hA [0, 1] (by decide +kernel) rfl
      refine va_calli (va_runV (As := [.int 21, .int (nI (dp + 1))]) (rest := []) ⟨hx, hb, hml, hown, hts⟩ (IHb l dC dI cI cZ cL cJ H.size k9 tc zn_2 a nu ce lo ftn_2 21 (by omega) (ha1) (ha5) (by omega)) (cwV 2 hts gX1_begin_X1_begin rfl rfl rfl (by decide +kernel) ⟨by show 40 - 2 * (dp + 1) + 1 ≤ 40 - 2 * dp; omega, by show 8 + (4 + 11) + (4000 - 100 * (dp + 1)) ≤ 4000 - 100 * dp; omega⟩) ⟨fun a U g mk q => by obtain ⟨q0, q1, qP, qK, qD, qS⟩ := q; exact ⟨q0, q1, qP, va_K.moved (u := U) (U := U.calling g mk a) (Vm.Alike.refl U.vm) qK, qD, stt_same rfl qS⟩, va_recv hK hP (ci := 1) (q0 := 0) rfl rfl, fun U hU hW => ⟨rfl, by rw [hU], by rw [hU]; exact hc_28.1, va_K.moved hW.alike hK, hc_28.2.1.weaken (fun _ _ _ _ => trivial), by rw [hU]; exact stt_warm hW (stt_narrow (stt_kept hst hS.2.1) hc_28.2.2)⟩⟩ rfl rfl hl.1 rfl (lv_room (Nat.le_of_ble_eq_true rfl)) dX1_begin_164 ⟨Nat.le_of_ble_eq_true rfl, Nat.le_of_ble_eq_true rfl⟩) hS (fun q _ h => hc_28.2.2 q h) hc_28.2.2 (fun r_28 u_28 t_28 H1 locs ht hvm h_28 hB hz1 hk1 hS => ?_)
      refine xl_2_4 hB (fun zn_28 ftn_28 hP1 hD1 hF_28_0 hF_28_1 => ?_)
      clear hB
      rw [ht] at hP1
      obtain ⟨hP, hD⟩ := va_join (wr := []) (w1 := [(xo_1_riiiii k9 tc (nI zn_28) nu (nI a) ce lo), (xI tc cI 16 ftn_28)]) hP hD [0, 1] [] rfl rfl (by decide +kernel) (by decide +kernel) hk1 hc_28.2.2 hP1 hD1
      generalize H1 = H at hP hS ⊢
      have hP : va_P (dC, dI) vwCl [(xo_1_riiiii k9 tc (nI zn_28) nu (nI a) ce lo), (xI tc cI 16 ftn_28)] H := hP
      have hD := dto hP hD
      refine lv_sipush (v := 1000) hx hb dX1_begin_167 (by decide) ?_
      refine lv_isub hx hb dX1_begin_170 ?_
      refine lv_topi (fun v_29 e_29 => ?_)
      have hX9 := cut2 (wc := [(xo_1_riiiii k9 tc (nI zn_28) nu (nI a) ce lo), (xI tc cI 16 ftn_28)]) hP hD [0, 1] (by decide +kernel) rfl
      exact W.iret (v := v_29) hx hb hr (fun t ht hW => ⟨⟨v_29, (), rfl, (lf_X1_begin_s_26 hz ha1 ha5 hdn c_1 hF_2_0 hF_2_1 k_4 k_5 k_9 k_12 k_15 k_18 k_19 k_20 k_21 k_22 k_23 k_24 hF_28_0 hF_28_1 h_28 e_29), ⟨zn_28, ftn_28, va_Ht ht hX9.1, hX9.2, (by omega), (lf_X1_begin_s_25 hz ha1 ha5 hdn c_1 hF_2_0 hF_2_1 k_4 k_5 k_9 k_12 k_15 k_18 k_19 k_20 k_21 k_22 k_23 k_24 hF_28_0 hF_28_1 h_28 e_29)⟩⟩, hS.F ht⟩) hS.2.2 dX1_begin_171
    by_cases k_30 : x = 23
    · subst k_30
      refine lv_tableIn (off := 154) (tgt := 172) hx hb dX1_begin_18 (by decide) (by decide) (by decide) (by decide) ?_
      refine lv_aload_n hx hb dX1_begin_172 rfl (lv_at hl 1 rfl) ?_
      refine lv_bipush (v := 20) hx hb dX1_begin_173 (by decide) ?_
      refine lv_iload_n hx hb dX1_begin_175 rfl (lv_at hl 0 rfl) ?_
      have hc_31 := cutW (wc := [(xo_1_riiiii k9 tc (nI zn_2) nu (nI a) ce lo), (xI tc cI 16 ftn_2)]) hP hD hS hA [0, 1] (by decide +kernel) rfl
      refine va_calli (va_runV (As := [.int 20, .int (nI (dp + 1))]) (rest := []) ⟨hx, hb, hml, hown, hts⟩ (IHb l dC dI cI cZ cL cJ H.size k9 tc zn_2 a nu ce lo ftn_2 20 (by omega) (ha1) (ha5) (by omega)) (cwV 2 hts gX1_begin_X1_begin rfl rfl rfl (by decide +kernel) ⟨by show 40 - 2 * (dp + 1) + 1 ≤ 40 - 2 * dp; omega, by show 8 + (4 + 11) + (4000 - 100 * (dp + 1)) ≤ 4000 - 100 * dp; omega⟩) ⟨fun a U g mk q => by obtain ⟨q0, q1, qP, qK, qD, qS⟩ := q; exact ⟨q0, q1, qP, va_K.moved (u := U) (U := U.calling g mk a) (Vm.Alike.refl U.vm) qK, qD, stt_same rfl qS⟩, va_recv hK hP (ci := 1) (q0 := 0) rfl rfl, fun U hU hW => ⟨rfl, by rw [hU], by rw [hU]; exact hc_31.1, va_K.moved hW.alike hK, hc_31.2.1.weaken (fun _ _ _ _ => trivial), by rw [hU]; exact stt_warm hW (stt_narrow (stt_kept hst hS.2.1) hc_31.2.2)⟩⟩ rfl rfl hl.1 rfl (lv_room (Nat.le_of_ble_eq_true rfl)) dX1_begin_176 ⟨Nat.le_of_ble_eq_true rfl, Nat.le_of_ble_eq_true rfl⟩) hS (fun q _ h => hc_31.2.2 q h) hc_31.2.2 (fun r_31 u_31 t_31 H1 locs ht hvm h_31 hB hz1 hk1 hS => ?_)
      refine xl_2_4 hB (fun zn_31 ftn_31 hP1 hD1 hF_31_0 hF_31_1 => ?_)
      clear hB
      rw [ht] at hP1
      obtain ⟨hP, hD⟩ := va_join (wr := []) (w1 := [(xo_1_riiiii k9 tc (nI zn_31) nu (nI a) ce lo), (xI tc cI 16 ftn_31)]) hP hD [0, 1] [] rfl rfl (by decide +kernel) (by decide +kernel) hk1 hc_31.2.2 hP1 hD1
      generalize H1 = H at hP hS ⊢
      have hP : va_P (dC, dI) vwCl [(xo_1_riiiii k9 tc (nI zn_31) nu (nI a) ce lo), (xI tc cI 16 ftn_31)] H := hP
      have hD := dto hP hD
      refine lv_aload_n hx hb dX1_begin_179 rfl (lv_at hl 1 rfl) ?_
      refine lv_iconst (v := 0) hx hb dX1_begin_180 (by decide) ?_
      refine lv_iload_n hx hb dX1_begin_181 rfl (lv_at hl 0 rfl) ?_
      have hc_32 := cutW (wc := [(xo_1_riiiii k9 tc (nI zn_31) nu (nI a) ce lo), (xI tc cI 16 ftn_31)]) hP hD hS hA [0, 1] (by decide +kernel) rfl
      refine va_calli (va_runV (As := [.int 0, .int (nI (dp + 1))]) (rest := [.int r_31]) ⟨hx, hb, hml, hown, hts⟩ (IHa l dC dI cI cZ cL cJ H.size k9 tc zn_31 a nu ce lo ftn_31 0 (by omega) (ha1) (ha5) (by omega) (by decide)) (cwV 2 hts gX1_begin_X1_askAnew rfl rfl rfl (by decide +kernel) ⟨by show 41 - 2 * (dp + 1) + 1 ≤ 40 - 2 * dp; omega, by show 8 + (3 + 11) + (4050 - 100 * (dp + 1)) ≤ 4000 - 100 * dp; omega⟩) ⟨fun a U g mk q => by obtain ⟨q0, q1, qP, qK, qD, qS⟩ := q; exact ⟨q0, q1, qP, va_K.moved (u := U) (U := U.calling g mk a) (Vm.Alike.refl U.vm) qK, qD, stt_same rfl qS⟩, va_recv hK hP (ci := 1) (q0 := 0) rfl rfl, fun U hU hW => ⟨rfl, by rw [hU], by rw [hU]; exact hc_32.1, va_K.moved hW.alike hK, hc_32.2.1.weaken (fun _ _ _ _ => trivial), by rw [hU]; exact stt_warm hW (stt_narrow (stt_kept hst hS.2.1) hc_32.2.2)⟩⟩ rfl rfl hl.1 rfl (lv_room (Nat.le_of_ble_eq_true rfl)) dX1_begin_182 ⟨Nat.le_of_ble_eq_true rfl, Nat.le_of_ble_eq_true rfl⟩) hS (fun q _ h => hc_32.2.2 q h) hc_32.2.2 (fun r_32 u_32 t_32 H1 locs ht hvm h_32 hB hz1 hk1 hS => ?_)
      refine xl_2_4 hB (fun zn_32 ftn_32 hP1 hD1 hF_32_0 hF_32_1 => ?_)
      clear hB
      rw [ht] at hP1
      obtain ⟨hP, hD⟩ := va_join (wr := []) (w1 := [(xo_1_riiiii k9 tc (nI zn_32) nu (nI a) ce lo), (xI tc cI 16 ftn_32)]) hP hD [0, 1] [] rfl rfl (by decide +kernel) (by decide +kernel) hk1 hc_32.2.2 hP1 hD1
      generalize H1 = H at hP hS ⊢
      have hP : va_P (dC, dI) vwCl [(xo_1_riiiii k9 tc (nI zn_32) nu (nI a) ce lo), (xI tc cI 16 ftn_32)] H := hP
      have hD := dto hP hD
      refine lv_isub hx hb dX1_begin_185 ?_
      refine lv_topi (fun v_33 e_33 => ?_)
      have hX9 := cut2 (wc := [(xo_1_riiiii k9 tc (nI zn_32) nu (nI a) ce lo), (xI tc cI 16 ftn_32)]) hP hD [0, 1] (by decide +kernel) rfl
      exact W.iret (v := v_33) hx hb hr (fun t ht hW => ⟨⟨v_33, (), rfl, (lf_X1_begin_s_28 hz ha1 ha5 hdn c_1 hF_2_0 hF_2_1 k_4 k_5 k_9 k_12 k_15 k_18 k_19 k_20 k_21 k_22 k_23 k_24 k_27 hF_31_0 hF_31_1 h_31 hF_32_0 hF_32_1 h_32 e_33), ⟨zn_32, ftn_32, va_Ht ht hX9.1, hX9.2, (by omega), (lf_X1_begin_s_27 hz ha1 ha5 hdn c_1 hF_2_0 hF_2_1 k_4 k_5 k_9 k_12 k_15 k_18 k_19 k_20 k_21 k_22 k_23 k_24 k_27 hF_31_0 hF_31_1 h_31 hF_32_0 hF_32_1 h_32 e_33)⟩⟩, hS.F ht⟩) hS.2.2 dX1_begin_186
    by_cases k_34 : x = 24
    · subst k_34
      refine lv_tableIn (off := 169) (tgt := 187) hx hb dX1_begin_18 (by decide) (by decide) (by decide) (by decide) ?_
      refine lv_aload_n hx hb dX1_begin_187 rfl (lv_at hl 1 rfl) ?_
      refine lv_bipush (v := 21) hx hb dX1_begin_188 (by decide) ?_
      refine lv_iload_n hx hb dX1_begin_190 rfl (lv_at hl 0 rfl) ?_
      have hc_35 := cutW (wc := [(xo_1_riiiii k9 tc (nI zn_2) nu (nI a) ce lo), (xI tc cI 16 ftn_2)]) hP hD hS hA [0, 1] (by decide +kernel) rfl
      refine va_calli (va_runV (As := [.int 21, .int (nI (dp + 1))]) (rest := []) ⟨hx, hb, hml, hown, hts⟩ (IHb l dC dI cI cZ cL cJ H.size k9 tc zn_2 a nu ce lo ftn_2 21 (by omega) (ha1) (ha5) (by omega)) (cwV 2 hts gX1_begin_X1_begin rfl rfl rfl (by decide +kernel) ⟨by show 40 - 2 * (dp + 1) + 1 ≤ 40 - 2 * dp; omega, by show 8 + (4 + 11) + (4000 - 100 * (dp + 1)) ≤ 4000 - 100 * dp; omega⟩) ⟨fun a U g mk q => by obtain ⟨q0, q1, qP, qK, qD, qS⟩ := q; exact ⟨q0, q1, qP, va_K.moved (u := U) (U := U.calling g mk a) (Vm.Alike.refl U.vm) qK, qD, stt_same rfl qS⟩, va_recv hK hP (ci := 1) (q0 := 0) rfl rfl, fun U hU hW => ⟨rfl, by rw [hU], by rw [hU]; exact hc_35.1, va_K.moved hW.alike hK, hc_35.2.1.weaken (fun _ _ _ _ => trivial), by rw [hU]; exact stt_warm hW (stt_narrow (stt_kept hst hS.2.1) hc_35.2.2)⟩⟩ rfl rfl hl.1 rfl (lv_room (Nat.le_of_ble_eq_true rfl)) dX1_begin_191 ⟨Nat.le_of_ble_eq_true rfl, Nat.le_of_ble_eq_true rfl⟩) hS (fun q _ h => hc_35.2.2 q h) hc_35.2.2 (fun r_35 u_35 t_35 H1 locs ht hvm h_35 hB hz1 hk1 hS => ?_)
      refine xl_2_4 hB (fun zn_35 ftn_35 hP1 hD1 hF_35_0 hF_35_1 => ?_)
      clear hB
      rw [ht] at hP1
      obtain ⟨hP, hD⟩ := va_join (wr := []) (w1 := [(xo_1_riiiii k9 tc (nI zn_35) nu (nI a) ce lo), (xI tc cI 16 ftn_35)]) hP hD [0, 1] [] rfl rfl (by decide +kernel) (by decide +kernel) hk1 hc_35.2.2 hP1 hD1
      generalize H1 = H at hP hS ⊢
      have hP : va_P (dC, dI) vwCl [(xo_1_riiiii k9 tc (nI zn_35) nu (nI a) ce lo), (xI tc cI 16 ftn_35)] H := hP
      have hD := dto hP hD
      refine lv_iconst (v := 2) hx hb dX1_begin_194 (by decide) ?_
      refine lv_imul hx hb dX1_begin_195 ?_
      refine lv_topi (fun v_36 e_36 => ?_)
      have hX9 := cut2 (wc := [(xo_1_riiiii k9 tc (nI zn_35) nu (nI a) ce lo), (xI tc cI 16 ftn_35)]) hP hD [0, 1] (by decide +kernel) rfl
      exact W.iret (v := v_36) hx hb hr (fun t ht hW => ⟨⟨v_36, (), rfl, (lf_X1_begin_s_30 hz ha1 ha5 hdn c_1 hF_2_0 hF_2_1 k_4 k_5 k_9 k_12 k_15 k_18 k_19 k_20 k_21 k_22 k_23 k_24 k_27 k_30 hF_35_0 hF_35_1 h_35 e_36), ⟨zn_35, ftn_35, va_Ht ht hX9.1, hX9.2, (by omega), (lf_X1_begin_s_29 hz ha1 ha5 hdn c_1 hF_2_0 hF_2_1 k_4 k_5 k_9 k_12 k_15 k_18 k_19 k_20 k_21 k_22 k_23 k_24 k_27 k_30 hF_35_0 hF_35_1 h_35 e_36)⟩⟩, hS.F ht⟩) hS.2.2 dX1_begin_196
    have kT_4 := lv_neT k_4 (show (10 : Int32).toInt = 10 from rfl)
    have kT_5 := lv_neT k_5 (show (11 : Int32).toInt = 11 from rfl)
    have kT_9 := lv_neT k_9 (show (12 : Int32).toInt = 12 from rfl)
    have kT_12 := lv_neT k_12 (show (13 : Int32).toInt = 13 from rfl)
    have kT_15 := lv_neT k_15 (show (14 : Int32).toInt = 14 from rfl)
    have kT_18 := lv_neT k_18 (show (15 : Int32).toInt = 15 from rfl)
    have kT_19 := lv_neT k_19 (show (16 : Int32).toInt = 16 from rfl)
    have kT_20 := lv_neT k_20 (show (17 : Int32).toInt = 17 from rfl)
    have kT_21 := lv_neT k_21 (show (18 : Int32).toInt = 18 from rfl)
    have kT_22 := lv_neT k_22 (show (19 : Int32).toInt = 19 from rfl)
    have kT_23 := lv_neT k_23 (show (20 : Int32).toInt = 20 from rfl)
    have kT_24 := lv_neT k_24 (show (21 : Int32).toInt = 21 from rfl)
    have kT_27 := lv_neT k_27 (show (22 : Int32).toInt = 22 from rfl)
    have kT_30 := lv_neT k_30 (show (23 : Int32).toInt = 23 from rfl)
    have kT_34 := lv_neT k_34 (show (24 : Int32).toInt = 24 from rfl)
    refine lv_tableOut (tgt := 197) hx hb dX1_begin_18 (by omega) (by decide) ?_
    refine lv_iconst (v := 0) hx hb dX1_begin_197 (by decide) ?_
    have hX9 := cut2 (wc := [(xo_1_riiiii k9 tc (nI zn_2) nu (nI a) ce lo), (xI tc cI 16 ftn_2)]) hP hD [0, 1] (by decide +kernel) rfl
    exact W.iret (v := 0) hx hb hr (fun t ht hW => ⟨⟨0, (), rfl, (lf_X1_begin_s_32 hz ha1 ha5 hdn c_1 hF_2_0 hF_2_1 k_4 k_5 k_9 k_12 k_15 k_18 k_19 k_20 k_21 k_22 k_23 k_24 k_27 k_30 k_34), ⟨zn_2, ftn_2, va_Ht ht hX9.1, hX9.2, (by omega), (lf_X1_begin_s_31 hz ha1 ha5 hdn c_1 hF_2_0 hF_2_1 k_4 k_5 k_9 k_12 k_15 k_18 k_19 k_20 k_21 k_22 k_23 k_24 k_27 k_30 k_34)⟩⟩, hS.F ht⟩) hS.2.2 dX1_begin_198
  · have c_1 : ¬ (dp < 16) := fun q_ => c_1 ((nI_ltI (a := dp) (b := 16) (by omega) (by omega)).mpr q_)
    refine lv_iconst (v := 0) hx hb dX1_begin_6 (by decide) ?_
    have hX9 := cut2 (wc := [(xo_1_riiiii k9 tc (nI z) nu (nI a) ce lo), (xI tc cI 16 ft)]) hP hD [0, 1] (by decide +kernel) rfl
    exact W.iret (v := 0) hx hb hr (fun t ht hW => ⟨⟨0, (), rfl, (lf_X1_begin_s_34 hz ha1 ha5 hdn c_1), ⟨z, ft, va_Ht ht hX9.1, hX9.2, (by omega), (lf_X1_begin_s_33 hz ha1 ha5 hdn c_1)⟩⟩, hS.F ht⟩) hS.2.2 dX1_begin_7
theorem lf_X1_askAnew_s_1 {z : Nat} {a : Nat} {nu : Int32} {ce : Int32} {lo : Int32} {ft : Nat → Int32} {dp : Nat} {x : Int32} {r_1 : Int32} {zn_2 : Nat} {ftn_2 : Nat → Int32} {r_2 : Int32} (hz : z ≤ 16) (ha1 : 1 ≤ a) (ha5 : a ≤ 5) (hdn : dp ≤ 16) (hx01 : x = 0 ∨ x = 1) (h_1 : r_1 = (bfX a x)) (hF_2_0 : zn_2 ≤ 16) (hF_2_1 : (bgX nu a ce lo (16 - dp) r_1 (z, ft)).2 = (zn_2, ftn_2)) (h_2 : r_2 = ((bgX nu a ce lo (16 - dp) r_1 (z, ft)).1)) : (bgX nu a ce lo (16 - dp) (bfX a x) (z, ft)).2 = (zn_2, ftn_2) := by
  first | omega | grind
theorem lf_X1_askAnew_s_2 {z : Nat} {a : Nat} {nu : Int32} {ce : Int32} {lo : Int32} {ft : Nat → Int32} {dp : Nat} {x : Int32} {r_1 : Int32} {zn_2 : Nat} {ftn_2 : Nat → Int32} {r_2 : Int32} (hz : z ≤ 16) (ha1 : 1 ≤ a) (ha5 : a ≤ 5) (hdn : dp ≤ 16) (hx01 : x = 0 ∨ x = 1) (h_1 : r_1 = (bfX a x)) (hF_2_0 : zn_2 ≤ 16) (hF_2_1 : (bgX nu a ce lo (16 - dp) r_1 (z, ft)).2 = (zn_2, ftn_2)) (h_2 : r_2 = ((bgX nu a ce lo (16 - dp) r_1 (z, ft)).1)) : r_2 = ((bgX nu a ce lo (16 - dp) (bfX a x) (z, ft)).1) := by
  first | omega | grind
set_option maxHeartbeats 4000000 in
set_option maxRecDepth 100000 in
theorem r_X1_askAnew_s (l : Launch) (dC : Nat → ClassId) (dI : Nat → Nat → Nat) (cI cZ cL cJ : ClassId) (sz : Nat) (k9 : Nat) (tc : Nat) (z : Nat) (a : Nat) (nu : Int32) (ce : Int32) (lo : Int32) (ft : Nat → Int32) (dp : Nat) (x : Int32) (hz : z ≤ 16) (ha1 : 1 ≤ a) (ha5 : a ≤ 5) (hdn : dp ≤ 16) (hx01 : x = 0 ∨ x = 1) (IHc : ∀ (l : Launch) (dC : Nat → ClassId) (dI : Nat → Nat → Nat) (cI cZ cL cJ : ClassId) (sz : Nat) (k9 : Nat) (tc : Nat) (z : Nat) (a : Nat) (nu : Int32) (ce : Int32) (lo : Int32) (ft : Nat → Int32) (x : Int32) (hz : z ≤ 16) (ha1 : 1 ≤ a) (ha5 : a ≤ 5) (hdn : dp ≤ 16), Met l yX1_begin wsX1_begin ({ frames := 40 - 2 * dp, cells := 0, slots := 0, locals := 4000 - 100 * dp }) (va_Pc [.ref k9, .int x, .int (nI dp)] (fun U => U.heap.size = sz ∧ va_P (dC, dI) vwCl [(xo_1_riiiii k9 tc (nI z) nu (nI a) ce lo), (xI tc cI 16 ft)] U.heap ∧ va_K (dC, dI) vwCl [(cI, .int), (cZ, .boolean), (cL, .object RX3), (cJ, .array .int)] U ∧ va_D (fun _ => True) [(xo_1_riiiii k9 tc (nI z) nu (nI a) ce lo), (xI tc cI 16 ft)] ∧ stt (va_A [(xo_1_riiiii k9 tc (nI z) nu (nI a) ce lo), (xI tc cI 16 ft)] sz) U U.heap)) (va_Qi (fun r (_ : Unit) => r = ((bgX nu a ce lo (16 - dp) x (z, ft)).1)) (fun (_ : Unit) t => ∃ (zn : Nat) (ftn : Nat → Int32), va_P (dC, dI) vwCl [(xo_1_riiiii k9 tc (nI zn) nu (nI a) ce lo), (xI tc cI 16 ftn)] t.heap ∧ va_D (va_A [(xo_1_riiiii k9 tc (nI z) nu (nI a) ce lo), (xI tc cI 16 ft)] sz) [(xo_1_riiiii k9 tc (nI zn) nu (nI a) ce lo), (xI tc cI 16 ftn)] ∧ zn ≤ 16 ∧ (bgX nu a ce lo (16 - dp) x (z, ft)).2 = (zn, ftn)) (va_A [(xo_1_riiiii k9 tc (nI z) nu (nI a) ce lo), (xI tc cI 16 ft)] sz)) 0 0 (va_A [(xo_1_riiiii k9 tc (nI z) nu (nI a) ce lo), (xI tc cI 16 ft)] sz)) : Met l yX1_askAnew wsX1_askAnew ({ frames := 41 - 2 * dp, cells := 0, slots := 0, locals := 4050 - 100 * dp }) (va_Pc [.ref k9, .int x, .int (nI dp)] (fun U => U.heap.size = sz ∧ va_P (dC, dI) vwCl [(xo_1_riiiii k9 tc (nI z) nu (nI a) ce lo), (xI tc cI 16 ft)] U.heap ∧ va_K (dC, dI) vwCl [(cI, .int), (cZ, .boolean), (cL, .object RX3), (cJ, .array .int)] U ∧ va_D (fun _ => True) [(xo_1_riiiii k9 tc (nI z) nu (nI a) ce lo), (xI tc cI 16 ft)] ∧ stt (va_A [(xo_1_riiiii k9 tc (nI z) nu (nI a) ce lo), (xI tc cI 16 ft)] sz) U U.heap)) (va_Qi (fun r (_ : Unit) => r = ((bgX nu a ce lo (16 - dp) (bfX a x) (z, ft)).1)) (fun (_ : Unit) t => ∃ (zn : Nat) (ftn : Nat → Int32), va_P (dC, dI) vwCl [(xo_1_riiiii k9 tc (nI zn) nu (nI a) ce lo), (xI tc cI 16 ftn)] t.heap ∧ va_D (va_A [(xo_1_riiiii k9 tc (nI z) nu (nI a) ce lo), (xI tc cI 16 ft)] sz) [(xo_1_riiiii k9 tc (nI zn) nu (nI a) ce lo), (xI tc cI 16 ftn)] ∧ zn ≤ 16 ∧ (bgX nu a ce lo (16 - dp) (bfX a x) (z, ft)).2 = (zn, ftn)) (va_A [(xo_1_riiiii k9 tc (nI z) nu (nI a) ce lo), (xI tc cI 16 ft)] sz)) 0 0 (va_A [(xo_1_riiiii k9 tc (nI z) nu (nI a) ce lo), (xI tc cI 16 ft)] sz) := by
  refine Met.ofW (cc := cX1_askAnew) (maxL := 3) (ret := (some .int)) (by decide) rfl ?_
  intro p e s m args below meth c s₁ B hml hv
  obtain ⟨rfl, hsz, hP, hK, hD0, hst⟩ := hv
  have hx := B.exec
  have hb := B.bytes
  have hr := B.returns
  have hts := atoms_spec (ws := wsX1_askAnew) B.pre
  have hown : s.vm.findClass RX1 = some m.cls := findClass_of_methodNamed B.named
  have hlocks := B.notSynchronized
  subst hsz
  have hD := hD0.self (sz := s.heap.size)
  generalize hAe : va_A [(xo_1_riiiii k9 tc (nI z) nu (nI a) ce lo), (xI tc cI 16 ft)] s.heap.size = A at hD hst ⊢
  have hA : ∀ q : Nat, s.heap.size ≤ q → A q := fun q h => by rw [← hAe]; exact Or.inr h
  have hS : va_S A s.heap s.heap [] := va_S.rf
  have hP : va_P (dC, dI) vwCl [(xo_1_riiiii k9 tc (nI z) nu (nI a) ce lo), (xI tc cI 16 ft)] s.heap := hP
  obtain ⟨⟨tb1, hZ1, hT1⟩, ⟨tb2, hZ2, hT2⟩, ⟨tb3, hZ3, hT3⟩, hNk⟩ := id hst
  have hl := lv_entry ([.ref k9, .int x, .int (nI dp)]) (n := 3) (Nat.le_of_ble_eq_true rfl)
  rw [lg_entry_eq]
  generalize (lg_sl ([.ref k9, .int x, .int (nI dp)]) ++ List.replicate (3 - (lg_sl ([.ref k9, .int x, .int (nI dp)])).length) Slot.unset).toArray = ls at hl ⊢
  have hl : lv_has ls 3 [(0, .ref k9), (1, .int x), (2, .int (nI dp))] := hl
  refine lv_aload_n hx hb dX1_askAnew_0 rfl (lv_at hl 0 rfl) ?_
  refine lv_aload_n hx hb dX1_askAnew_1 rfl (lv_at hl 0 rfl) ?_
  refine lv_iload_n hx hb dX1_askAnew_2 rfl (lv_at hl 1 rfl) ?_
  have hPc_1 := hP.sub (ws' := [(xo_1_riiiii k9 tc (nI z) nu (nI a) ce lo)]) [0] rfl
  refine vp_callSi (W.runV (As := [.int x]) (rest := [.ref k9]) ⟨hx, hb, hml, hown, hts⟩ (r_X1_bodyFor l dC dI cI cZ cL cJ k9 tc z a nu ce lo x (ha1) (ha5) (hx01)) (cwV 1 hts gX1_askAnew_X1_bodyFor rfl rfl rfl (by decide +kernel) ⟨by show 0 + 1 ≤ 41 - 2 * dp; omega, by show 8 + (5 + 11) + 0 ≤ 4050 - 100 * dp; omega⟩) ⟨fun a U g mk q => by obtain ⟨q0, qP, qK, qS⟩ := q; exact ⟨q0, qP, va_K.moved (u := U) (U := U.calling g mk a) (Vm.Alike.refl U.vm) qK, stt_same rfl qS⟩, va_recv hK hP (ci := 1) (q0 := 0) rfl rfl, fun U hU hW => ⟨rfl, by rw [hU]; exact hPc_1, va_K.moved hW.alike hK, by rw [hU]; exact stt_warm hW (stt_narrow (stt_kept hst hS.2.1) (fun _ h => h.elim))⟩⟩ rfl rfl hl.1 rfl (lv_room (Nat.le_of_ble_eq_true rfl)) dX1_askAnew_3 ⟨Nat.le_of_ble_eq_true rfl, Nat.le_of_ble_eq_true rfl⟩) (fun r_1 h_1 => ?_)
  refine lv_iload_n hx hb dX1_askAnew_6 rfl (lv_at hl 2 rfl) ?_
  have hc_2 := cutW (wc := [(xo_1_riiiii k9 tc (nI z) nu (nI a) ce lo), (xI tc cI 16 ft)]) hP hD hS hA [0, 1] (by decide +kernel) rfl
  refine va_calli (va_runV (As := [.int r_1, .int (nI dp)]) (rest := []) ⟨hx, hb, hml, hown, hts⟩ (IHc l dC dI cI cZ cL cJ s.heap.size k9 tc z a nu ce lo ft r_1 (by omega) (ha1) (ha5) (by omega)) (cwV 2 hts gX1_askAnew_X1_begin rfl rfl rfl (by decide +kernel) ⟨by show 40 - 2 * dp + 1 ≤ 41 - 2 * dp; omega, by show 8 + (4 + 11) + (4000 - 100 * dp) ≤ 4050 - 100 * dp; omega⟩) ⟨fun a U g mk q => by obtain ⟨q0, q1, qP, qK, qD, qS⟩ := q; exact ⟨q0, q1, qP, va_K.moved (u := U) (U := U.calling g mk a) (Vm.Alike.refl U.vm) qK, qD, stt_same rfl qS⟩, va_recv hK hP (ci := 1) (q0 := 0) rfl rfl, fun U hU hW => ⟨rfl, by rw [hU], by rw [hU]; exact hc_2.1, va_K.moved hW.alike hK, hc_2.2.1.weaken (fun _ _ _ _ => trivial), by rw [hU]; exact stt_warm hW (stt_narrow (stt_kept hst hS.2.1) hc_2.2.2)⟩⟩ rfl rfl hl.1 rfl (lv_room (Nat.le_of_ble_eq_true rfl)) dX1_askAnew_7 ⟨Nat.le_of_ble_eq_true rfl, Nat.le_of_ble_eq_true rfl⟩) hS (fun q _ h => hc_2.2.2 q h) hc_2.2.2 (fun r_2 u_2 t_2 H1 locs ht hvm h_2 hB hz1 hk1 hS => ?_)
  refine xl_2_4 hB (fun zn_2 ftn_2 hP1 hD1 hF_2_0 hF_2_1 => ?_)
  clear hB
  rw [ht] at hP1
  obtain ⟨hP, hD⟩ := va_join (wr := []) (w1 := [(xo_1_riiiii k9 tc (nI zn_2) nu (nI a) ce lo), (xI tc cI 16 ftn_2)]) hP hD [0, 1] [] rfl rfl (by decide +kernel) (by decide +kernel) hk1 hc_2.2.2 hP1 hD1
  generalize H1 = H at hP hS ⊢
  have hP : va_P (dC, dI) vwCl [(xo_1_riiiii k9 tc (nI zn_2) nu (nI a) ce lo), (xI tc cI 16 ftn_2)] H := hP
  have hD := dto hP hD
  have hX9 := cut2 (wc := [(xo_1_riiiii k9 tc (nI zn_2) nu (nI a) ce lo), (xI tc cI 16 ftn_2)]) hP hD [0, 1] (by decide +kernel) rfl
  exact W.iret (v := r_2) hx hb hr (fun t ht hW => ⟨⟨r_2, (), rfl, (lf_X1_askAnew_s_2 hz ha1 ha5 hdn hx01 h_1 hF_2_0 hF_2_1 h_2), ⟨zn_2, ftn_2, va_Ht ht hX9.1, hX9.2, (by omega), (lf_X1_askAnew_s_1 hz ha1 ha5 hdn hx01 h_1 hF_2_0 hF_2_1 h_2)⟩⟩, hS.F ht⟩) hS.2.2 dX1_askAnew_10
theorem r_X1_i : ∀ (n_ : Nat) (dp : Nat), 16 - dp ≤ n_ → (∀ (l : Launch) (dC : Nat → ClassId) (dI : Nat → Nat → Nat) (cI cZ cL cJ : ClassId) (sz : Nat) (k9 : Nat) (tc : Nat) (z : Nat) (a : Nat) (nu : Int32) (ce : Int32) (lo : Int32) (ft : Nat → Int32) (x : Int32) (hz : z ≤ 16) (ha1 : 1 ≤ a) (ha5 : a ≤ 5) (hdn : dp ≤ 16), Met l yX1_begin wsX1_begin ({ frames := 40 - 2 * dp, cells := 0, slots := 0, locals := 4000 - 100 * dp }) (va_Pc [.ref k9, .int x, .int (nI dp)] (fun U => U.heap.size = sz ∧ va_P (dC, dI) vwCl [(xo_1_riiiii k9 tc (nI z) nu (nI a) ce lo), (xI tc cI 16 ft)] U.heap ∧ va_K (dC, dI) vwCl [(cI, .int), (cZ, .boolean), (cL, .object RX3), (cJ, .array .int)] U ∧ va_D (fun _ => True) [(xo_1_riiiii k9 tc (nI z) nu (nI a) ce lo), (xI tc cI 16 ft)] ∧ stt (va_A [(xo_1_riiiii k9 tc (nI z) nu (nI a) ce lo), (xI tc cI 16 ft)] sz) U U.heap)) (va_Qi (fun r (_ : Unit) => r = ((bgX nu a ce lo (16 - dp) x (z, ft)).1)) (fun (_ : Unit) t => ∃ (zn : Nat) (ftn : Nat → Int32), va_P (dC, dI) vwCl [(xo_1_riiiii k9 tc (nI zn) nu (nI a) ce lo), (xI tc cI 16 ftn)] t.heap ∧ va_D (va_A [(xo_1_riiiii k9 tc (nI z) nu (nI a) ce lo), (xI tc cI 16 ft)] sz) [(xo_1_riiiii k9 tc (nI zn) nu (nI a) ce lo), (xI tc cI 16 ftn)] ∧ zn ≤ 16 ∧ (bgX nu a ce lo (16 - dp) x (z, ft)).2 = (zn, ftn)) (va_A [(xo_1_riiiii k9 tc (nI z) nu (nI a) ce lo), (xI tc cI 16 ft)] sz)) 0 0 (va_A [(xo_1_riiiii k9 tc (nI z) nu (nI a) ce lo), (xI tc cI 16 ft)] sz)) ∧ (∀ (l : Launch) (dC : Nat → ClassId) (dI : Nat → Nat → Nat) (cI cZ cL cJ : ClassId) (sz : Nat) (k9 : Nat) (tc : Nat) (z : Nat) (a : Nat) (nu : Int32) (ce : Int32) (lo : Int32) (ft : Nat → Int32) (x : Int32) (hz : z ≤ 16) (ha1 : 1 ≤ a) (ha5 : a ≤ 5) (hdn : dp ≤ 16) (hx01 : x = 0 ∨ x = 1), Met l yX1_askAnew wsX1_askAnew ({ frames := 41 - 2 * dp, cells := 0, slots := 0, locals := 4050 - 100 * dp }) (va_Pc [.ref k9, .int x, .int (nI dp)] (fun U => U.heap.size = sz ∧ va_P (dC, dI) vwCl [(xo_1_riiiii k9 tc (nI z) nu (nI a) ce lo), (xI tc cI 16 ft)] U.heap ∧ va_K (dC, dI) vwCl [(cI, .int), (cZ, .boolean), (cL, .object RX3), (cJ, .array .int)] U ∧ va_D (fun _ => True) [(xo_1_riiiii k9 tc (nI z) nu (nI a) ce lo), (xI tc cI 16 ft)] ∧ stt (va_A [(xo_1_riiiii k9 tc (nI z) nu (nI a) ce lo), (xI tc cI 16 ft)] sz) U U.heap)) (va_Qi (fun r (_ : Unit) => r = ((bgX nu a ce lo (16 - dp) (bfX a x) (z, ft)).1)) (fun (_ : Unit) t => ∃ (zn : Nat) (ftn : Nat → Int32), va_P (dC, dI) vwCl [(xo_1_riiiii k9 tc (nI zn) nu (nI a) ce lo), (xI tc cI 16 ftn)] t.heap ∧ va_D (va_A [(xo_1_riiiii k9 tc (nI z) nu (nI a) ce lo), (xI tc cI 16 ft)] sz) [(xo_1_riiiii k9 tc (nI zn) nu (nI a) ce lo), (xI tc cI 16 ftn)] ∧ zn ≤ 16 ∧ (bgX nu a ce lo (16 - dp) (bfX a x) (z, ft)).2 = (zn, ftn)) (va_A [(xo_1_riiiii k9 tc (nI z) nu (nI a) ce lo), (xI tc cI 16 ft)] sz)) 0 0 (va_A [(xo_1_riiiii k9 tc (nI z) nu (nI a) ce lo), (xI tc cI 16 ft)] sz))
  | 0, dp, hdp => by
    have b : ∀ (l : Launch) (dC : Nat → ClassId) (dI : Nat → Nat → Nat) (cI cZ cL cJ : ClassId) (sz : Nat) (k9 : Nat) (tc : Nat) (z : Nat) (a : Nat) (nu : Int32) (ce : Int32) (lo : Int32) (ft : Nat → Int32) (x : Int32) (hz : z ≤ 16) (ha1 : 1 ≤ a) (ha5 : a ≤ 5) (hdn : dp ≤ 16), Met l yX1_begin wsX1_begin ({ frames := 40 - 2 * dp, cells := 0, slots := 0, locals := 4000 - 100 * dp }) (va_Pc [.ref k9, .int x, .int (nI dp)] (fun U => U.heap.size = sz ∧ va_P (dC, dI) vwCl [(xo_1_riiiii k9 tc (nI z) nu (nI a) ce lo), (xI tc cI 16 ft)] U.heap ∧ va_K (dC, dI) vwCl [(cI, .int), (cZ, .boolean), (cL, .object RX3), (cJ, .array .int)] U ∧ va_D (fun _ => True) [(xo_1_riiiii k9 tc (nI z) nu (nI a) ce lo), (xI tc cI 16 ft)] ∧ stt (va_A [(xo_1_riiiii k9 tc (nI z) nu (nI a) ce lo), (xI tc cI 16 ft)] sz) U U.heap)) (va_Qi (fun r (_ : Unit) => r = ((bgX nu a ce lo (16 - dp) x (z, ft)).1)) (fun (_ : Unit) t => ∃ (zn : Nat) (ftn : Nat → Int32), va_P (dC, dI) vwCl [(xo_1_riiiii k9 tc (nI zn) nu (nI a) ce lo), (xI tc cI 16 ftn)] t.heap ∧ va_D (va_A [(xo_1_riiiii k9 tc (nI z) nu (nI a) ce lo), (xI tc cI 16 ft)] sz) [(xo_1_riiiii k9 tc (nI zn) nu (nI a) ce lo), (xI tc cI 16 ftn)] ∧ zn ≤ 16 ∧ (bgX nu a ce lo (16 - dp) x (z, ft)).2 = (zn, ftn)) (va_A [(xo_1_riiiii k9 tc (nI z) nu (nI a) ce lo), (xI tc cI 16 ft)] sz)) 0 0 (va_A [(xo_1_riiiii k9 tc (nI z) nu (nI a) ce lo), (xI tc cI 16 ft)] sz) := fun l dC dI cI cZ cL cJ sz k9 tc z a nu ce lo ft x hz ha1 ha5 hdn => r_X1_begin_s l dC dI cI cZ cL cJ sz k9 tc z a nu ce lo ft dp x hz ha1 ha5 hdn (fun l dC dI cI cZ cL cJ sz k9 tc z a nu ce lo ft x hz ha1 ha5 hdn => absurd hdn (by omega)) (fun l dC dI cI cZ cL cJ sz k9 tc z a nu ce lo ft x hz ha1 ha5 hdn hx01 => absurd hdn (by omega))
    exact ⟨b, fun l dC dI cI cZ cL cJ sz k9 tc z a nu ce lo ft x hz ha1 ha5 hdn hx01 => r_X1_askAnew_s l dC dI cI cZ cL cJ sz k9 tc z a nu ce lo ft dp x hz ha1 ha5 hdn hx01 b⟩
  | n_ + 1, dp, hdp => by
    have b : ∀ (l : Launch) (dC : Nat → ClassId) (dI : Nat → Nat → Nat) (cI cZ cL cJ : ClassId) (sz : Nat) (k9 : Nat) (tc : Nat) (z : Nat) (a : Nat) (nu : Int32) (ce : Int32) (lo : Int32) (ft : Nat → Int32) (x : Int32) (hz : z ≤ 16) (ha1 : 1 ≤ a) (ha5 : a ≤ 5) (hdn : dp ≤ 16), Met l yX1_begin wsX1_begin ({ frames := 40 - 2 * dp, cells := 0, slots := 0, locals := 4000 - 100 * dp }) (va_Pc [.ref k9, .int x, .int (nI dp)] (fun U => U.heap.size = sz ∧ va_P (dC, dI) vwCl [(xo_1_riiiii k9 tc (nI z) nu (nI a) ce lo), (xI tc cI 16 ft)] U.heap ∧ va_K (dC, dI) vwCl [(cI, .int), (cZ, .boolean), (cL, .object RX3), (cJ, .array .int)] U ∧ va_D (fun _ => True) [(xo_1_riiiii k9 tc (nI z) nu (nI a) ce lo), (xI tc cI 16 ft)] ∧ stt (va_A [(xo_1_riiiii k9 tc (nI z) nu (nI a) ce lo), (xI tc cI 16 ft)] sz) U U.heap)) (va_Qi (fun r (_ : Unit) => r = ((bgX nu a ce lo (16 - dp) x (z, ft)).1)) (fun (_ : Unit) t => ∃ (zn : Nat) (ftn : Nat → Int32), va_P (dC, dI) vwCl [(xo_1_riiiii k9 tc (nI zn) nu (nI a) ce lo), (xI tc cI 16 ftn)] t.heap ∧ va_D (va_A [(xo_1_riiiii k9 tc (nI z) nu (nI a) ce lo), (xI tc cI 16 ft)] sz) [(xo_1_riiiii k9 tc (nI zn) nu (nI a) ce lo), (xI tc cI 16 ftn)] ∧ zn ≤ 16 ∧ (bgX nu a ce lo (16 - dp) x (z, ft)).2 = (zn, ftn)) (va_A [(xo_1_riiiii k9 tc (nI z) nu (nI a) ce lo), (xI tc cI 16 ft)] sz)) 0 0 (va_A [(xo_1_riiiii k9 tc (nI z) nu (nI a) ce lo), (xI tc cI 16 ft)] sz) := fun l dC dI cI cZ cL cJ sz k9 tc z a nu ce lo ft x hz ha1 ha5 hdn => r_X1_begin_s l dC dI cI cZ cL cJ sz k9 tc z a nu ce lo ft dp x hz ha1 ha5 hdn (r_X1_i n_ (dp + 1) (by omega)).1 (r_X1_i n_ (dp + 1) (by omega)).2
    exact ⟨b, fun l dC dI cI cZ cL cJ sz k9 tc z a nu ce lo ft x hz ha1 ha5 hdn hx01 => r_X1_askAnew_s l dC dI cI cZ cL cJ sz k9 tc z a nu ce lo ft dp x hz ha1 ha5 hdn hx01 b⟩
theorem r_X1_askAnew (l : Launch) (dC : Nat → ClassId) (dI : Nat → Nat → Nat) (cI cZ cL cJ : ClassId) (sz : Nat) (k9 : Nat) (tc : Nat) (z : Nat) (a : Nat) (nu : Int32) (ce : Int32) (lo : Int32) (ft : Nat → Int32) (dp : Nat) (x : Int32) (hz : z ≤ 16) (ha1 : 1 ≤ a) (ha5 : a ≤ 5) (hdn : dp ≤ 16) (hx01 : x = 0 ∨ x = 1) : Met l yX1_askAnew wsX1_askAnew ({ frames := 41 - 2 * dp, cells := 0, slots := 0, locals := 4050 - 100 * dp }) (va_Pc [.ref k9, .int x, .int (nI dp)] (fun U => U.heap.size = sz ∧ va_P (dC, dI) vwCl [(xo_1_riiiii k9 tc (nI z) nu (nI a) ce lo), (xI tc cI 16 ft)] U.heap ∧ va_K (dC, dI) vwCl [(cI, .int), (cZ, .boolean), (cL, .object RX3), (cJ, .array .int)] U ∧ va_D (fun _ => True) [(xo_1_riiiii k9 tc (nI z) nu (nI a) ce lo), (xI tc cI 16 ft)] ∧ stt (va_A [(xo_1_riiiii k9 tc (nI z) nu (nI a) ce lo), (xI tc cI 16 ft)] sz) U U.heap)) (va_Qi (fun r (_ : Unit) => r = ((bgX nu a ce lo (16 - dp) (bfX a x) (z, ft)).1)) (fun (_ : Unit) t => ∃ (zn : Nat) (ftn : Nat → Int32), va_P (dC, dI) vwCl [(xo_1_riiiii k9 tc (nI zn) nu (nI a) ce lo), (xI tc cI 16 ftn)] t.heap ∧ va_D (va_A [(xo_1_riiiii k9 tc (nI z) nu (nI a) ce lo), (xI tc cI 16 ft)] sz) [(xo_1_riiiii k9 tc (nI zn) nu (nI a) ce lo), (xI tc cI 16 ftn)] ∧ zn ≤ 16 ∧ (bgX nu a ce lo (16 - dp) (bfX a x) (z, ft)).2 = (zn, ftn)) (va_A [(xo_1_riiiii k9 tc (nI z) nu (nI a) ce lo), (xI tc cI 16 ft)] sz)) 0 0 (va_A [(xo_1_riiiii k9 tc (nI z) nu (nI a) ce lo), (xI tc cI 16 ft)] sz) :=
  (r_X1_i 16 dp (by omega)).2 l dC dI cI cZ cL cJ sz k9 tc z a nu ce lo ft x hz ha1 ha5 hdn hx01
theorem lf_X1_answer_1 {z : Nat} {ft : Nat → Int32} {hh : Nat} {ww : Nat} {kk : Nat} {g2 : Nat → Int32} {g3 : Nat → Int32} {g4 : Nat → Int32} {i : Nat} {a : Nat} {x : Int32} {v_2 : Int32} {v_3 : Int32} {zn_4 : Nat} {ftn_4 : Nat → Int32} {r_4 : Int32} (hz : z ≤ 16) (hhb : hh ≤ 999) (hww : ww ≤ 6) (hkk : kk ≤ 6) (hi : i < 6) (ha1 : 1 ≤ a) (ha5 : a ≤ 5) (hka : g2 i = nI a) (hx01 : x = 0 ∨ x = 1) (e_2 : v_2 = g3 i) (e_3 : v_3 = g4 i) (hF_4_0 : zn_4 ≤ 16) (hF_4_1 : (bgX (nI i) a v_2 v_3 (16 - 0) (bfX a x) (0, ft)).2 = (zn_4, ftn_4)) (h_4 : r_4 = ((bgX (nI i) a v_2 v_3 (16 - 0) (bfX a x) (0, ft)).1)) : (bgX (nI i) a (g3 i) (g4 i) 16 (bfX a x) (0, ft)).2 = (zn_4, ftn_4) := by
  first | omega | (simp only [Nat.sub_zero] at *; grind)
theorem lf_X1_answer_2 {z : Nat} {ft : Nat → Int32} {hh : Nat} {ww : Nat} {kk : Nat} {g2 : Nat → Int32} {g3 : Nat → Int32} {g4 : Nat → Int32} {i : Nat} {a : Nat} {x : Int32} {v_2 : Int32} {v_3 : Int32} {zn_4 : Nat} {ftn_4 : Nat → Int32} {r_4 : Int32} (hz : z ≤ 16) (hhb : hh ≤ 999) (hww : ww ≤ 6) (hkk : kk ≤ 6) (hi : i < 6) (ha1 : 1 ≤ a) (ha5 : a ≤ 5) (hka : g2 i = nI a) (hx01 : x = 0 ∨ x = 1) (e_2 : v_2 = g3 i) (e_3 : v_3 = g4 i) (hF_4_0 : zn_4 ≤ 16) (hF_4_1 : (bgX (nI i) a v_2 v_3 (16 - 0) (bfX a x) (0, ft)).2 = (zn_4, ftn_4)) (h_4 : r_4 = ((bgX (nI i) a v_2 v_3 (16 - 0) (bfX a x) (0, ft)).1)) : r_4 = ((bgX (nI i) a (g3 i) (g4 i) 16 (bfX a x) (0, ft)).1) := by
  first | omega | (simp only [Nat.sub_zero] at *; grind)
set_option maxHeartbeats 4000000 in
set_option maxRecDepth 100000 in
theorem r_X1_answer (l : Launch) (dC : Nat → ClassId) (dI : Nat → Nat → Nat) (cI cZ cL cJ : ClassId) (sz : Nat) (k9 : Nat) (tc : Nat) (z : Nat) (nu : Int32) (ki : Int32) (ce : Int32) (lo : Int32) (ft : Nat → Int32) (h : Nat) (v0 : Int32) (v1 : Int32) (v2 : Int32) (v3 : Int32) (v5 : Int32) (hh : Nat) (ww : Nat) (kk : Nat) (b1 : Nat) (b2 : Nat) (b3 : Nat) (b4 : Nat) (b5 : Nat) (g1 : Nat → Int32) (g2 : Nat → Int32) (g3 : Nat → Int32) (g4 : Nat → Int32) (g5 : Nat → Int32) (i : Nat) (a : Nat) (x : Int32) (hz : z ≤ 16) (hhb : hh ≤ 999) (hww : ww ≤ 6) (hkk : kk ≤ 6) (hi : i < 6) (ha1 : 1 ≤ a) (ha5 : a ≤ 5) (hka : g2 i = nI a) (hx01 : x = 0 ∨ x = 1) : Met l yX1_answer wsX1_answer ({ frames := 42, cells := 0, slots := 0, locals := 4072 }) (va_Pc [.ref k9, .ref h, .int (nI i), .int x] (fun U => U.heap.size = sz ∧ va_P (dC, dI) vwCl [(xo_1_riiiii k9 tc (nI z) nu ki ce lo), (xI tc cI 16 ft), (xo_3_iiiiiiiirrrrr h v0 v1 v2 v3 (nI hh) v5 (nI ww) (nI kk) b1 b2 b3 b4 b5), (xI b1 cI 6 g1), (xI b2 cI 6 g2), (xI b3 cI 6 g3), (xI b4 cI 6 g4), (xI b5 cI 6 g5)] U.heap ∧ va_K (dC, dI) vwCl [(cI, .int), (cZ, .boolean), (cL, .object RX3), (cJ, .array .int)] U ∧ va_D (fun _ => True) [(xo_1_riiiii k9 tc (nI z) nu ki ce lo), (xI tc cI 16 ft), (xo_3_iiiiiiiirrrrr h v0 v1 v2 v3 (nI hh) v5 (nI ww) (nI kk) b1 b2 b3 b4 b5), (xI b1 cI 6 g1), (xI b2 cI 6 g2), (xI b3 cI 6 g3), (xI b4 cI 6 g4), (xI b5 cI 6 g5)] ∧ stt (va_A [(xo_1_riiiii k9 tc (nI z) nu ki ce lo), (xI tc cI 16 ft), (xo_3_iiiiiiiirrrrr h v0 v1 v2 v3 (nI hh) v5 (nI ww) (nI kk) b1 b2 b3 b4 b5), (xI b1 cI 6 g1), (xI b2 cI 6 g2), (xI b3 cI 6 g3), (xI b4 cI 6 g4), (xI b5 cI 6 g5)] sz) U U.heap)) (va_Qi (fun r (_ : Unit) => r = ((bgX (nI i) a (g3 i) (g4 i) 16 (bfX a x) (0, ft)).1)) (fun (_ : Unit) t => ∃ (zn : Nat) (nun : Int32) (kin : Int32) (cen : Int32) (lon : Int32) (ftn : Nat → Int32), va_P (dC, dI) vwCl [(xo_1_riiiii k9 tc (nI zn) nun kin cen lon), (xI tc cI 16 ftn), (xo_3_iiiiiiiirrrrr h v0 v1 v2 v3 (nI hh) v5 (nI ww) (nI kk) b1 b2 b3 b4 b5), (xI b1 cI 6 g1), (xI b2 cI 6 g2), (xI b3 cI 6 g3), (xI b4 cI 6 g4), (xI b5 cI 6 g5)] t.heap ∧ va_D (va_A [(xo_1_riiiii k9 tc (nI z) nu ki ce lo), (xI tc cI 16 ft), (xo_3_iiiiiiiirrrrr h v0 v1 v2 v3 (nI hh) v5 (nI ww) (nI kk) b1 b2 b3 b4 b5), (xI b1 cI 6 g1), (xI b2 cI 6 g2), (xI b3 cI 6 g3), (xI b4 cI 6 g4), (xI b5 cI 6 g5)] sz) [(xo_1_riiiii k9 tc (nI zn) nun kin cen lon), (xI tc cI 16 ftn), (xo_3_iiiiiiiirrrrr h v0 v1 v2 v3 (nI hh) v5 (nI ww) (nI kk) b1 b2 b3 b4 b5), (xI b1 cI 6 g1), (xI b2 cI 6 g2), (xI b3 cI 6 g3), (xI b4 cI 6 g4), (xI b5 cI 6 g5)] ∧ zn ≤ 16 ∧ (bgX (nI i) a (g3 i) (g4 i) 16 (bfX a x) (0, ft)).2 = (zn, ftn)) (va_A [(xo_1_riiiii k9 tc (nI z) nu ki ce lo), (xI tc cI 16 ft), (xo_3_iiiiiiiirrrrr h v0 v1 v2 v3 (nI hh) v5 (nI ww) (nI kk) b1 b2 b3 b4 b5), (xI b1 cI 6 g1), (xI b2 cI 6 g2), (xI b3 cI 6 g3), (xI b4 cI 6 g4), (xI b5 cI 6 g5)] sz)) 0 0 (va_A [(xo_1_riiiii k9 tc (nI z) nu ki ce lo), (xI tc cI 16 ft), (xo_3_iiiiiiiirrrrr h v0 v1 v2 v3 (nI hh) v5 (nI ww) (nI kk) b1 b2 b3 b4 b5), (xI b1 cI 6 g1), (xI b2 cI 6 g2), (xI b3 cI 6 g3), (xI b4 cI 6 g4), (xI b5 cI 6 g5)] sz) := by
  refine Met.ofW (cc := cX1_answer) (maxL := 4) (ret := (some .int)) (by decide) rfl ?_
  intro p e s m args below meth c s₁ B hml hv
  obtain ⟨rfl, hsz, hP, hK, hD0, hst⟩ := hv
  have hx := B.exec
  have hb := B.bytes
  have hr := B.returns
  have hts := atoms_spec (ws := wsX1_answer) B.pre
  have hown : s.vm.findClass RX1 = some m.cls := findClass_of_methodNamed B.named
  have hlocks := B.notSynchronized
  subst hsz
  have hD := hD0.self (sz := s.heap.size)
  generalize hAe : va_A [(xo_1_riiiii k9 tc (nI z) nu ki ce lo), (xI tc cI 16 ft), (xo_3_iiiiiiiirrrrr h v0 v1 v2 v3 (nI hh) v5 (nI ww) (nI kk) b1 b2 b3 b4 b5), (xI b1 cI 6 g1), (xI b2 cI 6 g2), (xI b3 cI 6 g3), (xI b4 cI 6 g4), (xI b5 cI 6 g5)] s.heap.size = A at hD hst ⊢
  have hA : ∀ q : Nat, s.heap.size ≤ q → A q := fun q h => by rw [← hAe]; exact Or.inr h
  have hS : va_S A s.heap s.heap [] := va_S.rf
  have hP : va_P (dC, dI) vwCl [(xo_1_riiiii k9 tc (nI z) nu ki ce lo), (xI tc cI 16 ft), (xo_3_iiiiiiiirrrrr h v0 v1 v2 v3 (nI hh) v5 (nI ww) (nI kk) b1 b2 b3 b4 b5), (xI b1 cI 6 g1), (xI b2 cI 6 g2), (xI b3 cI 6 g3), (xI b4 cI 6 g4), (xI b5 cI 6 g5)] s.heap := hP
  obtain ⟨⟨tb1, hZ1, hT1⟩, ⟨tb2, hZ2, hT2⟩, ⟨tb3, hZ3, hT3⟩, hNk⟩ := id hst
  have hl := lv_entry ([.ref k9, .ref h, .int (nI i), .int x]) (n := 4) (Nat.le_of_ble_eq_true rfl)
  rw [lg_entry_eq]
  generalize (lg_sl ([.ref k9, .ref h, .int (nI i), .int x]) ++ List.replicate (4 - (lg_sl ([.ref k9, .ref h, .int (nI i), .int x])).length) Slot.unset).toArray = ls at hl ⊢
  have hl : lv_has ls 4 [(0, .ref k9), (1, .ref h), (2, .int (nI i)), (3, .int x)] := hl
  refine lv_aload_n hx hb dX1_answer_0 rfl (lv_at hl 0 rfl) ?_
  refine lv_iconst (v := 0) hx hb dX1_answer_1 (by decide) ?_
  refine va_put (D := (dC, dI)) (ci := 1) (v := .int 0) (ty := .int) (C := RX1) (T := TX1) (N := 6) hx hb hts i_X1_answer_X1 tyX1 tyX1_ok nmX1 hown hK hP hD hS 0 rfl rfl 1 (by decide) (hts _ mx_X1_answer_1) (fun _ h9 => h9) rfl (by decide +kernel) rfl rfl (Nat.le_of_ble_eq_true rfl) dX1_answer_2 (fun H locs hP hD hS => ?_)
  have hP : va_P (dC, dI) vwCl [(xo_1_riiiii k9 tc 0 nu ki ce lo), (xI tc cI 16 ft), (xo_3_iiiiiiiirrrrr h v0 v1 v2 v3 (nI hh) v5 (nI ww) (nI kk) b1 b2 b3 b4 b5), (xI b1 cI 6 g1), (xI b2 cI 6 g2), (xI b3 cI 6 g3), (xI b4 cI 6 g4), (xI b5 cI 6 g5)] H := hP
  have hD := dto hP hD
  refine lv_aload_n hx hb dX1_answer_5 rfl (lv_at hl 0 rfl) ?_
  refine lv_iload_n hx hb dX1_answer_6 rfl (lv_at hl 2 rfl) ?_
  refine va_put (D := (dC, dI)) (ci := 1) (v := .int (nI i)) (ty := .int) (C := RX1) (T := TX1) (N := 6) hx hb hts i_X1_answer_X1 tyX1 tyX1_ok nmX1 hown hK hP hD hS 0 rfl rfl 2 (by decide) (hts _ mx_X1_answer_2) (fun _ h9 => h9) rfl (by decide +kernel) rfl rfl (Nat.le_of_ble_eq_true rfl) dX1_answer_7 (fun H locs hP hD hS => ?_)
  have hP : va_P (dC, dI) vwCl [(xo_1_riiiii k9 tc 0 (nI i) ki ce lo), (xI tc cI 16 ft), (xo_3_iiiiiiiirrrrr h v0 v1 v2 v3 (nI hh) v5 (nI ww) (nI kk) b1 b2 b3 b4 b5), (xI b1 cI 6 g1), (xI b2 cI 6 g2), (xI b3 cI 6 g3), (xI b4 cI 6 g4), (xI b5 cI 6 g5)] H := hP
  have hD := dto hP hD
  refine lv_aload_n hx hb dX1_answer_10 rfl (lv_at hl 0 rfl) ?_
  refine lv_aload_n hx hb dX1_answer_11 rfl (lv_at hl 1 rfl) ?_
  refine va_get (D := (dC, dI)) (ci := 3) (v := .ref b2) (C := RX3) (T := TX3) (N := 13) hx hb hts i_X1_answer_X3 hown hK hP 2 rfl rfl 9 (by decide) (hts _ mx_X1_answer_3) (fun _ h9 => h9) rfl dX1_answer_12 ?_
  refine lv_iload_n hx hb dX1_answer_15 rfl (lv_at hl 2 rfl) ?_
  refine va_iald hx hb hK hP 4 0 rfl rfl (vp_in_nI (by omega) (by omega)) dX1_answer_16 ?_
  refine lv_topi (fun v_1 e_1 => ?_)
  obtain rfl : v_1 = nI a := (e_1.trans (congrArg g2 (nI_clamp (by omega)))).trans hka
  refine va_put (D := (dC, dI)) (ci := 1) (v := .int (nI a)) (ty := .int) (C := RX1) (T := TX1) (N := 6) hx hb hts i_X1_answer_X1 tyX1 tyX1_ok nmX1 hown hK hP hD hS 0 rfl rfl 3 (by decide) (hts _ mx_X1_answer_4) (fun _ h9 => h9) rfl (by decide +kernel) rfl rfl (Nat.le_of_ble_eq_true rfl) dX1_answer_17 (fun H locs hP hD hS => ?_)
  have hP : va_P (dC, dI) vwCl [(xo_1_riiiii k9 tc 0 (nI i) (nI a) ce lo), (xI tc cI 16 ft), (xo_3_iiiiiiiirrrrr h v0 v1 v2 v3 (nI hh) v5 (nI ww) (nI kk) b1 b2 b3 b4 b5), (xI b1 cI 6 g1), (xI b2 cI 6 g2), (xI b3 cI 6 g3), (xI b4 cI 6 g4), (xI b5 cI 6 g5)] H := hP
  have hD := dto hP hD
  refine lv_aload_n hx hb dX1_answer_20 rfl (lv_at hl 0 rfl) ?_
  refine lv_aload_n hx hb dX1_answer_21 rfl (lv_at hl 1 rfl) ?_
  refine va_get (D := (dC, dI)) (ci := 3) (v := .ref b3) (C := RX3) (T := TX3) (N := 13) hx hb hts i_X1_answer_X3 hown hK hP 2 rfl rfl 10 (by decide) (hts _ mx_X1_answer_5) (fun _ h9 => h9) rfl dX1_answer_22 ?_
  refine lv_iload_n hx hb dX1_answer_25 rfl (lv_at hl 2 rfl) ?_
  refine va_iald hx hb hK hP 5 0 rfl rfl (vp_in_nI (by omega) (by omega)) dX1_answer_26 ?_
  refine lv_topi (fun v_2 e_2 => ?_)
  have e_2 : v_2 = g3 i := e_2.trans (congrArg g3 (nI_clamp (by omega)))
  refine va_put (D := (dC, dI)) (ci := 1) (v := .int v_2) (ty := .int) (C := RX1) (T := TX1) (N := 6) hx hb hts i_X1_answer_X1 tyX1 tyX1_ok nmX1 hown hK hP hD hS 0 rfl rfl 4 (by decide) (hts _ mx_X1_answer_6) (fun _ h9 => h9) rfl (by decide +kernel) rfl rfl (Nat.le_of_ble_eq_true rfl) dX1_answer_27 (fun H locs hP hD hS => ?_)
  have hP : va_P (dC, dI) vwCl [(xo_1_riiiii k9 tc 0 (nI i) (nI a) v_2 lo), (xI tc cI 16 ft), (xo_3_iiiiiiiirrrrr h v0 v1 v2 v3 (nI hh) v5 (nI ww) (nI kk) b1 b2 b3 b4 b5), (xI b1 cI 6 g1), (xI b2 cI 6 g2), (xI b3 cI 6 g3), (xI b4 cI 6 g4), (xI b5 cI 6 g5)] H := hP
  have hD := dto hP hD
  refine lv_aload_n hx hb dX1_answer_30 rfl (lv_at hl 0 rfl) ?_
  refine lv_aload_n hx hb dX1_answer_31 rfl (lv_at hl 1 rfl) ?_
  refine va_get (D := (dC, dI)) (ci := 3) (v := .ref b4) (C := RX3) (T := TX3) (N := 13) hx hb hts i_X1_answer_X3 hown hK hP 2 rfl rfl 11 (by decide) (hts _ mx_X1_answer_7) (fun _ h9 => h9) rfl dX1_answer_32 ?_
  refine lv_iload_n hx hb dX1_answer_35 rfl (lv_at hl 2 rfl) ?_
  refine va_iald hx hb hK hP 6 0 rfl rfl (vp_in_nI (by omega) (by omega)) dX1_answer_36 ?_
  refine lv_topi (fun v_3 e_3 => ?_)
  have e_3 : v_3 = g4 i := e_3.trans (congrArg g4 (nI_clamp (by omega)))
  refine va_put (D := (dC, dI)) (ci := 1) (v := .int v_3) (ty := .int) (C := RX1) (T := TX1) (N := 6) hx hb hts i_X1_answer_X1 tyX1 tyX1_ok nmX1 hown hK hP hD hS 0 rfl rfl 5 (by decide) (hts _ mx_X1_answer_8) (fun _ h9 => h9) rfl (by decide +kernel) rfl rfl (Nat.le_of_ble_eq_true rfl) dX1_answer_37 (fun H locs hP hD hS => ?_)
  have hP : va_P (dC, dI) vwCl [(xo_1_riiiii k9 tc 0 (nI i) (nI a) v_2 v_3), (xI tc cI 16 ft), (xo_3_iiiiiiiirrrrr h v0 v1 v2 v3 (nI hh) v5 (nI ww) (nI kk) b1 b2 b3 b4 b5), (xI b1 cI 6 g1), (xI b2 cI 6 g2), (xI b3 cI 6 g3), (xI b4 cI 6 g4), (xI b5 cI 6 g5)] H := hP
  have hD := dto hP hD
  refine lv_aload_n hx hb dX1_answer_40 rfl (lv_at hl 0 rfl) ?_
  refine lv_iload_n hx hb dX1_answer_41 rfl (lv_at hl 3 rfl) ?_
  refine lv_iconst (v := 0) hx hb dX1_answer_42 (by decide) ?_
  have hc_4 := cutW (wc := [(xo_1_riiiii k9 tc (nI 0) (nI i) (nI a) v_2 v_3), (xI tc cI 16 ft)]) hP hD hS hA [0, 1] (by decide +kernel) rfl
  refine va_calli (va_runV (As := [.int x, .int 0]) (rest := []) ⟨hx, hb, hml, hown, hts⟩ (r_X1_askAnew l dC dI cI cZ cL cJ H.size k9 tc 0 a (nI i) v_2 v_3 ft 0 x (by omega) (ha1) (ha5) (by omega) (hx01)) (cwV 2 hts gX1_answer_X1_askAnew rfl rfl rfl (by decide +kernel) ⟨Nat.le_of_ble_eq_true rfl, Nat.le_of_ble_eq_true rfl⟩) ⟨fun a U g mk q => by obtain ⟨q0, q1, qP, qK, qD, qS⟩ := q; exact ⟨q0, q1, qP, va_K.moved (u := U) (U := U.calling g mk a) (Vm.Alike.refl U.vm) qK, qD, stt_same rfl qS⟩, va_recv hK hP (ci := 1) (q0 := 0) rfl rfl, fun U hU hW => ⟨rfl, by rw [hU], by rw [hU]; exact hc_4.1, va_K.moved hW.alike hK, hc_4.2.1.weaken (fun _ _ _ _ => trivial), by rw [hU]; exact stt_warm hW (stt_narrow (stt_kept hst hS.2.1) hc_4.2.2)⟩⟩ rfl rfl hl.1 rfl (lv_room (Nat.le_of_ble_eq_true rfl)) dX1_answer_43 ⟨Nat.le_of_ble_eq_true rfl, Nat.le_of_ble_eq_true rfl⟩) hS (fun q _ h => hc_4.2.2 q h) hc_4.2.2 (fun r_4 u_4 t_4 H1 locs ht hvm h_4 hB hz1 hk1 hS => ?_)
  refine xl_2_4 hB (fun zn_4 ftn_4 hP1 hD1 hF_4_0 hF_4_1 => ?_)
  clear hB
  rw [ht] at hP1
  obtain ⟨hP, hD⟩ := va_join (wr := [(xo_3_iiiiiiiirrrrr h v0 v1 v2 v3 (nI hh) v5 (nI ww) (nI kk) b1 b2 b3 b4 b5), (xI b1 cI 6 g1), (xI b2 cI 6 g2), (xI b3 cI 6 g3), (xI b4 cI 6 g4), (xI b5 cI 6 g5)]) (w1 := [(xo_1_riiiii k9 tc (nI zn_4) (nI i) (nI a) v_2 v_3), (xI tc cI 16 ftn_4)]) hP hD [0, 1] [2, 3, 4, 5, 6, 7] rfl rfl (by decide +kernel) (by decide +kernel) hk1 hc_4.2.2 hP1 hD1
  generalize H1 = H at hP hS ⊢
  have hP : va_P (dC, dI) vwCl [(xo_3_iiiiiiiirrrrr h v0 v1 v2 v3 (nI hh) v5 (nI ww) (nI kk) b1 b2 b3 b4 b5), (xI b1 cI 6 g1), (xI b2 cI 6 g2), (xI b3 cI 6 g3), (xI b4 cI 6 g4), (xI b5 cI 6 g5), (xo_1_riiiii k9 tc (nI zn_4) (nI i) (nI a) v_2 v_3), (xI tc cI 16 ftn_4)] H := hP
  have hD := dto hP hD
  have hX9 := cut2 (wc := [(xo_1_riiiii k9 tc (nI zn_4) (nI i) (nI a) v_2 v_3), (xI tc cI 16 ftn_4), (xo_3_iiiiiiiirrrrr h v0 v1 v2 v3 (nI hh) v5 (nI ww) (nI kk) b1 b2 b3 b4 b5), (xI b1 cI 6 g1), (xI b2 cI 6 g2), (xI b3 cI 6 g3), (xI b4 cI 6 g4), (xI b5 cI 6 g5)]) hP hD [6, 7, 0, 1, 2, 3, 4, 5] (by decide +kernel) rfl
  exact W.iret (v := r_4) hx hb hr (fun t ht hW => ⟨⟨r_4, (), rfl, (lf_X1_answer_2 hz hhb hww hkk hi ha1 ha5 hka hx01 e_2 e_3 hF_4_0 hF_4_1 h_4), ⟨zn_4, (nI i), (nI a), v_2, v_3, ftn_4, va_Ht ht hX9.1, hX9.2, (by omega), (lf_X1_answer_1 hz hhb hww hkk hi ha1 ha5 hka hx01 e_2 e_3 hF_4_0 hF_4_1 h_4)⟩⟩, hS.F ht⟩) hS.2.2 dX1_answer_46
