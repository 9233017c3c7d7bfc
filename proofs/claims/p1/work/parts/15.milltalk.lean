set_option maxHeartbeats 4000000 in
set_option maxRecDepth 100000 in
theorem c_J6_bitCount (l : Launch) (dC : Nat → ClassId) (dI : Nat → Nat → Nat) (cI cZ cL cJ : ClassId)   : Met l yJ6_bitCount_0f7a4 wsJ6_bitCount_0f7a4 ({ frames := 0, cells := 0, slots := 0, locals := 0 }) (va_Pc [.int 0] (fun U => va_P (dC, dI) vwCl [] U.heap ∧ va_K (dC, dI) vwCl [(cI, .int), (cZ, .boolean), (cL, .object RX3), (cJ, .array .int)] U)) (vp_Si (fun r => r = 0)) 0 0 (fun _ => False) := by
  refine Met.ofW (cc := cJ6_bitCount_0f7a4) (maxL := 1) (ret := (some .int)) (by decide) rfl ?_
  intro p e s m args below meth c s₁ B hml hv
  obtain ⟨rfl, hP, hK⟩ := hv
  have hx := B.exec
  have hb := B.bytes
  have hr := B.returns
  have hts := atoms_spec (ws := wsJ6_bitCount_0f7a4) B.pre
  have hown : s.vm.findClass RJ6 = some m.cls := findClass_of_methodNamed B.named
  have hlocks := B.notSynchronized
  have hP : va_P (dC, dI) vwCl [] s.heap := hP
  have hl := lv_entry ([.int 0]) (n := 1) (Nat.le_of_ble_eq_true rfl)
  rw [lg_entry_eq]
  generalize (lg_sl ([.int 0]) ++ List.replicate (1 - (lg_sl ([.int 0])).length) Slot.unset).toArray = ls at hl ⊢
  have hl : lv_has ls 1 [(0, .int 0)] := hl
  refine lv_iload_n hx hb dJ6_bitCount_0f7a4_0 rfl (lv_at hl 0 rfl) ?_
  refine lv_iload_n hx hb dJ6_bitCount_0f7a4_1 rfl (lv_at hl 0 rfl) ?_
  refine lv_iconst (v := 1) hx hb dJ6_bitCount_0f7a4_2 (by decide) ?_
  refine lv_iushr (v := 0) hx hb dJ6_bitCount_0f7a4_3 (by decide) ?_
  refine lv_ldcw (own := RJ6) (v := 1431655765) hx hb hown (hts (.constant RJ6 265 (1431655765)) (by decide +kernel)) dJ6_bitCount_0f7a4_4 ?_
  refine lv_iand hx hb dJ6_bitCount_0f7a4_7 ?_
  refine lv_topi (fun v_1 e_1 => ?_)
  obtain rfl : v_1 = 0 := (e_1).trans (by decide)
  refine lv_isub hx hb dJ6_bitCount_0f7a4_8 ?_
  refine lv_topi (fun v_2 e_2 => ?_)
  obtain rfl : v_2 = 0 := (e_2).trans (by decide)
  refine lv_istore_n (lv' := [(0, .int 0)]) hx hb dJ6_bitCount_0f7a4_9 rfl hl (by decide) rfl (fun ls hl => ?_)
  refine lv_iload_n hx hb dJ6_bitCount_0f7a4_10 rfl (lv_at hl 0 rfl) ?_
  refine lv_ldcw (own := RJ6) (v := 858993459) hx hb hown (hts (.constant RJ6 266 (858993459)) (by decide +kernel)) dJ6_bitCount_0f7a4_11 ?_
  refine lv_iand hx hb dJ6_bitCount_0f7a4_14 ?_
  refine lv_topi (fun v_3 e_3 => ?_)
  obtain rfl : v_3 = 0 := (e_3).trans (by decide)
  refine lv_iload_n hx hb dJ6_bitCount_0f7a4_15 rfl (lv_at hl 0 rfl) ?_
  refine lv_iconst (v := 2) hx hb dJ6_bitCount_0f7a4_16 (by decide) ?_
  refine lv_iushr (v := 0) hx hb dJ6_bitCount_0f7a4_17 (by decide) ?_
  refine lv_ldcw (own := RJ6) (v := 858993459) hx hb hown (hts (.constant RJ6 266 (858993459)) (by decide +kernel)) dJ6_bitCount_0f7a4_18 ?_
  refine lv_iand hx hb dJ6_bitCount_0f7a4_21 ?_
  refine lv_topi (fun v_4 e_4 => ?_)
  obtain rfl : v_4 = 0 := (e_4).trans (by decide)
  refine lv_iadd hx hb dJ6_bitCount_0f7a4_22 ?_
  refine lv_topi (fun v_5 e_5 => ?_)
  obtain rfl : v_5 = 0 := (e_5).trans (by decide)
  refine lv_istore_n (lv' := [(0, .int 0)]) hx hb dJ6_bitCount_0f7a4_23 rfl hl (by decide) rfl (fun ls hl => ?_)
  refine lv_iload_n hx hb dJ6_bitCount_0f7a4_24 rfl (lv_at hl 0 rfl) ?_
  refine lv_iload_n hx hb dJ6_bitCount_0f7a4_25 rfl (lv_at hl 0 rfl) ?_
  refine lv_iconst (v := 4) hx hb dJ6_bitCount_0f7a4_26 (by decide) ?_
  refine lv_iushr (v := 0) hx hb dJ6_bitCount_0f7a4_27 (by decide) ?_
  refine lv_iadd hx hb dJ6_bitCount_0f7a4_28 ?_
  refine lv_topi (fun v_6 e_6 => ?_)
  obtain rfl : v_6 = 0 := (e_6).trans (by decide)
  refine lv_ldcw (own := RJ6) (v := 252645135) hx hb hown (hts (.constant RJ6 267 (252645135)) (by decide +kernel)) dJ6_bitCount_0f7a4_29 ?_
  refine lv_iand hx hb dJ6_bitCount_0f7a4_32 ?_
  refine lv_topi (fun v_7 e_7 => ?_)
  obtain rfl : v_7 = 0 := (e_7).trans (by decide)
  refine lv_istore_n (lv' := [(0, .int 0)]) hx hb dJ6_bitCount_0f7a4_33 rfl hl (by decide) rfl (fun ls hl => ?_)
  refine lv_iload_n hx hb dJ6_bitCount_0f7a4_34 rfl (lv_at hl 0 rfl) ?_
  refine lv_iload_n hx hb dJ6_bitCount_0f7a4_35 rfl (lv_at hl 0 rfl) ?_
  refine lv_bipush (v := 8) hx hb dJ6_bitCount_0f7a4_36 (by decide) ?_
  refine lv_iushr (v := 0) hx hb dJ6_bitCount_0f7a4_38 (by decide) ?_
  refine lv_iadd hx hb dJ6_bitCount_0f7a4_39 ?_
  refine lv_topi (fun v_8 e_8 => ?_)
  obtain rfl : v_8 = 0 := (e_8).trans (by decide)
  refine lv_istore_n (lv' := [(0, .int 0)]) hx hb dJ6_bitCount_0f7a4_40 rfl hl (by decide) rfl (fun ls hl => ?_)
  refine lv_iload_n hx hb dJ6_bitCount_0f7a4_41 rfl (lv_at hl 0 rfl) ?_
  refine lv_iload_n hx hb dJ6_bitCount_0f7a4_42 rfl (lv_at hl 0 rfl) ?_
  refine lv_bipush (v := 16) hx hb dJ6_bitCount_0f7a4_43 (by decide) ?_
  refine lv_iushr (v := 0) hx hb dJ6_bitCount_0f7a4_45 (by decide) ?_
  refine lv_iadd hx hb dJ6_bitCount_0f7a4_46 ?_
  refine lv_topi (fun v_9 e_9 => ?_)
  obtain rfl : v_9 = 0 := (e_9).trans (by decide)
  refine lv_istore_n (lv' := [(0, .int 0)]) hx hb dJ6_bitCount_0f7a4_47 rfl hl (by decide) rfl (fun ls hl => ?_)
  refine lv_iload_n hx hb dJ6_bitCount_0f7a4_48 rfl (lv_at hl 0 rfl) ?_
  refine lv_bipush (v := 63) hx hb dJ6_bitCount_0f7a4_49 (by decide) ?_
  refine lv_iand hx hb dJ6_bitCount_0f7a4_51 ?_
  refine lv_topi (fun v_10 e_10 => ?_)
  obtain rfl : v_10 = 0 := (e_10).trans (by decide)
  exact W.iret (v := 0) hx hb hr (fun t ht hW => ⟨0, rfl, rfl, ht⟩) (fun _ h => by cases h) dJ6_bitCount_0f7a4_52
set_option maxHeartbeats 4000000 in
set_option maxRecDepth 100000 in
theorem c_X7_found (l : Launch) (dC : Nat → ClassId) (dI : Nat → Nat → Nat) (cI cZ cL cJ : ClassId) (sz : Nat) (x : Nat) (ro : Nat) (ta : Nat) (no : Nat) (ac : Nat) (im : Nat) (tr : Nat) (pl : Nat) (cs : Nat) (ak : Nat) (n : Int32) (r9 : Int32) (hk : (-1000010 : Int32) - n = r9) : Met l yX7_found wsX7_found ({ frames := 0, cells := 0, slots := 0, locals := 0 }) (va_Pc [.ref x, .int n] (fun U => U.heap.size = sz ∧ va_P (dC, dI) vwCl [(x, .inr (7, [.ref ro, .ref ta, .ref no, .ref ac, .ref im, .ref tr, .ref pl, .ref cs, .ref ak, .int 0, .int 0]))] U.heap ∧ va_K (dC, dI) vwCl [(cI, .int), (cZ, .boolean), (cL, .object RX3), (cJ, .array .int)] U ∧ va_D (fun _ => True) [(x, .inr (7, [.ref ro, .ref ta, .ref no, .ref ac, .ref im, .ref tr, .ref pl, .ref cs, .ref ak, .int 0, .int 0]))])) (va_Qi (fun r (_ : Unit) => r = r9) (fun (_ : Unit) t => True) (va_A [(x, .inr (7, [.ref ro, .ref ta, .ref no, .ref ac, .ref im, .ref tr, .ref pl, .ref cs, .ref ak, .int 0, .int 0]))] sz)) 0 0 (va_A [(x, .inr (7, [.ref ro, .ref ta, .ref no, .ref ac, .ref im, .ref tr, .ref pl, .ref cs, .ref ak, .int 0, .int 0]))] sz) := by
  refine Met.ofW (cc := cX7_found) (maxL := 2) (ret := (some .int)) (by decide) rfl ?_
  intro p e s m args below meth c s₁ B hml hv
  obtain ⟨rfl, hsz, hP, hK, hD0⟩ := hv
  have hx := B.exec
  have hb := B.bytes
  have hr := B.returns
  have hts := atoms_spec (ws := wsX7_found) B.pre
  have hown : s.vm.findClass RX7 = some m.cls := findClass_of_methodNamed B.named
  have hlocks := B.notSynchronized
  subst hsz
  have hD := hD0.self (sz := s.heap.size)
  generalize hAe : va_A [(x, .inr (7, [.ref ro, .ref ta, .ref no, .ref ac, .ref im, .ref tr, .ref pl, .ref cs, .ref ak, .int 0, .int 0]))] s.heap.size = A at hD ⊢
  have hA : ∀ q : Nat, s.heap.size ≤ q → A q := fun q h => by rw [← hAe]; exact Or.inr h
  have hS : va_S A s.heap s.heap [] := va_S.rf
  have hP : va_P (dC, dI) vwCl [(x, .inr (7, [.ref ro, .ref ta, .ref no, .ref ac, .ref im, .ref tr, .ref pl, .ref cs, .ref ak, .int 0, .int 0]))] s.heap := hP
  have hl := lv_entry ([.ref x, .int n]) (n := 2) (Nat.le_of_ble_eq_true rfl)
  rw [lg_entry_eq]
  generalize (lg_sl ([.ref x, .int n]) ++ List.replicate (2 - (lg_sl ([.ref x, .int n])).length) Slot.unset).toArray = ls at hl ⊢
  have hl : lv_has ls 2 [(0, .ref x), (1, .int n)] := hl
  refine lv_aload_n hx hb dX7_found_0 rfl (lv_at hl 0 rfl) ?_
  refine lv_iload_n hx hb dX7_found_1 rfl (lv_at hl 1 rfl) ?_
  refine va_put (D := (dC, dI)) (ci := 7) (v := .int n) (ty := .int) (C := RX7) (T := TX7) (N := 11) hx hb hts i_X7_found_X7 tyX7 tyX7_ok nmX7 hown hK hP hD hS 0 rfl rfl 10 (by decide) (hts (.fieldLink RX7 323 "MillTalk" "latestFinding" "I") (by decide +kernel)) (fun _ h9 => h9) rfl (by decide +kernel) rfl rfl (Nat.le_of_ble_eq_true rfl) dX7_found_2 (fun H locs hP hD hS => ?_)
  have hP : va_P (dC, dI) vwCl [(x, .inr (7, [.ref ro, .ref ta, .ref no, .ref ac, .ref im, .ref tr, .ref pl, .ref cs, .ref ak, .int 0, .int n]))] H := hP
  have hD : va_D A [(x, .inr (7, [.ref ro, .ref ta, .ref no, .ref ac, .ref im, .ref tr, .ref pl, .ref cs, .ref ak, .int 0, .int n]))] := hD
  refine lv_ldcw (own := RX7) (v := (-1000010)) hx hb hown (hts (.constant RX7 326 (-1000010)) (by decide +kernel)) dX7_found_5 ?_
  refine lv_iload_n hx hb dX7_found_8 rfl (lv_at hl 1 rfl) ?_
  refine lv_isub hx hb dX7_found_9 ?_
  refine lv_topi (fun v_1 e_1 => ?_)
  exact W.iret (v := v_1) hx hb hr (fun t ht hW => ⟨⟨v_1, (), rfl, (by rw [e_1]; exact hk), trivial⟩, hS.F ht⟩) hS.2.2 dX7_found_10
set_option maxHeartbeats 4000000 in
set_option maxRecDepth 100000 in
theorem c_X7_foundNothing (l : Launch) (dC : Nat → ClassId) (dI : Nat → Nat → Nat) (cI cZ cL cJ : ClassId) (sz : Nat) (x : Nat) (ro : Nat) (ta : Nat) (no : Nat) (ac : Nat) (im : Nat) (tr : Nat) (pl : Nat) (cs : Nat) (ak : Nat) (n : Int32)  : Met l yX7_foundNothing wsX7_foundNothing ({ frames := 0, cells := 0, slots := 0, locals := 0 }) (va_Pc [.ref x, .int n] (fun U => U.heap.size = sz ∧ va_P (dC, dI) vwCl [(x, .inr (7, [.ref ro, .ref ta, .ref no, .ref ac, .ref im, .ref tr, .ref pl, .ref cs, .ref ak, .int 0, .int 0]))] U.heap ∧ va_K (dC, dI) vwCl [(cI, .int), (cZ, .boolean), (cL, .object RX3), (cJ, .array .int)] U ∧ va_D (fun _ => True) [(x, .inr (7, [.ref ro, .ref ta, .ref no, .ref ac, .ref im, .ref tr, .ref pl, .ref cs, .ref ak, .int 0, .int 0]))])) (va_Qi (fun r (_ : Unit) => r = n) (fun (_ : Unit) t => True) (va_A [(x, .inr (7, [.ref ro, .ref ta, .ref no, .ref ac, .ref im, .ref tr, .ref pl, .ref cs, .ref ak, .int 0, .int 0]))] sz)) 0 0 (va_A [(x, .inr (7, [.ref ro, .ref ta, .ref no, .ref ac, .ref im, .ref tr, .ref pl, .ref cs, .ref ak, .int 0, .int 0]))] sz) := by
  refine Met.ofW (cc := cX7_foundNothing) (maxL := 2) (ret := (some .int)) (by decide) rfl ?_
  intro p e s m args below meth c s₁ B hml hv
  obtain ⟨rfl, hsz, hP, hK, hD0⟩ := hv
  have hx := B.exec
  have hb := B.bytes
  have hr := B.returns
  have hts := atoms_spec (ws := wsX7_foundNothing) B.pre
  have hown : s.vm.findClass RX7 = some m.cls := findClass_of_methodNamed B.named
  have hlocks := B.notSynchronized
  subst hsz
  have hD := hD0.self (sz := s.heap.size)
  generalize hAe : va_A [(x, .inr (7, [.ref ro, .ref ta, .ref no, .ref ac, .ref im, .ref tr, .ref pl, .ref cs, .ref ak, .int 0, .int 0]))] s.heap.size = A at hD ⊢
  have hA : ∀ q : Nat, s.heap.size ≤ q → A q := fun q h => by rw [← hAe]; exact Or.inr h
  have hS : va_S A s.heap s.heap [] := va_S.rf
  have hP : va_P (dC, dI) vwCl [(x, .inr (7, [.ref ro, .ref ta, .ref no, .ref ac, .ref im, .ref tr, .ref pl, .ref cs, .ref ak, .int 0, .int 0]))] s.heap := hP
  have hl := lv_entry ([.ref x, .int n]) (n := 2) (Nat.le_of_ble_eq_true rfl)
  rw [lg_entry_eq]
  generalize (lg_sl ([.ref x, .int n]) ++ List.replicate (2 - (lg_sl ([.ref x, .int n])).length) Slot.unset).toArray = ls at hl ⊢
  have hl : lv_has ls 2 [(0, .ref x), (1, .int n)] := hl
  refine lv_aload_n hx hb dX7_foundNothing_0 rfl (lv_at hl 0 rfl) ?_
  refine lv_iconst (v := 0) hx hb dX7_foundNothing_1 (by decide) ?_
  refine va_put (D := (dC, dI)) (ci := 7) (v := .int 0) (ty := .int) (C := RX7) (T := TX7) (N := 11) hx hb hts i_X7_foundNothing_X7 tyX7 tyX7_ok nmX7 hown hK hP hD hS 0 rfl rfl 10 (by decide) (hts (.fieldLink RX7 323 "MillTalk" "latestFinding" "I") (by decide +kernel)) (fun _ h9 => h9) rfl (by decide +kernel) rfl rfl (Nat.le_of_ble_eq_true rfl) dX7_foundNothing_2 (fun H locs hP hD hS => ?_)
  have hP : va_P (dC, dI) vwCl [(x, .inr (7, [.ref ro, .ref ta, .ref no, .ref ac, .ref im, .ref tr, .ref pl, .ref cs, .ref ak, .int 0, .int 0]))] H := hP
  have hD : va_D A [(x, .inr (7, [.ref ro, .ref ta, .ref no, .ref ac, .ref im, .ref tr, .ref pl, .ref cs, .ref ak, .int 0, .int 0]))] := hD
  refine lv_iload_n hx hb dX7_foundNothing_5 rfl (lv_at hl 1 rfl) ?_
  exact W.iret (v := n) hx hb hr (fun t ht hW => ⟨⟨n, (), rfl, rfl, trivial⟩, hS.F ht⟩) hS.2.2 dX7_foundNothing_6
set_option maxHeartbeats 4000000 in
set_option maxRecDepth 100000 in
theorem c_X7_hours (l : Launch) (dC : Nat → ClassId) (dI : Nat → Nat → Nat) (cI cZ cL cJ : ClassId) (x : Nat) (ro : Nat) (ta : Nat) (no : Nat) (ac : Nat) (im : Nat) (tr : Nat) (pl : Nat) (cs : Nat) (ak : Nat) (n1 : Nat) (n2 : Nat) (n3 : Nat) (n4 : Nat) (n5 : Nat) (k0 : Int32)  : Met l yX7_hours wsX7_hours ({ frames := 1, cells := 0, slots := 0, locals := 20 }) (va_Pc [.ref x, .int k0] (fun U => va_P (dC, dI) vwCl [(x, .inr (7, [.ref ro, .ref ta, .ref no, .ref ac, .ref im, .ref tr, .ref pl, .ref cs, .ref ak, .int 0, .int 0])), (no, .inr (3, [.int 0, .int 0, .int 0, .int 0, .int 0, .int 0, .int 0, .int 0, .ref n1, .ref n2, .ref n3, .ref n4, .ref n5]))] U.heap ∧ va_K (dC, dI) vwCl [(cI, .int), (cZ, .boolean), (cL, .object RX3), (cJ, .array .int)] U)) (vp_Si (fun r => r = (-1000002))) 0 0 (fun _ => False) := by
  refine Met.ofW (cc := cX7_hours) (maxL := 3) (ret := (some .int)) (by decide) rfl ?_
  intro p e s m args below meth c s₁ B hml hv
  obtain ⟨rfl, hP, hK⟩ := hv
  have hx := B.exec
  have hb := B.bytes
  have hr := B.returns
  have hts := atoms_spec (ws := wsX7_hours) B.pre
  have hown : s.vm.findClass RX7 = some m.cls := findClass_of_methodNamed B.named
  have hlocks := B.notSynchronized
  have hP : va_P (dC, dI) vwCl [(x, .inr (7, [.ref ro, .ref ta, .ref no, .ref ac, .ref im, .ref tr, .ref pl, .ref cs, .ref ak, .int 0, .int 0])), (no, .inr (3, [.int 0, .int 0, .int 0, .int 0, .int 0, .int 0, .int 0, .int 0, .ref n1, .ref n2, .ref n3, .ref n4, .ref n5]))] s.heap := hP
  have hl := lv_entry ([.ref x, .int k0]) (n := 3) (Nat.le_of_ble_eq_true rfl)
  rw [lg_entry_eq]
  generalize (lg_sl ([.ref x, .int k0]) ++ List.replicate (3 - (lg_sl ([.ref x, .int k0])).length) Slot.unset).toArray = ls at hl ⊢
  have hl : lv_has ls 3 [(0, .ref x), (1, .int k0)] := hl
  refine lv_aload_n hx hb dX7_hours_0 rfl (lv_at hl 0 rfl) ?_
  refine va_get (D := (dC, dI)) (ci := 7) (v := .ref no) (C := RX7) (T := TX7) (N := 11) hx hb hts i_X7_hours_X7 hown hK hP 0 rfl rfl 2 (by decide) (hts (.fieldLink RX7 26 "MillTalk" "now" "LMillTalk$Level;") (by decide +kernel)) (fun _ h9 => h9) rfl dX7_hours_1 ?_
  have hPc_1 := hP.sub (ws' := [(no, .inr (3, [.int 0, .int 0, .int 0, .int 0, .int 0, .int 0, .int 0, .int 0, .ref n1, .ref n2, .ref n3, .ref n4, .ref n5]))]) [1] rfl
  refine vp_callSi (W.runV (As := []) (rest := []) ⟨hx, hb, hml, hown, hts⟩ (c_X3_isTold l dC dI cI cZ cL cJ no 0 0 0 0 0 0 0 n1 n2 n3 n4 n5 ) (cwV 0 hts gX7_hours_X3_isTold rfl rfl rfl (by decide +kernel) ⟨Nat.le_of_ble_eq_true rfl, Nat.le_of_ble_eq_true rfl⟩) ⟨fun a U g mk q => by obtain ⟨q0, qP, qK⟩ := q; exact ⟨q0, qP, va_K.moved (u := U) (U := U.calling g mk a) (Vm.Alike.refl U.vm) qK⟩, va_recv hK hP (ci := 3) (q0 := 1) rfl rfl, fun U hU hW => ⟨rfl, by rw [hU]; exact hPc_1, va_K.moved hW.alike hK⟩⟩ rfl rfl hl.1 rfl (lv_room (Nat.le_of_ble_eq_true rfl)) dX7_hours_4 ⟨Nat.le_of_ble_eq_true rfl, Nat.le_of_ble_eq_true rfl⟩) (fun r_1 h_1 => ?_)
  subst h_1
  refine lv_if_ne (tgt := 13) hx hb dX7_hours_7 (by decide) (fun c_ => absurd (by decide) c_) (fun _ => ?_)
  refine lv_ldc (own := RX7) (v := (-1000002)) hx hb hown (hts (.constant RX7 141 (-1000002)) (by decide +kernel)) dX7_hours_10 ?_
  exact W.iret (v := (-1000002)) hx hb hr (fun t ht hW => ⟨(-1000002), rfl, rfl, ht⟩) (fun _ h => by cases h) dX7_hours_12
set_option maxHeartbeats 4000000 in
set_option maxRecDepth 100000 in
theorem c_X7_cap (l : Launch) (dC : Nat → ClassId) (dI : Nat → Nat → Nat) (cI cZ cL cJ : ClassId) (x : Nat) (ro : Nat) (ta : Nat) (no : Nat) (ac : Nat) (im : Nat) (tr : Nat) (pl : Nat) (cs : Nat) (ak : Nat) (n1 : Nat) (n2 : Nat) (n3 : Nat) (n4 : Nat) (n5 : Nat)  : Met l yX7_cap wsX7_cap ({ frames := 1, cells := 0, slots := 0, locals := 20 }) (va_Pc [.ref x] (fun U => va_P (dC, dI) vwCl [(x, .inr (7, [.ref ro, .ref ta, .ref no, .ref ac, .ref im, .ref tr, .ref pl, .ref cs, .ref ak, .int 0, .int 0])), (no, .inr (3, [.int 0, .int 0, .int 0, .int 0, .int 0, .int 0, .int 0, .int 0, .ref n1, .ref n2, .ref n3, .ref n4, .ref n5]))] U.heap ∧ va_K (dC, dI) vwCl [(cI, .int), (cZ, .boolean), (cL, .object RX3), (cJ, .array .int)] U)) (vp_Si (fun r => r = (-1000002))) 0 0 (fun _ => False) := by
  refine Met.ofW (cc := cX7_cap) (maxL := 1) (ret := (some .int)) (by decide) rfl ?_
  intro p e s m args below meth c s₁ B hml hv
  obtain ⟨rfl, hP, hK⟩ := hv
  have hx := B.exec
  have hb := B.bytes
  have hr := B.returns
  have hts := atoms_spec (ws := wsX7_cap) B.pre
  have hown : s.vm.findClass RX7 = some m.cls := findClass_of_methodNamed B.named
  have hlocks := B.notSynchronized
  have hP : va_P (dC, dI) vwCl [(x, .inr (7, [.ref ro, .ref ta, .ref no, .ref ac, .ref im, .ref tr, .ref pl, .ref cs, .ref ak, .int 0, .int 0])), (no, .inr (3, [.int 0, .int 0, .int 0, .int 0, .int 0, .int 0, .int 0, .int 0, .ref n1, .ref n2, .ref n3, .ref n4, .ref n5]))] s.heap := hP
  have hl := lv_entry ([.ref x]) (n := 1) (Nat.le_of_ble_eq_true rfl)
  rw [lg_entry_eq]
  generalize (lg_sl ([.ref x]) ++ List.replicate (1 - (lg_sl ([.ref x])).length) Slot.unset).toArray = ls at hl ⊢
  have hl : lv_has ls 1 [(0, .ref x)] := hl
  refine lv_aload_n hx hb dX7_cap_0 rfl (lv_at hl 0 rfl) ?_
  refine va_get (D := (dC, dI)) (ci := 7) (v := .ref no) (C := RX7) (T := TX7) (N := 11) hx hb hts i_X7_cap_X7 hown hK hP 0 rfl rfl 2 (by decide) (hts (.fieldLink RX7 26 "MillTalk" "now" "LMillTalk$Level;") (by decide +kernel)) (fun _ h9 => h9) rfl dX7_cap_1 ?_
  have hPc_1 := hP.sub (ws' := [(no, .inr (3, [.int 0, .int 0, .int 0, .int 0, .int 0, .int 0, .int 0, .int 0, .ref n1, .ref n2, .ref n3, .ref n4, .ref n5]))]) [1] rfl
  refine vp_callSi (W.runV (As := []) (rest := []) ⟨hx, hb, hml, hown, hts⟩ (c_X3_isTold l dC dI cI cZ cL cJ no 0 0 0 0 0 0 0 n1 n2 n3 n4 n5 ) (cwV 0 hts gX7_cap_X3_isTold rfl rfl rfl (by decide +kernel) ⟨Nat.le_of_ble_eq_true rfl, Nat.le_of_ble_eq_true rfl⟩) ⟨fun a U g mk q => by obtain ⟨q0, qP, qK⟩ := q; exact ⟨q0, qP, va_K.moved (u := U) (U := U.calling g mk a) (Vm.Alike.refl U.vm) qK⟩, va_recv hK hP (ci := 3) (q0 := 1) rfl rfl, fun U hU hW => ⟨rfl, by rw [hU]; exact hPc_1, va_K.moved hW.alike hK⟩⟩ rfl rfl hl.1 rfl (lv_room (Nat.le_of_ble_eq_true rfl)) dX7_cap_4 ⟨Nat.le_of_ble_eq_true rfl, Nat.le_of_ble_eq_true rfl⟩) (fun r_1 h_1 => ?_)
  subst h_1
  refine lv_if_ne (tgt := 13) hx hb dX7_cap_7 (by decide) (fun c_ => absurd (by decide) c_) (fun _ => ?_)
  refine lv_ldc (own := RX7) (v := (-1000002)) hx hb hown (hts (.constant RX7 141 (-1000002)) (by decide +kernel)) dX7_cap_10 ?_
  exact W.iret (v := (-1000002)) hx hb hr (fun t ht hW => ⟨(-1000002), rfl, rfl, ht⟩) (fun _ h => by cases h) dX7_cap_12
set_option maxHeartbeats 4000000 in
set_option maxRecDepth 100000 in
theorem c_X7_wind (l : Launch) (dC : Nat → ClassId) (dI : Nat → Nat → Nat) (cI cZ cL cJ : ClassId) (x : Nat) (ro : Nat) (ta : Nat) (no : Nat) (ac : Nat) (im : Nat) (tr : Nat) (pl : Nat) (cs : Nat) (ak : Nat) (n1 : Nat) (n2 : Nat) (n3 : Nat) (n4 : Nat) (n5 : Nat) (k0 : Int32) (k1 : Int32)  : Met l yX7_wind wsX7_wind ({ frames := 1, cells := 0, slots := 0, locals := 21 }) (va_Pc [.ref x, .int k0, .int k1] (fun U => va_P (dC, dI) vwCl [(x, .inr (7, [.ref ro, .ref ta, .ref no, .ref ac, .ref im, .ref tr, .ref pl, .ref cs, .ref ak, .int 0, .int 0])), (no, .inr (3, [.int 0, .int 0, .int 0, .int 0, .int 0, .int 0, .int 0, .int 0, .ref n1, .ref n2, .ref n3, .ref n4, .ref n5]))] U.heap ∧ va_K (dC, dI) vwCl [(cI, .int), (cZ, .boolean), (cL, .object RX3), (cJ, .array .int)] U)) (vp_Si (fun r => r = (-1000001))) 0 0 (fun _ => False) := by
  refine Met.ofW (cc := cX7_wind) (maxL := 4) (ret := (some .int)) (by decide) rfl ?_
  intro p e s m args below meth c s₁ B hml hv
  obtain ⟨rfl, hP, hK⟩ := hv
  have hx := B.exec
  have hb := B.bytes
  have hr := B.returns
  have hts := atoms_spec (ws := wsX7_wind) B.pre
  have hown : s.vm.findClass RX7 = some m.cls := findClass_of_methodNamed B.named
  have hlocks := B.notSynchronized
  have hP : va_P (dC, dI) vwCl [(x, .inr (7, [.ref ro, .ref ta, .ref no, .ref ac, .ref im, .ref tr, .ref pl, .ref cs, .ref ak, .int 0, .int 0])), (no, .inr (3, [.int 0, .int 0, .int 0, .int 0, .int 0, .int 0, .int 0, .int 0, .ref n1, .ref n2, .ref n3, .ref n4, .ref n5]))] s.heap := hP
  have hl := lv_entry ([.ref x, .int k0, .int k1]) (n := 4) (Nat.le_of_ble_eq_true rfl)
  rw [lg_entry_eq]
  generalize (lg_sl ([.ref x, .int k0, .int k1]) ++ List.replicate (4 - (lg_sl ([.ref x, .int k0, .int k1])).length) Slot.unset).toArray = ls at hl ⊢
  have hl : lv_has ls 4 [(0, .ref x), (1, .int k0), (2, .int k1)] := hl
  refine lv_aload_n hx hb dX7_wind_0 rfl (lv_at hl 0 rfl) ?_
  refine va_get (D := (dC, dI)) (ci := 7) (v := .ref no) (C := RX7) (T := TX7) (N := 11) hx hb hts i_X7_wind_X7 hown hK hP 0 rfl rfl 2 (by decide) (hts (.fieldLink RX7 26 "MillTalk" "now" "LMillTalk$Level;") (by decide +kernel)) (fun _ h9 => h9) rfl dX7_wind_1 ?_
  refine lv_iload_n hx hb dX7_wind_4 rfl (lv_at hl 1 rfl) ?_
  have hPc_1 := hP.sub (ws' := [(no, .inr (3, [.int 0, .int 0, .int 0, .int 0, .int 0, .int 0, .int 0, .int 0, .ref n1, .ref n2, .ref n3, .ref n4, .ref n5]))]) [1] rfl
  refine vp_callSi (W.runV (As := [.int k0]) (rest := []) ⟨hx, hb, hml, hown, hts⟩ (c_X3_hasWind l dC dI cI cZ cL cJ no 0 0 0 0 0 0 0 n1 n2 n3 n4 n5 k0 ) (cwV 1 hts gX7_wind_X3_hasWind rfl rfl rfl (by decide +kernel) ⟨Nat.le_of_ble_eq_true rfl, Nat.le_of_ble_eq_true rfl⟩) ⟨fun a U g mk q => by obtain ⟨q0, qP, qK⟩ := q; exact ⟨q0, qP, va_K.moved (u := U) (U := U.calling g mk a) (Vm.Alike.refl U.vm) qK⟩, va_recv hK hP (ci := 3) (q0 := 1) rfl rfl, fun U hU hW => ⟨rfl, by rw [hU]; exact hPc_1, va_K.moved hW.alike hK⟩⟩ rfl rfl hl.1 rfl (lv_room (Nat.le_of_ble_eq_true rfl)) dX7_wind_5 ⟨Nat.le_of_ble_eq_true rfl, Nat.le_of_ble_eq_true rfl⟩) (fun r_1 h_1 => ?_)
  subst h_1
  refine lv_if_eq (tgt := 20) hx hb dX7_wind_8 (by decide) (fun _ => ?_) (fun c_ => absurd (by decide) c_)
  refine lv_ldc (own := RX7) (v := (-1000001)) hx hb hown (hts (.constant RX7 72 (-1000001)) (by decide +kernel)) dX7_wind_20 ?_
  exact W.iret (v := (-1000001)) hx hb hr (fun t ht hW => ⟨(-1000001), rfl, rfl, ht⟩) (fun _ h => by cases h) dX7_wind_22
set_option maxHeartbeats 4000000 in
set_option maxRecDepth 100000 in
theorem c_X7_loose (l : Launch) (dC : Nat → ClassId) (dI : Nat → Nat → Nat) (cI cZ cL cJ : ClassId) (x : Nat) (ro : Nat) (ta : Nat) (no : Nat) (ac : Nat) (im : Nat) (tr : Nat) (pl : Nat) (cs : Nat) (ak : Nat) (n1 : Nat) (n2 : Nat) (n3 : Nat) (n4 : Nat) (n5 : Nat) (k0 : Int32) (k1 : Int32) (k2 : Int32)  : Met l yX7_loose wsX7_loose ({ frames := 1, cells := 0, slots := 0, locals := 21 }) (va_Pc [.ref x, .int k0, .int k1, .int k2] (fun U => va_P (dC, dI) vwCl [(x, .inr (7, [.ref ro, .ref ta, .ref no, .ref ac, .ref im, .ref tr, .ref pl, .ref cs, .ref ak, .int 0, .int 0])), (no, .inr (3, [.int 0, .int 0, .int 0, .int 0, .int 0, .int 0, .int 0, .int 0, .ref n1, .ref n2, .ref n3, .ref n4, .ref n5]))] U.heap ∧ va_K (dC, dI) vwCl [(cI, .int), (cZ, .boolean), (cL, .object RX3), (cJ, .array .int)] U)) (vp_Si (fun r => r = (-1000001))) 0 0 (fun _ => False) := by
  refine Met.ofW (cc := cX7_loose) (maxL := 4) (ret := (some .int)) (by decide) rfl ?_
  intro p e s m args below meth c s₁ B hml hv
  obtain ⟨rfl, hP, hK⟩ := hv
  have hx := B.exec
  have hb := B.bytes
  have hr := B.returns
  have hts := atoms_spec (ws := wsX7_loose) B.pre
  have hown : s.vm.findClass RX7 = some m.cls := findClass_of_methodNamed B.named
  have hlocks := B.notSynchronized
  have hP : va_P (dC, dI) vwCl [(x, .inr (7, [.ref ro, .ref ta, .ref no, .ref ac, .ref im, .ref tr, .ref pl, .ref cs, .ref ak, .int 0, .int 0])), (no, .inr (3, [.int 0, .int 0, .int 0, .int 0, .int 0, .int 0, .int 0, .int 0, .ref n1, .ref n2, .ref n3, .ref n4, .ref n5]))] s.heap := hP
  have hl := lv_entry ([.ref x, .int k0, .int k1, .int k2]) (n := 4) (Nat.le_of_ble_eq_true rfl)
  rw [lg_entry_eq]
  generalize (lg_sl ([.ref x, .int k0, .int k1, .int k2]) ++ List.replicate (4 - (lg_sl ([.ref x, .int k0, .int k1, .int k2])).length) Slot.unset).toArray = ls at hl ⊢
  have hl : lv_has ls 4 [(0, .ref x), (1, .int k0), (2, .int k1), (3, .int k2)] := hl
  refine lv_aload_n hx hb dX7_loose_0 rfl (lv_at hl 0 rfl) ?_
  refine va_get (D := (dC, dI)) (ci := 7) (v := .ref no) (C := RX7) (T := TX7) (N := 11) hx hb hts i_X7_loose_X7 hown hK hP 0 rfl rfl 2 (by decide) (hts (.fieldLink RX7 26 "MillTalk" "now" "LMillTalk$Level;") (by decide +kernel)) (fun _ h9 => h9) rfl dX7_loose_1 ?_
  refine lv_iload_n hx hb dX7_loose_4 rfl (lv_at hl 1 rfl) ?_
  have hPc_1 := hP.sub (ws' := [(no, .inr (3, [.int 0, .int 0, .int 0, .int 0, .int 0, .int 0, .int 0, .int 0, .ref n1, .ref n2, .ref n3, .ref n4, .ref n5]))]) [1] rfl
  refine vp_callSi (W.runV (As := [.int k0]) (rest := []) ⟨hx, hb, hml, hown, hts⟩ (c_X3_hasSound l dC dI cI cZ cL cJ no 0 0 0 0 0 0 0 n1 n2 n3 n4 n5 k0 ) (cwV 1 hts gX7_loose_X3_hasSound rfl rfl rfl (by decide +kernel) ⟨Nat.le_of_ble_eq_true rfl, Nat.le_of_ble_eq_true rfl⟩) ⟨fun a U g mk q => by obtain ⟨q0, qP, qK⟩ := q; exact ⟨q0, qP, va_K.moved (u := U) (U := U.calling g mk a) (Vm.Alike.refl U.vm) qK⟩, va_recv hK hP (ci := 3) (q0 := 1) rfl rfl, fun U hU hW => ⟨rfl, by rw [hU]; exact hPc_1, va_K.moved hW.alike hK⟩⟩ rfl rfl hl.1 rfl (lv_room (Nat.le_of_ble_eq_true rfl)) dX7_loose_5 ⟨Nat.le_of_ble_eq_true rfl, Nat.le_of_ble_eq_true rfl⟩) (fun r_1 h_1 => ?_)
  subst h_1
  refine lv_if_eq (tgt := 33) hx hb dX7_loose_8 (by decide) (fun _ => ?_) (fun c_ => absurd (by decide) c_)
  refine lv_ldc (own := RX7) (v := (-1000001)) hx hb hown (hts (.constant RX7 72 (-1000001)) (by decide +kernel)) dX7_loose_33 ?_
  exact W.iret (v := (-1000001)) hx hb hr (fun t ht hW => ⟨(-1000001), rfl, rfl, ht⟩) (fun _ h => by cases h) dX7_loose_35
set_option maxHeartbeats 4000000 in
set_option maxRecDepth 100000 in
theorem c_X7_sell (l : Launch) (dC : Nat → ClassId) (dI : Nat → Nat → Nat) (cI cZ cL cJ : ClassId) (x : Nat) (ro : Nat) (ta : Nat) (no : Nat) (ac : Nat) (im : Nat) (tr : Nat) (pl : Nat) (cs : Nat) (ak : Nat) (n1 : Nat) (n2 : Nat) (n3 : Nat) (n4 : Nat) (n5 : Nat) (k0 : Int32)  : Met l yX7_sell wsX7_sell ({ frames := 1, cells := 0, slots := 0, locals := 20 }) (va_Pc [.ref x, .int k0] (fun U => va_P (dC, dI) vwCl [(x, .inr (7, [.ref ro, .ref ta, .ref no, .ref ac, .ref im, .ref tr, .ref pl, .ref cs, .ref ak, .int 0, .int 0])), (no, .inr (3, [.int 0, .int 0, .int 0, .int 0, .int 0, .int 0, .int 0, .int 0, .ref n1, .ref n2, .ref n3, .ref n4, .ref n5]))] U.heap ∧ va_K (dC, dI) vwCl [(cI, .int), (cZ, .boolean), (cL, .object RX3), (cJ, .array .int)] U)) (vp_Si (fun r => r = (-1000002))) 0 0 (fun _ => False) := by
  refine Met.ofW (cc := cX7_sell) (maxL := 2) (ret := (some .int)) (by decide) rfl ?_
  intro p e s m args below meth c s₁ B hml hv
  obtain ⟨rfl, hP, hK⟩ := hv
  have hx := B.exec
  have hb := B.bytes
  have hr := B.returns
  have hts := atoms_spec (ws := wsX7_sell) B.pre
  have hown : s.vm.findClass RX7 = some m.cls := findClass_of_methodNamed B.named
  have hlocks := B.notSynchronized
  have hP : va_P (dC, dI) vwCl [(x, .inr (7, [.ref ro, .ref ta, .ref no, .ref ac, .ref im, .ref tr, .ref pl, .ref cs, .ref ak, .int 0, .int 0])), (no, .inr (3, [.int 0, .int 0, .int 0, .int 0, .int 0, .int 0, .int 0, .int 0, .ref n1, .ref n2, .ref n3, .ref n4, .ref n5]))] s.heap := hP
  have hl := lv_entry ([.ref x, .int k0]) (n := 2) (Nat.le_of_ble_eq_true rfl)
  rw [lg_entry_eq]
  generalize (lg_sl ([.ref x, .int k0]) ++ List.replicate (2 - (lg_sl ([.ref x, .int k0])).length) Slot.unset).toArray = ls at hl ⊢
  have hl : lv_has ls 2 [(0, .ref x), (1, .int k0)] := hl
  refine lv_aload_n hx hb dX7_sell_0 rfl (lv_at hl 0 rfl) ?_
  refine va_get (D := (dC, dI)) (ci := 7) (v := .ref no) (C := RX7) (T := TX7) (N := 11) hx hb hts i_X7_sell_X7 hown hK hP 0 rfl rfl 2 (by decide) (hts (.fieldLink RX7 26 "MillTalk" "now" "LMillTalk$Level;") (by decide +kernel)) (fun _ h9 => h9) rfl dX7_sell_1 ?_
  have hPc_1 := hP.sub (ws' := [(no, .inr (3, [.int 0, .int 0, .int 0, .int 0, .int 0, .int 0, .int 0, .int 0, .ref n1, .ref n2, .ref n3, .ref n4, .ref n5]))]) [1] rfl
  refine vp_callSi (W.runV (As := []) (rest := []) ⟨hx, hb, hml, hown, hts⟩ (c_X3_isTold l dC dI cI cZ cL cJ no 0 0 0 0 0 0 0 n1 n2 n3 n4 n5 ) (cwV 0 hts gX7_sell_X3_isTold rfl rfl rfl (by decide +kernel) ⟨Nat.le_of_ble_eq_true rfl, Nat.le_of_ble_eq_true rfl⟩) ⟨fun a U g mk q => by obtain ⟨q0, qP, qK⟩ := q; exact ⟨q0, qP, va_K.moved (u := U) (U := U.calling g mk a) (Vm.Alike.refl U.vm) qK⟩, va_recv hK hP (ci := 3) (q0 := 1) rfl rfl, fun U hU hW => ⟨rfl, by rw [hU]; exact hPc_1, va_K.moved hW.alike hK⟩⟩ rfl rfl hl.1 rfl (lv_room (Nat.le_of_ble_eq_true rfl)) dX7_sell_4 ⟨Nat.le_of_ble_eq_true rfl, Nat.le_of_ble_eq_true rfl⟩) (fun r_1 h_1 => ?_)
  subst h_1
  refine lv_if_ne (tgt := 13) hx hb dX7_sell_7 (by decide) (fun c_ => absurd (by decide) c_) (fun _ => ?_)
  refine lv_ldc (own := RX7) (v := (-1000002)) hx hb hown (hts (.constant RX7 141 (-1000002)) (by decide +kernel)) dX7_sell_10 ?_
  exact W.iret (v := (-1000002)) hx hb hr (fun t ht hW => ⟨(-1000002), rfl, rfl, ht⟩) (fun _ h => by cases h) dX7_sell_12
set_option maxHeartbeats 4000000 in
set_option maxRecDepth 100000 in
theorem c_X7_sound (l : Launch) (dC : Nat → ClassId) (dI : Nat → Nat → Nat) (cI cZ cL cJ : ClassId) (x : Nat) (ro : Nat) (ta : Nat) (no : Nat) (ac : Nat) (im : Nat) (tr : Nat) (pl : Nat) (cs : Nat) (ak : Nat) (n1 : Nat) (n2 : Nat) (n3 : Nat) (n4 : Nat) (n5 : Nat) (k0 : Int32) (k1 : Int32)  : Met l yX7_sound wsX7_sound ({ frames := 1, cells := 0, slots := 0, locals := 21 }) (va_Pc [.ref x, .int k0, .int k1] (fun U => va_P (dC, dI) vwCl [(x, .inr (7, [.ref ro, .ref ta, .ref no, .ref ac, .ref im, .ref tr, .ref pl, .ref cs, .ref ak, .int 0, .int 0])), (no, .inr (3, [.int 0, .int 0, .int 0, .int 0, .int 0, .int 0, .int 0, .int 0, .ref n1, .ref n2, .ref n3, .ref n4, .ref n5]))] U.heap ∧ va_K (dC, dI) vwCl [(cI, .int), (cZ, .boolean), (cL, .object RX3), (cJ, .array .int)] U)) (vp_Si (fun r => r = (-1000001))) 0 0 (fun _ => False) := by
  refine Met.ofW (cc := cX7_sound) (maxL := 3) (ret := (some .int)) (by decide) rfl ?_
  intro p e s m args below meth c s₁ B hml hv
  obtain ⟨rfl, hP, hK⟩ := hv
  have hx := B.exec
  have hb := B.bytes
  have hr := B.returns
  have hts := atoms_spec (ws := wsX7_sound) B.pre
  have hown : s.vm.findClass RX7 = some m.cls := findClass_of_methodNamed B.named
  have hlocks := B.notSynchronized
  have hP : va_P (dC, dI) vwCl [(x, .inr (7, [.ref ro, .ref ta, .ref no, .ref ac, .ref im, .ref tr, .ref pl, .ref cs, .ref ak, .int 0, .int 0])), (no, .inr (3, [.int 0, .int 0, .int 0, .int 0, .int 0, .int 0, .int 0, .int 0, .ref n1, .ref n2, .ref n3, .ref n4, .ref n5]))] s.heap := hP
  have hl := lv_entry ([.ref x, .int k0, .int k1]) (n := 3) (Nat.le_of_ble_eq_true rfl)
  rw [lg_entry_eq]
  generalize (lg_sl ([.ref x, .int k0, .int k1]) ++ List.replicate (3 - (lg_sl ([.ref x, .int k0, .int k1])).length) Slot.unset).toArray = ls at hl ⊢
  have hl : lv_has ls 3 [(0, .ref x), (1, .int k0), (2, .int k1)] := hl
  refine lv_aload_n hx hb dX7_sound_0 rfl (lv_at hl 0 rfl) ?_
  refine va_get (D := (dC, dI)) (ci := 7) (v := .ref no) (C := RX7) (T := TX7) (N := 11) hx hb hts i_X7_sound_X7 hown hK hP 0 rfl rfl 2 (by decide) (hts (.fieldLink RX7 26 "MillTalk" "now" "LMillTalk$Level;") (by decide +kernel)) (fun _ h9 => h9) rfl dX7_sound_1 ?_
  refine lv_iload_n hx hb dX7_sound_4 rfl (lv_at hl 1 rfl) ?_
  have hPc_1 := hP.sub (ws' := [(no, .inr (3, [.int 0, .int 0, .int 0, .int 0, .int 0, .int 0, .int 0, .int 0, .ref n1, .ref n2, .ref n3, .ref n4, .ref n5]))]) [1] rfl
  refine vp_callSi (W.runV (As := [.int k0]) (rest := []) ⟨hx, hb, hml, hown, hts⟩ (c_X3_hasSound l dC dI cI cZ cL cJ no 0 0 0 0 0 0 0 n1 n2 n3 n4 n5 k0 ) (cwV 1 hts gX7_sound_X3_hasSound rfl rfl rfl (by decide +kernel) ⟨Nat.le_of_ble_eq_true rfl, Nat.le_of_ble_eq_true rfl⟩) ⟨fun a U g mk q => by obtain ⟨q0, qP, qK⟩ := q; exact ⟨q0, qP, va_K.moved (u := U) (U := U.calling g mk a) (Vm.Alike.refl U.vm) qK⟩, va_recv hK hP (ci := 3) (q0 := 1) rfl rfl, fun U hU hW => ⟨rfl, by rw [hU]; exact hPc_1, va_K.moved hW.alike hK⟩⟩ rfl rfl hl.1 rfl (lv_room (Nat.le_of_ble_eq_true rfl)) dX7_sound_5 ⟨Nat.le_of_ble_eq_true rfl, Nat.le_of_ble_eq_true rfl⟩) (fun r_1 h_1 => ?_)
  subst h_1
  refine lv_if_eq (tgt := 20) hx hb dX7_sound_8 (by decide) (fun _ => ?_) (fun c_ => absurd (by decide) c_)
  refine lv_ldc (own := RX7) (v := (-1000001)) hx hb hown (hts (.constant RX7 72 (-1000001)) (by decide +kernel)) dX7_sound_20 ?_
  exact W.iret (v := (-1000001)) hx hb hr (fun t ht hW => ⟨(-1000001), rfl, rfl, ht⟩) (fun _ h => by cases h) dX7_sound_22
set_option maxHeartbeats 4000000 in
set_option maxRecDepth 100000 in
theorem c_X7_stand (l : Launch) (dC : Nat → ClassId) (dI : Nat → Nat → Nat) (cI cZ cL cJ : ClassId) (x : Nat) (ro : Nat) (ta : Nat) (no : Nat) (ac : Nat) (im : Nat) (tr : Nat) (pl : Nat) (cs : Nat) (ak : Nat) (n1 : Nat) (n2 : Nat) (n3 : Nat) (n4 : Nat) (n5 : Nat) (k0 : Int32)  : Met l yX7_stand wsX7_stand ({ frames := 1, cells := 0, slots := 0, locals := 20 }) (va_Pc [.ref x, .int k0] (fun U => va_P (dC, dI) vwCl [(x, .inr (7, [.ref ro, .ref ta, .ref no, .ref ac, .ref im, .ref tr, .ref pl, .ref cs, .ref ak, .int 0, .int 0])), (no, .inr (3, [.int 0, .int 0, .int 0, .int 0, .int 0, .int 0, .int 0, .int 0, .ref n1, .ref n2, .ref n3, .ref n4, .ref n5]))] U.heap ∧ va_K (dC, dI) vwCl [(cI, .int), (cZ, .boolean), (cL, .object RX3), (cJ, .array .int)] U)) (vp_Si (fun r => r = (-1000002))) 0 0 (fun _ => False) := by
  refine Met.ofW (cc := cX7_stand) (maxL := 2) (ret := (some .int)) (by decide) rfl ?_
  intro p e s m args below meth c s₁ B hml hv
  obtain ⟨rfl, hP, hK⟩ := hv
  have hx := B.exec
  have hb := B.bytes
  have hr := B.returns
  have hts := atoms_spec (ws := wsX7_stand) B.pre
  have hown : s.vm.findClass RX7 = some m.cls := findClass_of_methodNamed B.named
  have hlocks := B.notSynchronized
  have hP : va_P (dC, dI) vwCl [(x, .inr (7, [.ref ro, .ref ta, .ref no, .ref ac, .ref im, .ref tr, .ref pl, .ref cs, .ref ak, .int 0, .int 0])), (no, .inr (3, [.int 0, .int 0, .int 0, .int 0, .int 0, .int 0, .int 0, .int 0, .ref n1, .ref n2, .ref n3, .ref n4, .ref n5]))] s.heap := hP
  have hl := lv_entry ([.ref x, .int k0]) (n := 2) (Nat.le_of_ble_eq_true rfl)
  rw [lg_entry_eq]
  generalize (lg_sl ([.ref x, .int k0]) ++ List.replicate (2 - (lg_sl ([.ref x, .int k0])).length) Slot.unset).toArray = ls at hl ⊢
  have hl : lv_has ls 2 [(0, .ref x), (1, .int k0)] := hl
  refine lv_aload_n hx hb dX7_stand_0 rfl (lv_at hl 0 rfl) ?_
  refine va_get (D := (dC, dI)) (ci := 7) (v := .ref no) (C := RX7) (T := TX7) (N := 11) hx hb hts i_X7_stand_X7 hown hK hP 0 rfl rfl 2 (by decide) (hts (.fieldLink RX7 26 "MillTalk" "now" "LMillTalk$Level;") (by decide +kernel)) (fun _ h9 => h9) rfl dX7_stand_1 ?_
  have hPc_1 := hP.sub (ws' := [(no, .inr (3, [.int 0, .int 0, .int 0, .int 0, .int 0, .int 0, .int 0, .int 0, .ref n1, .ref n2, .ref n3, .ref n4, .ref n5]))]) [1] rfl
  refine vp_callSi (W.runV (As := []) (rest := []) ⟨hx, hb, hml, hown, hts⟩ (c_X3_isTold l dC dI cI cZ cL cJ no 0 0 0 0 0 0 0 n1 n2 n3 n4 n5 ) (cwV 0 hts gX7_stand_X3_isTold rfl rfl rfl (by decide +kernel) ⟨Nat.le_of_ble_eq_true rfl, Nat.le_of_ble_eq_true rfl⟩) ⟨fun a U g mk q => by obtain ⟨q0, qP, qK⟩ := q; exact ⟨q0, qP, va_K.moved (u := U) (U := U.calling g mk a) (Vm.Alike.refl U.vm) qK⟩, va_recv hK hP (ci := 3) (q0 := 1) rfl rfl, fun U hU hW => ⟨rfl, by rw [hU]; exact hPc_1, va_K.moved hW.alike hK⟩⟩ rfl rfl hl.1 rfl (lv_room (Nat.le_of_ble_eq_true rfl)) dX7_stand_4 ⟨Nat.le_of_ble_eq_true rfl, Nat.le_of_ble_eq_true rfl⟩) (fun r_1 h_1 => ?_)
  subst h_1
  refine lv_if_ne (tgt := 13) hx hb dX7_stand_7 (by decide) (fun c_ => absurd (by decide) c_) (fun _ => ?_)
  refine lv_ldc (own := RX7) (v := (-1000002)) hx hb hown (hts (.constant RX7 141 (-1000002)) (by decide +kernel)) dX7_stand_10 ?_
  exact W.iret (v := (-1000002)) hx hb hr (fun t ht hW => ⟨(-1000002), rfl, rfl, ht⟩) (fun _ h => by cases h) dX7_stand_12
set_option maxHeartbeats 4000000 in
set_option maxRecDepth 100000 in
theorem c_X7_gust (l : Launch) (dC : Nat → ClassId) (dI : Nat → Nat → Nat) (cI cZ cL cJ : ClassId) (x : Nat) (ro : Nat) (ta : Nat) (no : Nat) (ac : Nat) (im : Nat) (tr : Nat) (pl : Nat) (cs : Nat) (ak : Nat) (n1 : Nat) (n2 : Nat) (n3 : Nat) (n4 : Nat) (n5 : Nat) (k0 : Int32)  : Met l yX7_gust wsX7_gust ({ frames := 1, cells := 0, slots := 0, locals := 20 }) (va_Pc [.ref x, .int k0] (fun U => va_P (dC, dI) vwCl [(x, .inr (7, [.ref ro, .ref ta, .ref no, .ref ac, .ref im, .ref tr, .ref pl, .ref cs, .ref ak, .int 0, .int 0])), (no, .inr (3, [.int 0, .int 0, .int 0, .int 0, .int 0, .int 0, .int 0, .int 0, .ref n1, .ref n2, .ref n3, .ref n4, .ref n5]))] U.heap ∧ va_K (dC, dI) vwCl [(cI, .int), (cZ, .boolean), (cL, .object RX3), (cJ, .array .int)] U)) (vp_Si (fun r => r = (-1000002))) 0 0 (fun _ => False) := by
  refine Met.ofW (cc := cX7_gust) (maxL := 2) (ret := (some .int)) (by decide) rfl ?_
  intro p e s m args below meth c s₁ B hml hv
  obtain ⟨rfl, hP, hK⟩ := hv
  have hx := B.exec
  have hb := B.bytes
  have hr := B.returns
  have hts := atoms_spec (ws := wsX7_gust) B.pre
  have hown : s.vm.findClass RX7 = some m.cls := findClass_of_methodNamed B.named
  have hlocks := B.notSynchronized
  have hP : va_P (dC, dI) vwCl [(x, .inr (7, [.ref ro, .ref ta, .ref no, .ref ac, .ref im, .ref tr, .ref pl, .ref cs, .ref ak, .int 0, .int 0])), (no, .inr (3, [.int 0, .int 0, .int 0, .int 0, .int 0, .int 0, .int 0, .int 0, .ref n1, .ref n2, .ref n3, .ref n4, .ref n5]))] s.heap := hP
  have hl := lv_entry ([.ref x, .int k0]) (n := 2) (Nat.le_of_ble_eq_true rfl)
  rw [lg_entry_eq]
  generalize (lg_sl ([.ref x, .int k0]) ++ List.replicate (2 - (lg_sl ([.ref x, .int k0])).length) Slot.unset).toArray = ls at hl ⊢
  have hl : lv_has ls 2 [(0, .ref x), (1, .int k0)] := hl
  refine lv_aload_n hx hb dX7_gust_0 rfl (lv_at hl 0 rfl) ?_
  refine va_get (D := (dC, dI)) (ci := 7) (v := .ref no) (C := RX7) (T := TX7) (N := 11) hx hb hts i_X7_gust_X7 hown hK hP 0 rfl rfl 2 (by decide) (hts (.fieldLink RX7 26 "MillTalk" "now" "LMillTalk$Level;") (by decide +kernel)) (fun _ h9 => h9) rfl dX7_gust_1 ?_
  have hPc_1 := hP.sub (ws' := [(no, .inr (3, [.int 0, .int 0, .int 0, .int 0, .int 0, .int 0, .int 0, .int 0, .ref n1, .ref n2, .ref n3, .ref n4, .ref n5]))]) [1] rfl
  refine vp_callSi (W.runV (As := []) (rest := []) ⟨hx, hb, hml, hown, hts⟩ (c_X3_isTold l dC dI cI cZ cL cJ no 0 0 0 0 0 0 0 n1 n2 n3 n4 n5 ) (cwV 0 hts gX7_gust_X3_isTold rfl rfl rfl (by decide +kernel) ⟨Nat.le_of_ble_eq_true rfl, Nat.le_of_ble_eq_true rfl⟩) ⟨fun a U g mk q => by obtain ⟨q0, qP, qK⟩ := q; exact ⟨q0, qP, va_K.moved (u := U) (U := U.calling g mk a) (Vm.Alike.refl U.vm) qK⟩, va_recv hK hP (ci := 3) (q0 := 1) rfl rfl, fun U hU hW => ⟨rfl, by rw [hU]; exact hPc_1, va_K.moved hW.alike hK⟩⟩ rfl rfl hl.1 rfl (lv_room (Nat.le_of_ble_eq_true rfl)) dX7_gust_4 ⟨Nat.le_of_ble_eq_true rfl, Nat.le_of_ble_eq_true rfl⟩) (fun r_1 h_1 => ?_)
  subst h_1
  refine lv_if_ne (tgt := 13) hx hb dX7_gust_7 (by decide) (fun c_ => absurd (by decide) c_) (fun _ => ?_)
  refine lv_ldc (own := RX7) (v := (-1000002)) hx hb hown (hts (.constant RX7 141 (-1000002)) (by decide +kernel)) dX7_gust_10 ?_
  exact W.iret (v := (-1000002)) hx hb hr (fun t ht hW => ⟨(-1000002), rfl, rfl, ht⟩) (fun _ h => by cases h) dX7_gust_12
set_option maxHeartbeats 4000000 in
set_option maxRecDepth 100000 in
theorem c_X7_ahead (l : Launch) (dC : Nat → ClassId) (dI : Nat → Nat → Nat) (cI cZ cL cJ : ClassId) (x : Nat) (ro : Nat) (ta : Nat) (no : Nat) (ac : Nat) (im : Nat) (tr : Nat) (pl : Nat) (cs : Nat) (ak : Nat) (n1 : Nat) (n2 : Nat) (n3 : Nat) (n4 : Nat) (n5 : Nat) (k0 : Int32) (k1 : Int32) (k2 : Int32)  : Met l yX7_ahead wsX7_ahead ({ frames := 1, cells := 0, slots := 0, locals := 21 }) (va_Pc [.ref x, .int k0, .int k1, .int k2] (fun U => va_P (dC, dI) vwCl [(x, .inr (7, [.ref ro, .ref ta, .ref no, .ref ac, .ref im, .ref tr, .ref pl, .ref cs, .ref ak, .int 0, .int 0])), (no, .inr (3, [.int 0, .int 0, .int 0, .int 0, .int 0, .int 0, .int 0, .int 0, .ref n1, .ref n2, .ref n3, .ref n4, .ref n5]))] U.heap ∧ va_K (dC, dI) vwCl [(cI, .int), (cZ, .boolean), (cL, .object RX3), (cJ, .array .int)] U)) (vp_Si (fun r => r = (-1000001))) 0 0 (fun _ => False) := by
  refine Met.ofW (cc := cX7_ahead) (maxL := 4) (ret := (some .int)) (by decide) rfl ?_
  intro p e s m args below meth c s₁ B hml hv
  obtain ⟨rfl, hP, hK⟩ := hv
  have hx := B.exec
  have hb := B.bytes
  have hr := B.returns
  have hts := atoms_spec (ws := wsX7_ahead) B.pre
  have hown : s.vm.findClass RX7 = some m.cls := findClass_of_methodNamed B.named
  have hlocks := B.notSynchronized
  have hP : va_P (dC, dI) vwCl [(x, .inr (7, [.ref ro, .ref ta, .ref no, .ref ac, .ref im, .ref tr, .ref pl, .ref cs, .ref ak, .int 0, .int 0])), (no, .inr (3, [.int 0, .int 0, .int 0, .int 0, .int 0, .int 0, .int 0, .int 0, .ref n1, .ref n2, .ref n3, .ref n4, .ref n5]))] s.heap := hP
  have hl := lv_entry ([.ref x, .int k0, .int k1, .int k2]) (n := 4) (Nat.le_of_ble_eq_true rfl)
  rw [lg_entry_eq]
  generalize (lg_sl ([.ref x, .int k0, .int k1, .int k2]) ++ List.replicate (4 - (lg_sl ([.ref x, .int k0, .int k1, .int k2])).length) Slot.unset).toArray = ls at hl ⊢
  have hl : lv_has ls 4 [(0, .ref x), (1, .int k0), (2, .int k1), (3, .int k2)] := hl
  refine lv_aload_n hx hb dX7_ahead_0 rfl (lv_at hl 0 rfl) ?_
  refine va_get (D := (dC, dI)) (ci := 7) (v := .ref no) (C := RX7) (T := TX7) (N := 11) hx hb hts i_X7_ahead_X7 hown hK hP 0 rfl rfl 2 (by decide) (hts (.fieldLink RX7 26 "MillTalk" "now" "LMillTalk$Level;") (by decide +kernel)) (fun _ h9 => h9) rfl dX7_ahead_1 ?_
  refine lv_iload_n hx hb dX7_ahead_4 rfl (lv_at hl 1 rfl) ?_
  have hPc_1 := hP.sub (ws' := [(no, .inr (3, [.int 0, .int 0, .int 0, .int 0, .int 0, .int 0, .int 0, .int 0, .ref n1, .ref n2, .ref n3, .ref n4, .ref n5]))]) [1] rfl
  refine vp_callSi (W.runV (As := [.int k0]) (rest := []) ⟨hx, hb, hml, hown, hts⟩ (c_X3_hasSound l dC dI cI cZ cL cJ no 0 0 0 0 0 0 0 n1 n2 n3 n4 n5 k0 ) (cwV 1 hts gX7_ahead_X3_hasSound rfl rfl rfl (by decide +kernel) ⟨Nat.le_of_ble_eq_true rfl, Nat.le_of_ble_eq_true rfl⟩) ⟨fun a U g mk q => by obtain ⟨q0, qP, qK⟩ := q; exact ⟨q0, qP, va_K.moved (u := U) (U := U.calling g mk a) (Vm.Alike.refl U.vm) qK⟩, va_recv hK hP (ci := 3) (q0 := 1) rfl rfl, fun U hU hW => ⟨rfl, by rw [hU]; exact hPc_1, va_K.moved hW.alike hK⟩⟩ rfl rfl hl.1 rfl (lv_room (Nat.le_of_ble_eq_true rfl)) dX7_ahead_5 ⟨Nat.le_of_ble_eq_true rfl, Nat.le_of_ble_eq_true rfl⟩) (fun r_1 h_1 => ?_)
  subst h_1
  refine lv_if_eq (tgt := 27) hx hb dX7_ahead_8 (by decide) (fun _ => ?_) (fun c_ => absurd (by decide) c_)
  refine lv_ldc (own := RX7) (v := (-1000001)) hx hb hown (hts (.constant RX7 72 (-1000001)) (by decide +kernel)) dX7_ahead_27 ?_
  exact W.iret (v := (-1000001)) hx hb hr (fun t ht hW => ⟨(-1000001), rfl, rfl, ht⟩) (fun _ h => by cases h) dX7_ahead_29
set_option maxHeartbeats 4000000 in
set_option maxRecDepth 100000 in
theorem c_X7_meal (l : Launch) (dC : Nat → ClassId) (dI : Nat → Nat → Nat) (cI cZ cL cJ : ClassId) (x : Nat) (ro : Nat) (ta : Nat) (no : Nat) (ac : Nat) (im : Nat) (tr : Nat) (pl : Nat) (cs : Nat) (ak : Nat) (n1 : Nat) (n2 : Nat) (n3 : Nat) (n4 : Nat) (n5 : Nat) (k0 : Int32)  : Met l yX7_meal wsX7_meal ({ frames := 1, cells := 0, slots := 0, locals := 20 }) (va_Pc [.ref x, .int k0] (fun U => va_P (dC, dI) vwCl [(x, .inr (7, [.ref ro, .ref ta, .ref no, .ref ac, .ref im, .ref tr, .ref pl, .ref cs, .ref ak, .int 0, .int 0])), (no, .inr (3, [.int 0, .int 0, .int 0, .int 0, .int 0, .int 0, .int 0, .int 0, .ref n1, .ref n2, .ref n3, .ref n4, .ref n5]))] U.heap ∧ va_K (dC, dI) vwCl [(cI, .int), (cZ, .boolean), (cL, .object RX3), (cJ, .array .int)] U)) (vp_Si (fun r => r = (-1000002))) 0 0 (fun _ => False) := by
  refine Met.ofW (cc := cX7_meal) (maxL := 2) (ret := (some .int)) (by decide) rfl ?_
  intro p e s m args below meth c s₁ B hml hv
  obtain ⟨rfl, hP, hK⟩ := hv
  have hx := B.exec
  have hb := B.bytes
  have hr := B.returns
  have hts := atoms_spec (ws := wsX7_meal) B.pre
  have hown : s.vm.findClass RX7 = some m.cls := findClass_of_methodNamed B.named
  have hlocks := B.notSynchronized
  have hP : va_P (dC, dI) vwCl [(x, .inr (7, [.ref ro, .ref ta, .ref no, .ref ac, .ref im, .ref tr, .ref pl, .ref cs, .ref ak, .int 0, .int 0])), (no, .inr (3, [.int 0, .int 0, .int 0, .int 0, .int 0, .int 0, .int 0, .int 0, .ref n1, .ref n2, .ref n3, .ref n4, .ref n5]))] s.heap := hP
  have hl := lv_entry ([.ref x, .int k0]) (n := 2) (Nat.le_of_ble_eq_true rfl)
  rw [lg_entry_eq]
  generalize (lg_sl ([.ref x, .int k0]) ++ List.replicate (2 - (lg_sl ([.ref x, .int k0])).length) Slot.unset).toArray = ls at hl ⊢
  have hl : lv_has ls 2 [(0, .ref x), (1, .int k0)] := hl
  refine lv_aload_n hx hb dX7_meal_0 rfl (lv_at hl 0 rfl) ?_
  refine va_get (D := (dC, dI)) (ci := 7) (v := .ref no) (C := RX7) (T := TX7) (N := 11) hx hb hts i_X7_meal_X7 hown hK hP 0 rfl rfl 2 (by decide) (hts (.fieldLink RX7 26 "MillTalk" "now" "LMillTalk$Level;") (by decide +kernel)) (fun _ h9 => h9) rfl dX7_meal_1 ?_
  have hPc_1 := hP.sub (ws' := [(no, .inr (3, [.int 0, .int 0, .int 0, .int 0, .int 0, .int 0, .int 0, .int 0, .ref n1, .ref n2, .ref n3, .ref n4, .ref n5]))]) [1] rfl
  refine vp_callSi (W.runV (As := []) (rest := []) ⟨hx, hb, hml, hown, hts⟩ (c_X3_isTold l dC dI cI cZ cL cJ no 0 0 0 0 0 0 0 n1 n2 n3 n4 n5 ) (cwV 0 hts gX7_meal_X3_isTold rfl rfl rfl (by decide +kernel) ⟨Nat.le_of_ble_eq_true rfl, Nat.le_of_ble_eq_true rfl⟩) ⟨fun a U g mk q => by obtain ⟨q0, qP, qK⟩ := q; exact ⟨q0, qP, va_K.moved (u := U) (U := U.calling g mk a) (Vm.Alike.refl U.vm) qK⟩, va_recv hK hP (ci := 3) (q0 := 1) rfl rfl, fun U hU hW => ⟨rfl, by rw [hU]; exact hPc_1, va_K.moved hW.alike hK⟩⟩ rfl rfl hl.1 rfl (lv_room (Nat.le_of_ble_eq_true rfl)) dX7_meal_4 ⟨Nat.le_of_ble_eq_true rfl, Nat.le_of_ble_eq_true rfl⟩) (fun r_1 h_1 => ?_)
  subst h_1
  refine lv_if_ne (tgt := 13) hx hb dX7_meal_7 (by decide) (fun c_ => absurd (by decide) c_) (fun _ => ?_)
  refine lv_ldc (own := RX7) (v := (-1000002)) hx hb hown (hts (.constant RX7 141 (-1000002)) (by decide +kernel)) dX7_meal_10 ?_
  exact W.iret (v := (-1000002)) hx hb hr (fun t ht hW => ⟨(-1000002), rfl, rfl, ht⟩) (fun _ h => by cases h) dX7_meal_12
set_option maxHeartbeats 4000000 in
set_option maxRecDepth 100000 in
theorem c_X7_when (l : Launch) (dC : Nat → ClassId) (dI : Nat → Nat → Nat) (cI cZ cL cJ : ClassId) (x : Nat) (ro : Nat) (ta : Nat) (no : Nat) (ac : Nat) (im : Nat) (tr : Nat) (pl : Nat) (cs : Nat) (ak : Nat) (n1 : Nat) (n2 : Nat) (n3 : Nat) (n4 : Nat) (n5 : Nat) (k0 : Int32) (k1 : Int32)  : Met l yX7_when wsX7_when ({ frames := 1, cells := 0, slots := 0, locals := 21 }) (va_Pc [.ref x, .int k0, .int k1] (fun U => va_P (dC, dI) vwCl [(x, .inr (7, [.ref ro, .ref ta, .ref no, .ref ac, .ref im, .ref tr, .ref pl, .ref cs, .ref ak, .int 0, .int 0])), (no, .inr (3, [.int 0, .int 0, .int 0, .int 0, .int 0, .int 0, .int 0, .int 0, .ref n1, .ref n2, .ref n3, .ref n4, .ref n5]))] U.heap ∧ va_K (dC, dI) vwCl [(cI, .int), (cZ, .boolean), (cL, .object RX3), (cJ, .array .int)] U)) (vp_Si (fun r => r = (-1000001))) 0 0 (fun _ => False) := by
  refine Met.ofW (cc := cX7_when) (maxL := 4) (ret := (some .int)) (by decide) rfl ?_
  intro p e s m args below meth c s₁ B hml hv
  obtain ⟨rfl, hP, hK⟩ := hv
  have hx := B.exec
  have hb := B.bytes
  have hr := B.returns
  have hts := atoms_spec (ws := wsX7_when) B.pre
  have hown : s.vm.findClass RX7 = some m.cls := findClass_of_methodNamed B.named
  have hlocks := B.notSynchronized
  have hP : va_P (dC, dI) vwCl [(x, .inr (7, [.ref ro, .ref ta, .ref no, .ref ac, .ref im, .ref tr, .ref pl, .ref cs, .ref ak, .int 0, .int 0])), (no, .inr (3, [.int 0, .int 0, .int 0, .int 0, .int 0, .int 0, .int 0, .int 0, .ref n1, .ref n2, .ref n3, .ref n4, .ref n5]))] s.heap := hP
  have hl := lv_entry ([.ref x, .int k0, .int k1]) (n := 4) (Nat.le_of_ble_eq_true rfl)
  rw [lg_entry_eq]
  generalize (lg_sl ([.ref x, .int k0, .int k1]) ++ List.replicate (4 - (lg_sl ([.ref x, .int k0, .int k1])).length) Slot.unset).toArray = ls at hl ⊢
  have hl : lv_has ls 4 [(0, .ref x), (1, .int k0), (2, .int k1)] := hl
  refine lv_aload_n hx hb dX7_when_0 rfl (lv_at hl 0 rfl) ?_
  refine va_get (D := (dC, dI)) (ci := 7) (v := .ref no) (C := RX7) (T := TX7) (N := 11) hx hb hts i_X7_when_X7 hown hK hP 0 rfl rfl 2 (by decide) (hts (.fieldLink RX7 26 "MillTalk" "now" "LMillTalk$Level;") (by decide +kernel)) (fun _ h9 => h9) rfl dX7_when_1 ?_
  refine lv_iload_n hx hb dX7_when_4 rfl (lv_at hl 1 rfl) ?_
  have hPc_1 := hP.sub (ws' := [(no, .inr (3, [.int 0, .int 0, .int 0, .int 0, .int 0, .int 0, .int 0, .int 0, .ref n1, .ref n2, .ref n3, .ref n4, .ref n5]))]) [1] rfl
  refine vp_callSi (W.runV (As := [.int k0]) (rest := []) ⟨hx, hb, hml, hown, hts⟩ (c_X3_hasSound l dC dI cI cZ cL cJ no 0 0 0 0 0 0 0 n1 n2 n3 n4 n5 k0 ) (cwV 1 hts gX7_when_X3_hasSound rfl rfl rfl (by decide +kernel) ⟨Nat.le_of_ble_eq_true rfl, Nat.le_of_ble_eq_true rfl⟩) ⟨fun a U g mk q => by obtain ⟨q0, qP, qK⟩ := q; exact ⟨q0, qP, va_K.moved (u := U) (U := U.calling g mk a) (Vm.Alike.refl U.vm) qK⟩, va_recv hK hP (ci := 3) (q0 := 1) rfl rfl, fun U hU hW => ⟨rfl, by rw [hU]; exact hPc_1, va_K.moved hW.alike hK⟩⟩ rfl rfl hl.1 rfl (lv_room (Nat.le_of_ble_eq_true rfl)) dX7_when_5 ⟨Nat.le_of_ble_eq_true rfl, Nat.le_of_ble_eq_true rfl⟩) (fun r_1 h_1 => ?_)
  subst h_1
  refine lv_if_eq (tgt := 21) hx hb dX7_when_8 (by decide) (fun _ => ?_) (fun c_ => absurd (by decide) c_)
  refine lv_ldc (own := RX7) (v := (-1000001)) hx hb hown (hts (.constant RX7 72 (-1000001)) (by decide +kernel)) dX7_when_21 ?_
  exact W.iret (v := (-1000001)) hx hb hr (fun t ht hW => ⟨(-1000001), rfl, rfl, ht⟩) (fun _ h => by cases h) dX7_when_23
set_option maxHeartbeats 4000000 in
set_option maxRecDepth 100000 in
theorem c_X7_caps (l : Launch) (dC : Nat → ClassId) (dI : Nat → Nat → Nat) (cI cZ cL cJ : ClassId) (x : Nat) (ro : Nat) (ta : Nat) (no : Nat) (ac : Nat) (im : Nat) (tr : Nat) (pl : Nat) (cs : Nat) (ak : Nat) (n1 : Nat) (n2 : Nat) (n3 : Nat) (n4 : Nat) (n5 : Nat) (k0 : Int32) (k1 : Int32)  : Met l yX7_caps wsX7_caps ({ frames := 1, cells := 0, slots := 0, locals := 20 }) (va_Pc [.ref x, .int k0, .int k1] (fun U => va_P (dC, dI) vwCl [(x, .inr (7, [.ref ro, .ref ta, .ref no, .ref ac, .ref im, .ref tr, .ref pl, .ref cs, .ref ak, .int 0, .int 0])), (no, .inr (3, [.int 0, .int 0, .int 0, .int 0, .int 0, .int 0, .int 0, .int 0, .ref n1, .ref n2, .ref n3, .ref n4, .ref n5]))] U.heap ∧ va_K (dC, dI) vwCl [(cI, .int), (cZ, .boolean), (cL, .object RX3), (cJ, .array .int)] U)) (vp_Si (fun r => r = (-1000002))) 0 0 (fun _ => False) := by
  refine Met.ofW (cc := cX7_caps) (maxL := 3) (ret := (some .int)) (by decide) rfl ?_
  intro p e s m args below meth c s₁ B hml hv
  obtain ⟨rfl, hP, hK⟩ := hv
  have hx := B.exec
  have hb := B.bytes
  have hr := B.returns
  have hts := atoms_spec (ws := wsX7_caps) B.pre
  have hown : s.vm.findClass RX7 = some m.cls := findClass_of_methodNamed B.named
  have hlocks := B.notSynchronized
  have hP : va_P (dC, dI) vwCl [(x, .inr (7, [.ref ro, .ref ta, .ref no, .ref ac, .ref im, .ref tr, .ref pl, .ref cs, .ref ak, .int 0, .int 0])), (no, .inr (3, [.int 0, .int 0, .int 0, .int 0, .int 0, .int 0, .int 0, .int 0, .ref n1, .ref n2, .ref n3, .ref n4, .ref n5]))] s.heap := hP
  have hl := lv_entry ([.ref x, .int k0, .int k1]) (n := 3) (Nat.le_of_ble_eq_true rfl)
  rw [lg_entry_eq]
  generalize (lg_sl ([.ref x, .int k0, .int k1]) ++ List.replicate (3 - (lg_sl ([.ref x, .int k0, .int k1])).length) Slot.unset).toArray = ls at hl ⊢
  have hl : lv_has ls 3 [(0, .ref x), (1, .int k0), (2, .int k1)] := hl
  refine lv_aload_n hx hb dX7_caps_0 rfl (lv_at hl 0 rfl) ?_
  refine va_get (D := (dC, dI)) (ci := 7) (v := .ref no) (C := RX7) (T := TX7) (N := 11) hx hb hts i_X7_caps_X7 hown hK hP 0 rfl rfl 2 (by decide) (hts (.fieldLink RX7 26 "MillTalk" "now" "LMillTalk$Level;") (by decide +kernel)) (fun _ h9 => h9) rfl dX7_caps_1 ?_
  have hPc_1 := hP.sub (ws' := [(no, .inr (3, [.int 0, .int 0, .int 0, .int 0, .int 0, .int 0, .int 0, .int 0, .ref n1, .ref n2, .ref n3, .ref n4, .ref n5]))]) [1] rfl
  refine vp_callSi (W.runV (As := []) (rest := []) ⟨hx, hb, hml, hown, hts⟩ (c_X3_isTold l dC dI cI cZ cL cJ no 0 0 0 0 0 0 0 n1 n2 n3 n4 n5 ) (cwV 0 hts gX7_caps_X3_isTold rfl rfl rfl (by decide +kernel) ⟨Nat.le_of_ble_eq_true rfl, Nat.le_of_ble_eq_true rfl⟩) ⟨fun a U g mk q => by obtain ⟨q0, qP, qK⟩ := q; exact ⟨q0, qP, va_K.moved (u := U) (U := U.calling g mk a) (Vm.Alike.refl U.vm) qK⟩, va_recv hK hP (ci := 3) (q0 := 1) rfl rfl, fun U hU hW => ⟨rfl, by rw [hU]; exact hPc_1, va_K.moved hW.alike hK⟩⟩ rfl rfl hl.1 rfl (lv_room (Nat.le_of_ble_eq_true rfl)) dX7_caps_4 ⟨Nat.le_of_ble_eq_true rfl, Nat.le_of_ble_eq_true rfl⟩) (fun r_1 h_1 => ?_)
  subst h_1
  refine lv_if_ne (tgt := 13) hx hb dX7_caps_7 (by decide) (fun c_ => absurd (by decide) c_) (fun _ => ?_)
  refine lv_ldc (own := RX7) (v := (-1000002)) hx hb hown (hts (.constant RX7 141 (-1000002)) (by decide +kernel)) dX7_caps_10 ?_
  exact W.iret (v := (-1000002)) hx hb hr (fun t ht hW => ⟨(-1000002), rfl, rfl, ht⟩) (fun _ h => by cases h) dX7_caps_12
set_option maxHeartbeats 4000000 in
set_option maxRecDepth 100000 in
theorem c_X7_had (l : Launch) (dC : Nat → ClassId) (dI : Nat → Nat → Nat) (cI cZ cL cJ : ClassId) (x : Nat) (ro : Nat) (ta : Nat) (no : Nat) (ac : Nat) (im : Nat) (tr : Nat) (pl : Nat) (cs : Nat) (ak : Nat) (n1 : Nat) (n2 : Nat) (n3 : Nat) (n4 : Nat) (n5 : Nat) (k0 : Int32) (k1 : Int32)  : Met l yX7_had wsX7_had ({ frames := 1, cells := 0, slots := 0, locals := 20 }) (va_Pc [.ref x, .int k0, .int k1] (fun U => va_P (dC, dI) vwCl [(x, .inr (7, [.ref ro, .ref ta, .ref no, .ref ac, .ref im, .ref tr, .ref pl, .ref cs, .ref ak, .int 0, .int 0])), (no, .inr (3, [.int 0, .int 0, .int 0, .int 0, .int 0, .int 0, .int 0, .int 0, .ref n1, .ref n2, .ref n3, .ref n4, .ref n5]))] U.heap ∧ va_K (dC, dI) vwCl [(cI, .int), (cZ, .boolean), (cL, .object RX3), (cJ, .array .int)] U)) (vp_Si (fun r => r = (-1000002))) 0 0 (fun _ => False) := by
  refine Met.ofW (cc := cX7_had) (maxL := 3) (ret := (some .int)) (by decide) rfl ?_
  intro p e s m args below meth c s₁ B hml hv
  obtain ⟨rfl, hP, hK⟩ := hv
  have hx := B.exec
  have hb := B.bytes
  have hr := B.returns
  have hts := atoms_spec (ws := wsX7_had) B.pre
  have hown : s.vm.findClass RX7 = some m.cls := findClass_of_methodNamed B.named
  have hlocks := B.notSynchronized
  have hP : va_P (dC, dI) vwCl [(x, .inr (7, [.ref ro, .ref ta, .ref no, .ref ac, .ref im, .ref tr, .ref pl, .ref cs, .ref ak, .int 0, .int 0])), (no, .inr (3, [.int 0, .int 0, .int 0, .int 0, .int 0, .int 0, .int 0, .int 0, .ref n1, .ref n2, .ref n3, .ref n4, .ref n5]))] s.heap := hP
  have hl := lv_entry ([.ref x, .int k0, .int k1]) (n := 3) (Nat.le_of_ble_eq_true rfl)
  rw [lg_entry_eq]
  generalize (lg_sl ([.ref x, .int k0, .int k1]) ++ List.replicate (3 - (lg_sl ([.ref x, .int k0, .int k1])).length) Slot.unset).toArray = ls at hl ⊢
  have hl : lv_has ls 3 [(0, .ref x), (1, .int k0), (2, .int k1)] := hl
  refine lv_aload_n hx hb dX7_had_0 rfl (lv_at hl 0 rfl) ?_
  refine va_get (D := (dC, dI)) (ci := 7) (v := .ref no) (C := RX7) (T := TX7) (N := 11) hx hb hts i_X7_had_X7 hown hK hP 0 rfl rfl 2 (by decide) (hts (.fieldLink RX7 26 "MillTalk" "now" "LMillTalk$Level;") (by decide +kernel)) (fun _ h9 => h9) rfl dX7_had_1 ?_
  have hPc_1 := hP.sub (ws' := [(no, .inr (3, [.int 0, .int 0, .int 0, .int 0, .int 0, .int 0, .int 0, .int 0, .ref n1, .ref n2, .ref n3, .ref n4, .ref n5]))]) [1] rfl
  refine vp_callSi (W.runV (As := []) (rest := []) ⟨hx, hb, hml, hown, hts⟩ (c_X3_isTold l dC dI cI cZ cL cJ no 0 0 0 0 0 0 0 n1 n2 n3 n4 n5 ) (cwV 0 hts gX7_had_X3_isTold rfl rfl rfl (by decide +kernel) ⟨Nat.le_of_ble_eq_true rfl, Nat.le_of_ble_eq_true rfl⟩) ⟨fun a U g mk q => by obtain ⟨q0, qP, qK⟩ := q; exact ⟨q0, qP, va_K.moved (u := U) (U := U.calling g mk a) (Vm.Alike.refl U.vm) qK⟩, va_recv hK hP (ci := 3) (q0 := 1) rfl rfl, fun U hU hW => ⟨rfl, by rw [hU]; exact hPc_1, va_K.moved hW.alike hK⟩⟩ rfl rfl hl.1 rfl (lv_room (Nat.le_of_ble_eq_true rfl)) dX7_had_4 ⟨Nat.le_of_ble_eq_true rfl, Nat.le_of_ble_eq_true rfl⟩) (fun r_1 h_1 => ?_)
  subst h_1
  refine lv_if_ne (tgt := 13) hx hb dX7_had_7 (by decide) (fun c_ => absurd (by decide) c_) (fun _ => ?_)
  refine lv_ldc (own := RX7) (v := (-1000002)) hx hb hown (hts (.constant RX7 141 (-1000002)) (by decide +kernel)) dX7_had_10 ?_
  exact W.iret (v := (-1000002)) hx hb hr (fun t ht hW => ⟨(-1000002), rfl, rfl, ht⟩) (fun _ h => by cases h) dX7_had_12
set_option maxHeartbeats 4000000 in
set_option maxRecDepth 100000 in
theorem c_X7_site (l : Launch) (dC : Nat → ClassId) (dI : Nat → Nat → Nat) (cI cZ cL cJ : ClassId) (x : Nat) (ro : Nat) (ta : Nat) (no : Nat) (ac : Nat) (im : Nat) (tr : Nat) (pl : Nat) (cs : Nat) (ak : Nat) (n1 : Nat) (n2 : Nat) (n3 : Nat) (n4 : Nat) (n5 : Nat) (k0 : Int32) (k1 : Int32)  : Met l yX7_site wsX7_site ({ frames := 1, cells := 0, slots := 0, locals := 20 }) (va_Pc [.ref x, .int k0, .int k1] (fun U => va_P (dC, dI) vwCl [(x, .inr (7, [.ref ro, .ref ta, .ref no, .ref ac, .ref im, .ref tr, .ref pl, .ref cs, .ref ak, .int 0, .int 0])), (no, .inr (3, [.int 0, .int 0, .int 0, .int 0, .int 0, .int 0, .int 0, .int 0, .ref n1, .ref n2, .ref n3, .ref n4, .ref n5]))] U.heap ∧ va_K (dC, dI) vwCl [(cI, .int), (cZ, .boolean), (cL, .object RX3), (cJ, .array .int)] U)) (vp_Si (fun r => r = (-1000002))) 0 0 (fun _ => False) := by
  refine Met.ofW (cc := cX7_site) (maxL := 7) (ret := (some .int)) (by decide) rfl ?_
  intro p e s m args below meth c s₁ B hml hv
  obtain ⟨rfl, hP, hK⟩ := hv
  have hx := B.exec
  have hb := B.bytes
  have hr := B.returns
  have hts := atoms_spec (ws := wsX7_site) B.pre
  have hown : s.vm.findClass RX7 = some m.cls := findClass_of_methodNamed B.named
  have hlocks := B.notSynchronized
  have hP : va_P (dC, dI) vwCl [(x, .inr (7, [.ref ro, .ref ta, .ref no, .ref ac, .ref im, .ref tr, .ref pl, .ref cs, .ref ak, .int 0, .int 0])), (no, .inr (3, [.int 0, .int 0, .int 0, .int 0, .int 0, .int 0, .int 0, .int 0, .ref n1, .ref n2, .ref n3, .ref n4, .ref n5]))] s.heap := hP
  have hl := lv_entry ([.ref x, .int k0, .int k1]) (n := 7) (Nat.le_of_ble_eq_true rfl)
  rw [lg_entry_eq]
  generalize (lg_sl ([.ref x, .int k0, .int k1]) ++ List.replicate (7 - (lg_sl ([.ref x, .int k0, .int k1])).length) Slot.unset).toArray = ls at hl ⊢
  have hl : lv_has ls 7 [(0, .ref x), (1, .int k0), (2, .int k1)] := hl
  refine lv_aload_n hx hb dX7_site_0 rfl (lv_at hl 0 rfl) ?_
  refine va_get (D := (dC, dI)) (ci := 7) (v := .ref no) (C := RX7) (T := TX7) (N := 11) hx hb hts i_X7_site_X7 hown hK hP 0 rfl rfl 2 (by decide) (hts (.fieldLink RX7 26 "MillTalk" "now" "LMillTalk$Level;") (by decide +kernel)) (fun _ h9 => h9) rfl dX7_site_1 ?_
  have hPc_1 := hP.sub (ws' := [(no, .inr (3, [.int 0, .int 0, .int 0, .int 0, .int 0, .int 0, .int 0, .int 0, .ref n1, .ref n2, .ref n3, .ref n4, .ref n5]))]) [1] rfl
  refine vp_callSi (W.runV (As := []) (rest := []) ⟨hx, hb, hml, hown, hts⟩ (c_X3_isTold l dC dI cI cZ cL cJ no 0 0 0 0 0 0 0 n1 n2 n3 n4 n5 ) (cwV 0 hts gX7_site_X3_isTold rfl rfl rfl (by decide +kernel) ⟨Nat.le_of_ble_eq_true rfl, Nat.le_of_ble_eq_true rfl⟩) ⟨fun a U g mk q => by obtain ⟨q0, qP, qK⟩ := q; exact ⟨q0, qP, va_K.moved (u := U) (U := U.calling g mk a) (Vm.Alike.refl U.vm) qK⟩, va_recv hK hP (ci := 3) (q0 := 1) rfl rfl, fun U hU hW => ⟨rfl, by rw [hU]; exact hPc_1, va_K.moved hW.alike hK⟩⟩ rfl rfl hl.1 rfl (lv_room (Nat.le_of_ble_eq_true rfl)) dX7_site_4 ⟨Nat.le_of_ble_eq_true rfl, Nat.le_of_ble_eq_true rfl⟩) (fun r_1 h_1 => ?_)
  subst h_1
  refine lv_if_ne (tgt := 13) hx hb dX7_site_7 (by decide) (fun c_ => absurd (by decide) c_) (fun _ => ?_)
  refine lv_ldc (own := RX7) (v := (-1000002)) hx hb hown (hts (.constant RX7 141 (-1000002)) (by decide +kernel)) dX7_site_10 ?_
  exact W.iret (v := (-1000002)) hx hb hr (fun t ht hW => ⟨(-1000002), rfl, rfl, ht⟩) (fun _ h => by cases h) dX7_site_12
set_option maxHeartbeats 4000000 in
set_option maxRecDepth 100000 in
theorem c_X7_sack (l : Launch) (dC : Nat → ClassId) (dI : Nat → Nat → Nat) (cI cZ cL cJ : ClassId) (x : Nat) (ro : Nat) (ta : Nat) (no : Nat) (ac : Nat) (im : Nat) (tr : Nat) (pl : Nat) (cs : Nat) (ak : Nat) (n1 : Nat) (n2 : Nat) (n3 : Nat) (n4 : Nat) (n5 : Nat) (k0 : Int32) (k1 : Int32)  : Met l yX7_sack wsX7_sack ({ frames := 1, cells := 0, slots := 0, locals := 20 }) (va_Pc [.ref x, .int k0, .int k1] (fun U => va_P (dC, dI) vwCl [(x, .inr (7, [.ref ro, .ref ta, .ref no, .ref ac, .ref im, .ref tr, .ref pl, .ref cs, .ref ak, .int 0, .int 0])), (no, .inr (3, [.int 0, .int 0, .int 0, .int 0, .int 0, .int 0, .int 0, .int 0, .ref n1, .ref n2, .ref n3, .ref n4, .ref n5]))] U.heap ∧ va_K (dC, dI) vwCl [(cI, .int), (cZ, .boolean), (cL, .object RX3), (cJ, .array .int)] U)) (vp_Si (fun r => r = (-1000002))) 0 0 (fun _ => False) := by
  refine Met.ofW (cc := cX7_sack) (maxL := 8) (ret := (some .int)) (by decide) rfl ?_
  intro p e s m args below meth c s₁ B hml hv
  obtain ⟨rfl, hP, hK⟩ := hv
  have hx := B.exec
  have hb := B.bytes
  have hr := B.returns
  have hts := atoms_spec (ws := wsX7_sack) B.pre
  have hown : s.vm.findClass RX7 = some m.cls := findClass_of_methodNamed B.named
  have hlocks := B.notSynchronized
  have hP : va_P (dC, dI) vwCl [(x, .inr (7, [.ref ro, .ref ta, .ref no, .ref ac, .ref im, .ref tr, .ref pl, .ref cs, .ref ak, .int 0, .int 0])), (no, .inr (3, [.int 0, .int 0, .int 0, .int 0, .int 0, .int 0, .int 0, .int 0, .ref n1, .ref n2, .ref n3, .ref n4, .ref n5]))] s.heap := hP
  have hl := lv_entry ([.ref x, .int k0, .int k1]) (n := 8) (Nat.le_of_ble_eq_true rfl)
  rw [lg_entry_eq]
  generalize (lg_sl ([.ref x, .int k0, .int k1]) ++ List.replicate (8 - (lg_sl ([.ref x, .int k0, .int k1])).length) Slot.unset).toArray = ls at hl ⊢
  have hl : lv_has ls 8 [(0, .ref x), (1, .int k0), (2, .int k1)] := hl
  refine lv_aload_n hx hb dX7_sack_0 rfl (lv_at hl 0 rfl) ?_
  refine va_get (D := (dC, dI)) (ci := 7) (v := .ref no) (C := RX7) (T := TX7) (N := 11) hx hb hts i_X7_sack_X7 hown hK hP 0 rfl rfl 2 (by decide) (hts (.fieldLink RX7 26 "MillTalk" "now" "LMillTalk$Level;") (by decide +kernel)) (fun _ h9 => h9) rfl dX7_sack_1 ?_
  have hPc_1 := hP.sub (ws' := [(no, .inr (3, [.int 0, .int 0, .int 0, .int 0, .int 0, .int 0, .int 0, .int 0, .ref n1, .ref n2, .ref n3, .ref n4, .ref n5]))]) [1] rfl
  refine vp_callSi (W.runV (As := []) (rest := []) ⟨hx, hb, hml, hown, hts⟩ (c_X3_isTold l dC dI cI cZ cL cJ no 0 0 0 0 0 0 0 n1 n2 n3 n4 n5 ) (cwV 0 hts gX7_sack_X3_isTold rfl rfl rfl (by decide +kernel) ⟨Nat.le_of_ble_eq_true rfl, Nat.le_of_ble_eq_true rfl⟩) ⟨fun a U g mk q => by obtain ⟨q0, qP, qK⟩ := q; exact ⟨q0, qP, va_K.moved (u := U) (U := U.calling g mk a) (Vm.Alike.refl U.vm) qK⟩, va_recv hK hP (ci := 3) (q0 := 1) rfl rfl, fun U hU hW => ⟨rfl, by rw [hU]; exact hPc_1, va_K.moved hW.alike hK⟩⟩ rfl rfl hl.1 rfl (lv_room (Nat.le_of_ble_eq_true rfl)) dX7_sack_4 ⟨Nat.le_of_ble_eq_true rfl, Nat.le_of_ble_eq_true rfl⟩) (fun r_1 h_1 => ?_)
  subst h_1
  refine lv_if_ne (tgt := 13) hx hb dX7_sack_7 (by decide) (fun c_ => absurd (by decide) c_) (fun _ => ?_)
  refine lv_ldc (own := RX7) (v := (-1000002)) hx hb hown (hts (.constant RX7 141 (-1000002)) (by decide +kernel)) dX7_sack_10 ?_
  exact W.iret (v := (-1000002)) hx hb hr (fun t ht hW => ⟨(-1000002), rfl, rfl, ht⟩) (fun _ h => by cases h) dX7_sack_12
set_option maxHeartbeats 4000000 in
set_option maxRecDepth 100000 in
theorem c_X7_share (l : Launch) (dC : Nat → ClassId) (dI : Nat → Nat → Nat) (cI cZ cL cJ : ClassId) (x : Nat) (ro : Nat) (ta : Nat) (no : Nat) (ac : Nat) (im : Nat) (tr : Nat) (pl : Nat) (cs : Nat) (ak : Nat) (n1 : Nat) (n2 : Nat) (n3 : Nat) (n4 : Nat) (n5 : Nat) (k0 : Int32) (k1 : Int32)  : Met l yX7_share wsX7_share ({ frames := 1, cells := 0, slots := 0, locals := 21 }) (va_Pc [.ref x, .int k0, .int k1] (fun U => va_P (dC, dI) vwCl [(x, .inr (7, [.ref ro, .ref ta, .ref no, .ref ac, .ref im, .ref tr, .ref pl, .ref cs, .ref ak, .int 0, .int 0])), (no, .inr (3, [.int 0, .int 0, .int 0, .int 0, .int 0, .int 0, .int 0, .int 0, .ref n1, .ref n2, .ref n3, .ref n4, .ref n5]))] U.heap ∧ va_K (dC, dI) vwCl [(cI, .int), (cZ, .boolean), (cL, .object RX3), (cJ, .array .int)] U)) (vp_Si (fun r => r = (-1000001))) 0 0 (fun _ => False) := by
  refine Met.ofW (cc := cX7_share) (maxL := 7) (ret := (some .int)) (by decide) rfl ?_
  intro p e s m args below meth c s₁ B hml hv
  obtain ⟨rfl, hP, hK⟩ := hv
  have hx := B.exec
  have hb := B.bytes
  have hr := B.returns
  have hts := atoms_spec (ws := wsX7_share) B.pre
  have hown : s.vm.findClass RX7 = some m.cls := findClass_of_methodNamed B.named
  have hlocks := B.notSynchronized
  have hP : va_P (dC, dI) vwCl [(x, .inr (7, [.ref ro, .ref ta, .ref no, .ref ac, .ref im, .ref tr, .ref pl, .ref cs, .ref ak, .int 0, .int 0])), (no, .inr (3, [.int 0, .int 0, .int 0, .int 0, .int 0, .int 0, .int 0, .int 0, .ref n1, .ref n2, .ref n3, .ref n4, .ref n5]))] s.heap := hP
  have hl := lv_entry ([.ref x, .int k0, .int k1]) (n := 7) (Nat.le_of_ble_eq_true rfl)
  rw [lg_entry_eq]
  generalize (lg_sl ([.ref x, .int k0, .int k1]) ++ List.replicate (7 - (lg_sl ([.ref x, .int k0, .int k1])).length) Slot.unset).toArray = ls at hl ⊢
  have hl : lv_has ls 7 [(0, .ref x), (1, .int k0), (2, .int k1)] := hl
  refine lv_aload_n hx hb dX7_share_0 rfl (lv_at hl 0 rfl) ?_
  refine va_get (D := (dC, dI)) (ci := 7) (v := .ref no) (C := RX7) (T := TX7) (N := 11) hx hb hts i_X7_share_X7 hown hK hP 0 rfl rfl 2 (by decide) (hts (.fieldLink RX7 26 "MillTalk" "now" "LMillTalk$Level;") (by decide +kernel)) (fun _ h9 => h9) rfl dX7_share_1 ?_
  refine lv_iload_n hx hb dX7_share_4 rfl (lv_at hl 1 rfl) ?_
  have hPc_1 := hP.sub (ws' := [(no, .inr (3, [.int 0, .int 0, .int 0, .int 0, .int 0, .int 0, .int 0, .int 0, .ref n1, .ref n2, .ref n3, .ref n4, .ref n5]))]) [1] rfl
  refine vp_callSi (W.runV (As := [.int k0]) (rest := []) ⟨hx, hb, hml, hown, hts⟩ (c_X3_hasSound l dC dI cI cZ cL cJ no 0 0 0 0 0 0 0 n1 n2 n3 n4 n5 k0 ) (cwV 1 hts gX7_share_X3_hasSound rfl rfl rfl (by decide +kernel) ⟨Nat.le_of_ble_eq_true rfl, Nat.le_of_ble_eq_true rfl⟩) ⟨fun a U g mk q => by obtain ⟨q0, qP, qK⟩ := q; exact ⟨q0, qP, va_K.moved (u := U) (U := U.calling g mk a) (Vm.Alike.refl U.vm) qK⟩, va_recv hK hP (ci := 3) (q0 := 1) rfl rfl, fun U hU hW => ⟨rfl, by rw [hU]; exact hPc_1, va_K.moved hW.alike hK⟩⟩ rfl rfl hl.1 rfl (lv_room (Nat.le_of_ble_eq_true rfl)) dX7_share_5 ⟨Nat.le_of_ble_eq_true rfl, Nat.le_of_ble_eq_true rfl⟩) (fun r_1 h_1 => ?_)
  subst h_1
  refine lv_if_eq (tgt := 22) hx hb dX7_share_8 (by decide) (fun _ => ?_) (fun c_ => absurd (by decide) c_)
  refine lv_ldc (own := RX7) (v := (-1000001)) hx hb hown (hts (.constant RX7 72 (-1000001)) (by decide +kernel)) dX7_share_22 ?_
  exact W.iret (v := (-1000001)) hx hb hr (fun t ht hW => ⟨(-1000001), rfl, rfl, ht⟩) (fun _ h => by cases h) dX7_share_24
set_option maxHeartbeats 4000000 in
set_option maxRecDepth 100000 in
theorem c_X7_byTurns (l : Launch) (dC : Nat → ClassId) (dI : Nat → Nat → Nat) (cI cZ cL cJ : ClassId) (x : Nat) (ro : Nat) (ta : Nat) (no : Nat) (ac : Nat) (im : Nat) (tr : Nat) (pl : Nat) (cs : Nat) (ak : Nat) (n1 : Nat) (n2 : Nat) (n3 : Nat) (n4 : Nat) (n5 : Nat) (k0 : Int32) (k1 : Int32)  : Met l yX7_byTurns wsX7_byTurns ({ frames := 1, cells := 0, slots := 0, locals := 20 }) (va_Pc [.ref x, .int k0, .int k1] (fun U => va_P (dC, dI) vwCl [(x, .inr (7, [.ref ro, .ref ta, .ref no, .ref ac, .ref im, .ref tr, .ref pl, .ref cs, .ref ak, .int 0, .int 0])), (no, .inr (3, [.int 0, .int 0, .int 0, .int 0, .int 0, .int 0, .int 0, .int 0, .ref n1, .ref n2, .ref n3, .ref n4, .ref n5]))] U.heap ∧ va_K (dC, dI) vwCl [(cI, .int), (cZ, .boolean), (cL, .object RX3), (cJ, .array .int)] U)) (vp_Si (fun r => r = (-1000002))) 0 0 (fun _ => False) := by
  refine Met.ofW (cc := cX7_byTurns) (maxL := 3) (ret := (some .int)) (by decide) rfl ?_
  intro p e s m args below meth c s₁ B hml hv
  obtain ⟨rfl, hP, hK⟩ := hv
  have hx := B.exec
  have hb := B.bytes
  have hr := B.returns
  have hts := atoms_spec (ws := wsX7_byTurns) B.pre
  have hown : s.vm.findClass RX7 = some m.cls := findClass_of_methodNamed B.named
  have hlocks := B.notSynchronized
  have hP : va_P (dC, dI) vwCl [(x, .inr (7, [.ref ro, .ref ta, .ref no, .ref ac, .ref im, .ref tr, .ref pl, .ref cs, .ref ak, .int 0, .int 0])), (no, .inr (3, [.int 0, .int 0, .int 0, .int 0, .int 0, .int 0, .int 0, .int 0, .ref n1, .ref n2, .ref n3, .ref n4, .ref n5]))] s.heap := hP
  have hl := lv_entry ([.ref x, .int k0, .int k1]) (n := 3) (Nat.le_of_ble_eq_true rfl)
  rw [lg_entry_eq]
  generalize (lg_sl ([.ref x, .int k0, .int k1]) ++ List.replicate (3 - (lg_sl ([.ref x, .int k0, .int k1])).length) Slot.unset).toArray = ls at hl ⊢
  have hl : lv_has ls 3 [(0, .ref x), (1, .int k0), (2, .int k1)] := hl
  refine lv_aload_n hx hb dX7_byTurns_0 rfl (lv_at hl 0 rfl) ?_
  refine va_get (D := (dC, dI)) (ci := 7) (v := .ref no) (C := RX7) (T := TX7) (N := 11) hx hb hts i_X7_byTurns_X7 hown hK hP 0 rfl rfl 2 (by decide) (hts (.fieldLink RX7 26 "MillTalk" "now" "LMillTalk$Level;") (by decide +kernel)) (fun _ h9 => h9) rfl dX7_byTurns_1 ?_
  have hPc_1 := hP.sub (ws' := [(no, .inr (3, [.int 0, .int 0, .int 0, .int 0, .int 0, .int 0, .int 0, .int 0, .ref n1, .ref n2, .ref n3, .ref n4, .ref n5]))]) [1] rfl
  refine vp_callSi (W.runV (As := []) (rest := []) ⟨hx, hb, hml, hown, hts⟩ (c_X3_isTold l dC dI cI cZ cL cJ no 0 0 0 0 0 0 0 n1 n2 n3 n4 n5 ) (cwV 0 hts gX7_byTurns_X3_isTold rfl rfl rfl (by decide +kernel) ⟨Nat.le_of_ble_eq_true rfl, Nat.le_of_ble_eq_true rfl⟩) ⟨fun a U g mk q => by obtain ⟨q0, qP, qK⟩ := q; exact ⟨q0, qP, va_K.moved (u := U) (U := U.calling g mk a) (Vm.Alike.refl U.vm) qK⟩, va_recv hK hP (ci := 3) (q0 := 1) rfl rfl, fun U hU hW => ⟨rfl, by rw [hU]; exact hPc_1, va_K.moved hW.alike hK⟩⟩ rfl rfl hl.1 rfl (lv_room (Nat.le_of_ble_eq_true rfl)) dX7_byTurns_4 ⟨Nat.le_of_ble_eq_true rfl, Nat.le_of_ble_eq_true rfl⟩) (fun r_1 h_1 => ?_)
  subst h_1
  refine lv_if_ne (tgt := 13) hx hb dX7_byTurns_7 (by decide) (fun c_ => absurd (by decide) c_) (fun _ => ?_)
  refine lv_ldc (own := RX7) (v := (-1000002)) hx hb hown (hts (.constant RX7 141 (-1000002)) (by decide +kernel)) dX7_byTurns_10 ?_
  exact W.iret (v := (-1000002)) hx hb hr (fun t ht hW => ⟨(-1000002), rfl, rfl, ht⟩) (fun _ h => by cases h) dX7_byTurns_12
set_option maxHeartbeats 4000000 in
set_option maxRecDepth 100000 in
theorem c_X7_who (l : Launch) (dC : Nat → ClassId) (dI : Nat → Nat → Nat) (cI cZ cL cJ : ClassId) (x : Nat) (ro : Nat) (ta : Nat) (no : Nat) (ac : Nat) (im : Nat) (tr : Nat) (pl : Nat) (cs : Nat) (ak : Nat) (n1 : Nat) (n2 : Nat) (n3 : Nat) (n4 : Nat) (n5 : Nat) (k0 : Int32) (k1 : Int32) (k2 : Int32) (k3 : Int32) (k4 : Int32)  : Met l yX7_who wsX7_who ({ frames := 1, cells := 0, slots := 0, locals := 21 }) (va_Pc [.ref x, .int k0, .int k1, .int k2, .int k3, .int k4] (fun U => va_P (dC, dI) vwCl [(x, .inr (7, [.ref ro, .ref ta, .ref no, .ref ac, .ref im, .ref tr, .ref pl, .ref cs, .ref ak, .int 0, .int 0])), (no, .inr (3, [.int 0, .int 0, .int 0, .int 0, .int 0, .int 0, .int 0, .int 0, .ref n1, .ref n2, .ref n3, .ref n4, .ref n5]))] U.heap ∧ va_K (dC, dI) vwCl [(cI, .int), (cZ, .boolean), (cL, .object RX3), (cJ, .array .int)] U)) (vp_Si (fun r => r = (-1000001))) 0 0 (fun _ => False) := by
  refine Met.ofW (cc := cX7_who) (maxL := 7) (ret := (some .int)) (by decide) rfl ?_
  intro p e s m args below meth c s₁ B hml hv
  obtain ⟨rfl, hP, hK⟩ := hv
  have hx := B.exec
  have hb := B.bytes
  have hr := B.returns
  have hts := atoms_spec (ws := wsX7_who) B.pre
  have hown : s.vm.findClass RX7 = some m.cls := findClass_of_methodNamed B.named
  have hlocks := B.notSynchronized
  have hP : va_P (dC, dI) vwCl [(x, .inr (7, [.ref ro, .ref ta, .ref no, .ref ac, .ref im, .ref tr, .ref pl, .ref cs, .ref ak, .int 0, .int 0])), (no, .inr (3, [.int 0, .int 0, .int 0, .int 0, .int 0, .int 0, .int 0, .int 0, .ref n1, .ref n2, .ref n3, .ref n4, .ref n5]))] s.heap := hP
  have hl := lv_entry ([.ref x, .int k0, .int k1, .int k2, .int k3, .int k4]) (n := 7) (Nat.le_of_ble_eq_true rfl)
  rw [lg_entry_eq]
  generalize (lg_sl ([.ref x, .int k0, .int k1, .int k2, .int k3, .int k4]) ++ List.replicate (7 - (lg_sl ([.ref x, .int k0, .int k1, .int k2, .int k3, .int k4])).length) Slot.unset).toArray = ls at hl ⊢
  have hl : lv_has ls 7 [(0, .ref x), (1, .int k0), (2, .int k1), (3, .int k2), (4, .int k3), (5, .int k4)] := hl
  refine lv_aload_n hx hb dX7_who_0 rfl (lv_at hl 0 rfl) ?_
  refine va_get (D := (dC, dI)) (ci := 7) (v := .ref no) (C := RX7) (T := TX7) (N := 11) hx hb hts i_X7_who_X7 hown hK hP 0 rfl rfl 2 (by decide) (hts (.fieldLink RX7 26 "MillTalk" "now" "LMillTalk$Level;") (by decide +kernel)) (fun _ h9 => h9) rfl dX7_who_1 ?_
  refine lv_iload_n hx hb dX7_who_4 rfl (lv_at hl 1 rfl) ?_
  have hPc_1 := hP.sub (ws' := [(no, .inr (3, [.int 0, .int 0, .int 0, .int 0, .int 0, .int 0, .int 0, .int 0, .ref n1, .ref n2, .ref n3, .ref n4, .ref n5]))]) [1] rfl
  refine vp_callSi (W.runV (As := [.int k0]) (rest := []) ⟨hx, hb, hml, hown, hts⟩ (c_X3_hasSound l dC dI cI cZ cL cJ no 0 0 0 0 0 0 0 n1 n2 n3 n4 n5 k0 ) (cwV 1 hts gX7_who_X3_hasSound rfl rfl rfl (by decide +kernel) ⟨Nat.le_of_ble_eq_true rfl, Nat.le_of_ble_eq_true rfl⟩) ⟨fun a U g mk q => by obtain ⟨q0, qP, qK⟩ := q; exact ⟨q0, qP, va_K.moved (u := U) (U := U.calling g mk a) (Vm.Alike.refl U.vm) qK⟩, va_recv hK hP (ci := 3) (q0 := 1) rfl rfl, fun U hU hW => ⟨rfl, by rw [hU]; exact hPc_1, va_K.moved hW.alike hK⟩⟩ rfl rfl hl.1 rfl (lv_room (Nat.le_of_ble_eq_true rfl)) dX7_who_5 ⟨Nat.le_of_ble_eq_true rfl, Nat.le_of_ble_eq_true rfl⟩) (fun r_1 h_1 => ?_)
  subst h_1
  refine lv_if_eq (tgt := 29) hx hb dX7_who_8 (by decide) (fun _ => ?_) (fun c_ => absurd (by decide) c_)
  refine lv_ldc (own := RX7) (v := (-1000001)) hx hb hown (hts (.constant RX7 72 (-1000001)) (by decide +kernel)) dX7_who_29 ?_
  exact W.iret (v := (-1000001)) hx hb hr (fun t ht hW => ⟨(-1000001), rfl, rfl, ht⟩) (fun _ h => by cases h) dX7_who_31
set_option maxHeartbeats 4000000 in
set_option maxRecDepth 100000 in
theorem c_X7_gusts (l : Launch) (dC : Nat → ClassId) (dI : Nat → Nat → Nat) (cI cZ cL cJ : ClassId) (x : Nat) (ro : Nat) (ta : Nat) (no : Nat) (ac : Nat) (im : Nat) (tr : Nat) (pl : Nat) (cs : Nat) (ak : Nat) (n1 : Nat) (n2 : Nat) (n3 : Nat) (n4 : Nat) (n5 : Nat) (k0 : Int32) (k1 : Int32) (k2 : Int32) (k3 : Int32) (k4 : Int32)  : Met l yX7_gusts wsX7_gusts ({ frames := 1, cells := 0, slots := 0, locals := 21 }) (va_Pc [.ref x, .int k0, .int k1, .int k2, .int k3, .int k4] (fun U => va_P (dC, dI) vwCl [(x, .inr (7, [.ref ro, .ref ta, .ref no, .ref ac, .ref im, .ref tr, .ref pl, .ref cs, .ref ak, .int 0, .int 0])), (no, .inr (3, [.int 0, .int 0, .int 0, .int 0, .int 0, .int 0, .int 0, .int 0, .ref n1, .ref n2, .ref n3, .ref n4, .ref n5]))] U.heap ∧ va_K (dC, dI) vwCl [(cI, .int), (cZ, .boolean), (cL, .object RX3), (cJ, .array .int)] U)) (vp_Si (fun r => r = (-1000001))) 0 0 (fun _ => False) := by
  refine Met.ofW (cc := cX7_gusts) (maxL := 7) (ret := (some .int)) (by decide) rfl ?_
  intro p e s m args below meth c s₁ B hml hv
  obtain ⟨rfl, hP, hK⟩ := hv
  have hx := B.exec
  have hb := B.bytes
  have hr := B.returns
  have hts := atoms_spec (ws := wsX7_gusts) B.pre
  have hown : s.vm.findClass RX7 = some m.cls := findClass_of_methodNamed B.named
  have hlocks := B.notSynchronized
  have hP : va_P (dC, dI) vwCl [(x, .inr (7, [.ref ro, .ref ta, .ref no, .ref ac, .ref im, .ref tr, .ref pl, .ref cs, .ref ak, .int 0, .int 0])), (no, .inr (3, [.int 0, .int 0, .int 0, .int 0, .int 0, .int 0, .int 0, .int 0, .ref n1, .ref n2, .ref n3, .ref n4, .ref n5]))] s.heap := hP
  have hl := lv_entry ([.ref x, .int k0, .int k1, .int k2, .int k3, .int k4]) (n := 7) (Nat.le_of_ble_eq_true rfl)
  rw [lg_entry_eq]
  generalize (lg_sl ([.ref x, .int k0, .int k1, .int k2, .int k3, .int k4]) ++ List.replicate (7 - (lg_sl ([.ref x, .int k0, .int k1, .int k2, .int k3, .int k4])).length) Slot.unset).toArray = ls at hl ⊢
  have hl : lv_has ls 7 [(0, .ref x), (1, .int k0), (2, .int k1), (3, .int k2), (4, .int k3), (5, .int k4)] := hl
  refine lv_iload_n hx hb dX7_gusts_0 rfl (lv_at hl 1 rfl) ?_
  refine lv_iconst (v := (-1)) hx hb dX7_gusts_1 (by decide) ?_
  refine lv_icmp_eq (tgt := 16) hx hb dX7_gusts_2 (by decide) (fun c_1 => ?_) (fun c_1 => ?_)
  · skip
    refine lv_aload_n hx hb dX7_gusts_16 rfl (lv_at hl 0 rfl) ?_
    refine va_get (D := (dC, dI)) (ci := 7) (v := .ref no) (C := RX7) (T := TX7) (N := 11) hx hb hts i_X7_gusts_X7 hown hK hP 0 rfl rfl 2 (by decide) (hts (.fieldLink RX7 26 "MillTalk" "now" "LMillTalk$Level;") (by decide +kernel)) (fun _ h9 => h9) rfl dX7_gusts_17 ?_
    refine lv_iload_n hx hb dX7_gusts_20 rfl (lv_at hl 2 rfl) ?_
    have hPc_2 := hP.sub (ws' := [(no, .inr (3, [.int 0, .int 0, .int 0, .int 0, .int 0, .int 0, .int 0, .int 0, .ref n1, .ref n2, .ref n3, .ref n4, .ref n5]))]) [1] rfl
    refine vp_callSi (W.runV (As := [.int k1]) (rest := []) ⟨hx, hb, hml, hown, hts⟩ (c_X3_hasSound l dC dI cI cZ cL cJ no 0 0 0 0 0 0 0 n1 n2 n3 n4 n5 k1 ) (cwV 1 hts gX7_gusts_X3_hasSound rfl rfl rfl (by decide +kernel) ⟨Nat.le_of_ble_eq_true rfl, Nat.le_of_ble_eq_true rfl⟩) ⟨fun a U g mk q => by obtain ⟨q0, qP, qK⟩ := q; exact ⟨q0, qP, va_K.moved (u := U) (U := U.calling g mk a) (Vm.Alike.refl U.vm) qK⟩, va_recv hK hP (ci := 3) (q0 := 1) rfl rfl, fun U hU hW => ⟨rfl, by rw [hU]; exact hPc_2, va_K.moved hW.alike hK⟩⟩ rfl rfl hl.1 rfl (lv_room (Nat.le_of_ble_eq_true rfl)) dX7_gusts_21 ⟨Nat.le_of_ble_eq_true rfl, Nat.le_of_ble_eq_true rfl⟩) (fun r_2 h_2 => ?_)
    subst h_2
    refine lv_if_eq (tgt := 36) hx hb dX7_gusts_24 (by decide) (fun _ => ?_) (fun c_ => absurd (by decide) c_)
    refine lv_ldc (own := RX7) (v := (-1000001)) hx hb hown (hts (.constant RX7 72 (-1000001)) (by decide +kernel)) dX7_gusts_36 ?_
    exact W.iret (v := (-1000001)) hx hb hr (fun t ht hW => ⟨(-1000001), rfl, rfl, ht⟩) (fun _ h => by cases h) dX7_gusts_38
  · skip
    refine lv_aload_n hx hb dX7_gusts_5 rfl (lv_at hl 0 rfl) ?_
    refine va_get (D := (dC, dI)) (ci := 7) (v := .ref no) (C := RX7) (T := TX7) (N := 11) hx hb hts i_X7_gusts_X7 hown hK hP 0 rfl rfl 2 (by decide) (hts (.fieldLink RX7 26 "MillTalk" "now" "LMillTalk$Level;") (by decide +kernel)) (fun _ h9 => h9) rfl dX7_gusts_6 ?_
    refine lv_iload_n hx hb dX7_gusts_9 rfl (lv_at hl 1 rfl) ?_
    have hPc_4 := hP.sub (ws' := [(no, .inr (3, [.int 0, .int 0, .int 0, .int 0, .int 0, .int 0, .int 0, .int 0, .ref n1, .ref n2, .ref n3, .ref n4, .ref n5]))]) [1] rfl
    refine vp_callSi (W.runV (As := [.int k0]) (rest := []) ⟨hx, hb, hml, hown, hts⟩ (c_X3_hasWind l dC dI cI cZ cL cJ no 0 0 0 0 0 0 0 n1 n2 n3 n4 n5 k0 ) (cwV 1 hts gX7_gusts_X3_hasWind rfl rfl rfl (by decide +kernel) ⟨Nat.le_of_ble_eq_true rfl, Nat.le_of_ble_eq_true rfl⟩) ⟨fun a U g mk q => by obtain ⟨q0, qP, qK⟩ := q; exact ⟨q0, qP, va_K.moved (u := U) (U := U.calling g mk a) (Vm.Alike.refl U.vm) qK⟩, va_recv hK hP (ci := 3) (q0 := 1) rfl rfl, fun U hU hW => ⟨rfl, by rw [hU]; exact hPc_4, va_K.moved hW.alike hK⟩⟩ rfl rfl hl.1 rfl (lv_room (Nat.le_of_ble_eq_true rfl)) dX7_gusts_10 ⟨Nat.le_of_ble_eq_true rfl, Nat.le_of_ble_eq_true rfl⟩) (fun r_4 h_4 => ?_)
    subst h_4
    refine lv_if_eq (tgt := 36) hx hb dX7_gusts_13 (by decide) (fun _ => ?_) (fun c_ => absurd (by decide) c_)
    refine lv_ldc (own := RX7) (v := (-1000001)) hx hb hown (hts (.constant RX7 72 (-1000001)) (by decide +kernel)) dX7_gusts_36 ?_
    exact W.iret (v := (-1000001)) hx hb hr (fun t ht hW => ⟨(-1000001), rfl, rfl, ht⟩) (fun _ h => by cases h) dX7_gusts_38
set_option maxHeartbeats 4000000 in
set_option maxRecDepth 100000 in
theorem c_X7_drawn (l : Launch) (dC : Nat → ClassId) (dI : Nat → Nat → Nat) (cI cZ cL cJ : ClassId) (x : Nat) (ro : Nat) (ta : Nat) (no : Nat) (ac : Nat) (im : Nat) (tr : Nat) (pl : Nat) (cs : Nat) (ak : Nat) (n1 : Nat) (n2 : Nat) (n3 : Nat) (n4 : Nat) (n5 : Nat) (k0 : Int32) (k1 : Int32) (k2 : Int32)  : Met l yX7_drawn wsX7_drawn ({ frames := 1, cells := 0, slots := 0, locals := 20 }) (va_Pc [.ref x, .int k0, .int k1, .int k2] (fun U => va_P (dC, dI) vwCl [(x, .inr (7, [.ref ro, .ref ta, .ref no, .ref ac, .ref im, .ref tr, .ref pl, .ref cs, .ref ak, .int 0, .int 0])), (no, .inr (3, [.int 0, .int 0, .int 0, .int 0, .int 0, .int 0, .int 0, .int 0, .ref n1, .ref n2, .ref n3, .ref n4, .ref n5]))] U.heap ∧ va_K (dC, dI) vwCl [(cI, .int), (cZ, .boolean), (cL, .object RX3), (cJ, .array .int)] U)) (vp_Si (fun r => r = (-1000002))) 0 0 (fun _ => False) := by
  refine Met.ofW (cc := cX7_drawn) (maxL := 7) (ret := (some .int)) (by decide) rfl ?_
  intro p e s m args below meth c s₁ B hml hv
  obtain ⟨rfl, hP, hK⟩ := hv
  have hx := B.exec
  have hb := B.bytes
  have hr := B.returns
  have hts := atoms_spec (ws := wsX7_drawn) B.pre
  have hown : s.vm.findClass RX7 = some m.cls := findClass_of_methodNamed B.named
  have hlocks := B.notSynchronized
  have hP : va_P (dC, dI) vwCl [(x, .inr (7, [.ref ro, .ref ta, .ref no, .ref ac, .ref im, .ref tr, .ref pl, .ref cs, .ref ak, .int 0, .int 0])), (no, .inr (3, [.int 0, .int 0, .int 0, .int 0, .int 0, .int 0, .int 0, .int 0, .ref n1, .ref n2, .ref n3, .ref n4, .ref n5]))] s.heap := hP
  have hl := lv_entry ([.ref x, .int k0, .int k1, .int k2]) (n := 7) (Nat.le_of_ble_eq_true rfl)
  rw [lg_entry_eq]
  generalize (lg_sl ([.ref x, .int k0, .int k1, .int k2]) ++ List.replicate (7 - (lg_sl ([.ref x, .int k0, .int k1, .int k2])).length) Slot.unset).toArray = ls at hl ⊢
  have hl : lv_has ls 7 [(0, .ref x), (1, .int k0), (2, .int k1), (3, .int k2)] := hl
  refine lv_aload_n hx hb dX7_drawn_0 rfl (lv_at hl 0 rfl) ?_
  refine va_get (D := (dC, dI)) (ci := 7) (v := .ref no) (C := RX7) (T := TX7) (N := 11) hx hb hts i_X7_drawn_X7 hown hK hP 0 rfl rfl 2 (by decide) (hts (.fieldLink RX7 26 "MillTalk" "now" "LMillTalk$Level;") (by decide +kernel)) (fun _ h9 => h9) rfl dX7_drawn_1 ?_
  have hPc_1 := hP.sub (ws' := [(no, .inr (3, [.int 0, .int 0, .int 0, .int 0, .int 0, .int 0, .int 0, .int 0, .ref n1, .ref n2, .ref n3, .ref n4, .ref n5]))]) [1] rfl
  refine vp_callSi (W.runV (As := []) (rest := []) ⟨hx, hb, hml, hown, hts⟩ (c_X3_isTold l dC dI cI cZ cL cJ no 0 0 0 0 0 0 0 n1 n2 n3 n4 n5 ) (cwV 0 hts gX7_drawn_X3_isTold rfl rfl rfl (by decide +kernel) ⟨Nat.le_of_ble_eq_true rfl, Nat.le_of_ble_eq_true rfl⟩) ⟨fun a U g mk q => by obtain ⟨q0, qP, qK⟩ := q; exact ⟨q0, qP, va_K.moved (u := U) (U := U.calling g mk a) (Vm.Alike.refl U.vm) qK⟩, va_recv hK hP (ci := 3) (q0 := 1) rfl rfl, fun U hU hW => ⟨rfl, by rw [hU]; exact hPc_1, va_K.moved hW.alike hK⟩⟩ rfl rfl hl.1 rfl (lv_room (Nat.le_of_ble_eq_true rfl)) dX7_drawn_4 ⟨Nat.le_of_ble_eq_true rfl, Nat.le_of_ble_eq_true rfl⟩) (fun r_1 h_1 => ?_)
  subst h_1
  refine lv_if_ne (tgt := 13) hx hb dX7_drawn_7 (by decide) (fun c_ => absurd (by decide) c_) (fun _ => ?_)
  refine lv_ldc (own := RX7) (v := (-1000002)) hx hb hown (hts (.constant RX7 141 (-1000002)) (by decide +kernel)) dX7_drawn_10 ?_
  exact W.iret (v := (-1000002)) hx hb hr (fun t ht hW => ⟨(-1000002), rfl, rfl, ht⟩) (fun _ h => by cases h) dX7_drawn_12
set_option maxHeartbeats 4000000 in
set_option maxRecDepth 100000 in
theorem c_X7_kind (l : Launch) (dC : Nat → ClassId) (dI : Nat → Nat → Nat) (cI cZ cL cJ : ClassId) (x : Nat) (ro : Nat) (ta : Nat) (no : Nat) (ac : Nat) (im : Nat) (tr : Nat) (pl : Nat) (cs : Nat) (ak : Nat) (n1 : Nat) (n2 : Nat) (n3 : Nat) (n4 : Nat) (n5 : Nat) (k0 : Int32)  : Met l yX7_kind wsX7_kind ({ frames := 1, cells := 0, slots := 0, locals := 21 }) (va_Pc [.ref x, .int k0] (fun U => va_P (dC, dI) vwCl [(x, .inr (7, [.ref ro, .ref ta, .ref no, .ref ac, .ref im, .ref tr, .ref pl, .ref cs, .ref ak, .int 0, .int 0])), (no, .inr (3, [.int 0, .int 0, .int 0, .int 0, .int 0, .int 0, .int 0, .int 0, .ref n1, .ref n2, .ref n3, .ref n4, .ref n5]))] U.heap ∧ va_K (dC, dI) vwCl [(cI, .int), (cZ, .boolean), (cL, .object RX3), (cJ, .array .int)] U)) (vp_Si (fun r => r = (-1000001))) 0 0 (fun _ => False) := by
  refine Met.ofW (cc := cX7_kind) (maxL := 2) (ret := (some .int)) (by decide) rfl ?_
  intro p e s m args below meth c s₁ B hml hv
  obtain ⟨rfl, hP, hK⟩ := hv
  have hx := B.exec
  have hb := B.bytes
  have hr := B.returns
  have hts := atoms_spec (ws := wsX7_kind) B.pre
  have hown : s.vm.findClass RX7 = some m.cls := findClass_of_methodNamed B.named
  have hlocks := B.notSynchronized
  have hP : va_P (dC, dI) vwCl [(x, .inr (7, [.ref ro, .ref ta, .ref no, .ref ac, .ref im, .ref tr, .ref pl, .ref cs, .ref ak, .int 0, .int 0])), (no, .inr (3, [.int 0, .int 0, .int 0, .int 0, .int 0, .int 0, .int 0, .int 0, .ref n1, .ref n2, .ref n3, .ref n4, .ref n5]))] s.heap := hP
  have hl := lv_entry ([.ref x, .int k0]) (n := 2) (Nat.le_of_ble_eq_true rfl)
  rw [lg_entry_eq]
  generalize (lg_sl ([.ref x, .int k0]) ++ List.replicate (2 - (lg_sl ([.ref x, .int k0])).length) Slot.unset).toArray = ls at hl ⊢
  have hl : lv_has ls 2 [(0, .ref x), (1, .int k0)] := hl
  refine lv_aload_n hx hb dX7_kind_0 rfl (lv_at hl 0 rfl) ?_
  refine va_get (D := (dC, dI)) (ci := 7) (v := .ref no) (C := RX7) (T := TX7) (N := 11) hx hb hts i_X7_kind_X7 hown hK hP 0 rfl rfl 2 (by decide) (hts (.fieldLink RX7 26 "MillTalk" "now" "LMillTalk$Level;") (by decide +kernel)) (fun _ h9 => h9) rfl dX7_kind_1 ?_
  refine lv_iload_n hx hb dX7_kind_4 rfl (lv_at hl 1 rfl) ?_
  have hPc_1 := hP.sub (ws' := [(no, .inr (3, [.int 0, .int 0, .int 0, .int 0, .int 0, .int 0, .int 0, .int 0, .ref n1, .ref n2, .ref n3, .ref n4, .ref n5]))]) [1] rfl
  refine vp_callSi (W.runV (As := [.int k0]) (rest := []) ⟨hx, hb, hml, hown, hts⟩ (c_X3_hasSound l dC dI cI cZ cL cJ no 0 0 0 0 0 0 0 n1 n2 n3 n4 n5 k0 ) (cwV 1 hts gX7_kind_X3_hasSound rfl rfl rfl (by decide +kernel) ⟨Nat.le_of_ble_eq_true rfl, Nat.le_of_ble_eq_true rfl⟩) ⟨fun a U g mk q => by obtain ⟨q0, qP, qK⟩ := q; exact ⟨q0, qP, va_K.moved (u := U) (U := U.calling g mk a) (Vm.Alike.refl U.vm) qK⟩, va_recv hK hP (ci := 3) (q0 := 1) rfl rfl, fun U hU hW => ⟨rfl, by rw [hU]; exact hPc_1, va_K.moved hW.alike hK⟩⟩ rfl rfl hl.1 rfl (lv_room (Nat.le_of_ble_eq_true rfl)) dX7_kind_5 ⟨Nat.le_of_ble_eq_true rfl, Nat.le_of_ble_eq_true rfl⟩) (fun r_1 h_1 => ?_)
  subst h_1
  refine lv_if_eq (tgt := 23) hx hb dX7_kind_8 (by decide) (fun _ => ?_) (fun c_ => absurd (by decide) c_)
  refine lv_ldc (own := RX7) (v := (-1000001)) hx hb hown (hts (.constant RX7 72 (-1000001)) (by decide +kernel)) dX7_kind_23 ?_
  exact W.iret (v := (-1000001)) hx hb hr (fun t ht hW => ⟨(-1000001), rfl, rfl, ht⟩) (fun _ h => by cases h) dX7_kind_25
set_option maxHeartbeats 4000000 in
set_option maxRecDepth 100000 in
theorem c_X7_as (l : Launch) (dC : Nat → ClassId) (dI : Nat → Nat → Nat) (cI cZ cL cJ : ClassId) (x : Nat) (ro : Nat) (ta : Nat) (no : Nat) (ac : Nat) (im : Nat) (tr : Nat) (pl : Nat) (cs : Nat) (ak : Nat) (n1 : Nat) (n2 : Nat) (n3 : Nat) (n4 : Nat) (n5 : Nat) (k0 : Int32) (k1 : Int32)  : Met l yX7_as wsX7_as ({ frames := 1, cells := 0, slots := 0, locals := 21 }) (va_Pc [.ref x, .int k0, .int k1] (fun U => va_P (dC, dI) vwCl [(x, .inr (7, [.ref ro, .ref ta, .ref no, .ref ac, .ref im, .ref tr, .ref pl, .ref cs, .ref ak, .int 0, .int 0])), (no, .inr (3, [.int 0, .int 0, .int 0, .int 0, .int 0, .int 0, .int 0, .int 0, .ref n1, .ref n2, .ref n3, .ref n4, .ref n5]))] U.heap ∧ va_K (dC, dI) vwCl [(cI, .int), (cZ, .boolean), (cL, .object RX3), (cJ, .array .int)] U)) (vp_Si (fun r => r = (-1000001))) 0 0 (fun _ => False) := by
  refine Met.ofW (cc := cX7_as) (maxL := 3) (ret := (some .int)) (by decide) rfl ?_
  intro p e s m args below meth c s₁ B hml hv
  obtain ⟨rfl, hP, hK⟩ := hv
  have hx := B.exec
  have hb := B.bytes
  have hr := B.returns
  have hts := atoms_spec (ws := wsX7_as) B.pre
  have hown : s.vm.findClass RX7 = some m.cls := findClass_of_methodNamed B.named
  have hlocks := B.notSynchronized
  have hP : va_P (dC, dI) vwCl [(x, .inr (7, [.ref ro, .ref ta, .ref no, .ref ac, .ref im, .ref tr, .ref pl, .ref cs, .ref ak, .int 0, .int 0])), (no, .inr (3, [.int 0, .int 0, .int 0, .int 0, .int 0, .int 0, .int 0, .int 0, .ref n1, .ref n2, .ref n3, .ref n4, .ref n5]))] s.heap := hP
  have hl := lv_entry ([.ref x, .int k0, .int k1]) (n := 3) (Nat.le_of_ble_eq_true rfl)
  rw [lg_entry_eq]
  generalize (lg_sl ([.ref x, .int k0, .int k1]) ++ List.replicate (3 - (lg_sl ([.ref x, .int k0, .int k1])).length) Slot.unset).toArray = ls at hl ⊢
  have hl : lv_has ls 3 [(0, .ref x), (1, .int k0), (2, .int k1)] := hl
  refine lv_aload_n hx hb dX7_as_0 rfl (lv_at hl 0 rfl) ?_
  refine va_get (D := (dC, dI)) (ci := 7) (v := .ref no) (C := RX7) (T := TX7) (N := 11) hx hb hts i_X7_as_X7 hown hK hP 0 rfl rfl 2 (by decide) (hts (.fieldLink RX7 26 "MillTalk" "now" "LMillTalk$Level;") (by decide +kernel)) (fun _ h9 => h9) rfl dX7_as_1 ?_
  refine lv_iload_n hx hb dX7_as_4 rfl (lv_at hl 1 rfl) ?_
  have hPc_1 := hP.sub (ws' := [(no, .inr (3, [.int 0, .int 0, .int 0, .int 0, .int 0, .int 0, .int 0, .int 0, .ref n1, .ref n2, .ref n3, .ref n4, .ref n5]))]) [1] rfl
  refine vp_callSi (W.runV (As := [.int k0]) (rest := []) ⟨hx, hb, hml, hown, hts⟩ (c_X3_hasSound l dC dI cI cZ cL cJ no 0 0 0 0 0 0 0 n1 n2 n3 n4 n5 k0 ) (cwV 1 hts gX7_as_X3_hasSound rfl rfl rfl (by decide +kernel) ⟨Nat.le_of_ble_eq_true rfl, Nat.le_of_ble_eq_true rfl⟩) ⟨fun a U g mk q => by obtain ⟨q0, qP, qK⟩ := q; exact ⟨q0, qP, va_K.moved (u := U) (U := U.calling g mk a) (Vm.Alike.refl U.vm) qK⟩, va_recv hK hP (ci := 3) (q0 := 1) rfl rfl, fun U hU hW => ⟨rfl, by rw [hU]; exact hPc_1, va_K.moved hW.alike hK⟩⟩ rfl rfl hl.1 rfl (lv_room (Nat.le_of_ble_eq_true rfl)) dX7_as_5 ⟨Nat.le_of_ble_eq_true rfl, Nat.le_of_ble_eq_true rfl⟩) (fun r_1 h_1 => ?_)
  subst h_1
  refine lv_if_eq (tgt := 20) hx hb dX7_as_8 (by decide) (fun _ => ?_) (fun c_ => absurd (by decide) c_)
  refine lv_ldc (own := RX7) (v := (-1000001)) hx hb hown (hts (.constant RX7 72 (-1000001)) (by decide +kernel)) dX7_as_20 ?_
  exact W.iret (v := (-1000001)) hx hb hr (fun t ht hW => ⟨(-1000001), rfl, rfl, ht⟩) (fun _ h => by cases h) dX7_as_22
set_option maxHeartbeats 4000000 in
set_option maxRecDepth 100000 in
theorem c_X7_ask (l : Launch) (dC : Nat → ClassId) (dI : Nat → Nat → Nat) (cI cZ cL cJ : ClassId) (x : Nat) (ro : Nat) (ta : Nat) (no : Nat) (ac : Nat) (im : Nat) (tr : Nat) (pl : Nat) (cs : Nat) (ak : Nat) (n1 : Nat) (n2 : Nat) (n3 : Nat) (n4 : Nat) (n5 : Nat) (k0 : Int32) (k1 : Int32)  : Met l yX7_ask wsX7_ask ({ frames := 1, cells := 0, slots := 0, locals := 21 }) (va_Pc [.ref x, .int k0, .int k1] (fun U => va_P (dC, dI) vwCl [(x, .inr (7, [.ref ro, .ref ta, .ref no, .ref ac, .ref im, .ref tr, .ref pl, .ref cs, .ref ak, .int 0, .int 0])), (no, .inr (3, [.int 0, .int 0, .int 0, .int 0, .int 0, .int 0, .int 0, .int 0, .ref n1, .ref n2, .ref n3, .ref n4, .ref n5]))] U.heap ∧ va_K (dC, dI) vwCl [(cI, .int), (cZ, .boolean), (cL, .object RX3), (cJ, .array .int)] U)) (vp_Si (fun r => r = (-1000001))) 0 0 (fun _ => False) := by
  refine Met.ofW (cc := cX7_ask) (maxL := 3) (ret := (some .int)) (by decide) rfl ?_
  intro p e s m args below meth c s₁ B hml hv
  obtain ⟨rfl, hP, hK⟩ := hv
  have hx := B.exec
  have hb := B.bytes
  have hr := B.returns
  have hts := atoms_spec (ws := wsX7_ask) B.pre
  have hown : s.vm.findClass RX7 = some m.cls := findClass_of_methodNamed B.named
  have hlocks := B.notSynchronized
  have hP : va_P (dC, dI) vwCl [(x, .inr (7, [.ref ro, .ref ta, .ref no, .ref ac, .ref im, .ref tr, .ref pl, .ref cs, .ref ak, .int 0, .int 0])), (no, .inr (3, [.int 0, .int 0, .int 0, .int 0, .int 0, .int 0, .int 0, .int 0, .ref n1, .ref n2, .ref n3, .ref n4, .ref n5]))] s.heap := hP
  have hl := lv_entry ([.ref x, .int k0, .int k1]) (n := 3) (Nat.le_of_ble_eq_true rfl)
  rw [lg_entry_eq]
  generalize (lg_sl ([.ref x, .int k0, .int k1]) ++ List.replicate (3 - (lg_sl ([.ref x, .int k0, .int k1])).length) Slot.unset).toArray = ls at hl ⊢
  have hl : lv_has ls 3 [(0, .ref x), (1, .int k0), (2, .int k1)] := hl
  refine lv_aload_n hx hb dX7_ask_0 rfl (lv_at hl 0 rfl) ?_
  refine va_get (D := (dC, dI)) (ci := 7) (v := .ref no) (C := RX7) (T := TX7) (N := 11) hx hb hts i_X7_ask_X7 hown hK hP 0 rfl rfl 2 (by decide) (hts (.fieldLink RX7 26 "MillTalk" "now" "LMillTalk$Level;") (by decide +kernel)) (fun _ h9 => h9) rfl dX7_ask_1 ?_
  refine lv_iload_n hx hb dX7_ask_4 rfl (lv_at hl 1 rfl) ?_
  have hPc_1 := hP.sub (ws' := [(no, .inr (3, [.int 0, .int 0, .int 0, .int 0, .int 0, .int 0, .int 0, .int 0, .ref n1, .ref n2, .ref n3, .ref n4, .ref n5]))]) [1] rfl
  refine vp_callSi (W.runV (As := [.int k0]) (rest := []) ⟨hx, hb, hml, hown, hts⟩ (c_X3_hasSound l dC dI cI cZ cL cJ no 0 0 0 0 0 0 0 n1 n2 n3 n4 n5 k0 ) (cwV 1 hts gX7_ask_X3_hasSound rfl rfl rfl (by decide +kernel) ⟨Nat.le_of_ble_eq_true rfl, Nat.le_of_ble_eq_true rfl⟩) ⟨fun a U g mk q => by obtain ⟨q0, qP, qK⟩ := q; exact ⟨q0, qP, va_K.moved (u := U) (U := U.calling g mk a) (Vm.Alike.refl U.vm) qK⟩, va_recv hK hP (ci := 3) (q0 := 1) rfl rfl, fun U hU hW => ⟨rfl, by rw [hU]; exact hPc_1, va_K.moved hW.alike hK⟩⟩ rfl rfl hl.1 rfl (lv_room (Nat.le_of_ble_eq_true rfl)) dX7_ask_5 ⟨Nat.le_of_ble_eq_true rfl, Nat.le_of_ble_eq_true rfl⟩) (fun r_1 h_1 => ?_)
  subst h_1
  refine lv_if_eq (tgt := 18) hx hb dX7_ask_8 (by decide) (fun _ => ?_) (fun c_ => absurd (by decide) c_)
  refine lv_ldc (own := RX7) (v := (-1000001)) hx hb hown (hts (.constant RX7 72 (-1000001)) (by decide +kernel)) dX7_ask_18 ?_
  exact W.iret (v := (-1000001)) hx hb hr (fun t ht hW => ⟨(-1000001), rfl, rfl, ht⟩) (fun _ h => by cases h) dX7_ask_20
set_option maxHeartbeats 4000000 in
set_option maxRecDepth 100000 in
theorem c_X7_calm (l : Launch) (dC : Nat → ClassId) (dI : Nat → Nat → Nat) (cI cZ cL cJ : ClassId) (x : Nat) (ro : Nat) (ta : Nat) (no : Nat) (ac : Nat) (im : Nat) (tr : Nat) (pl : Nat) (cs : Nat) (ak : Nat) (n1 : Nat) (n2 : Nat) (n3 : Nat) (n4 : Nat) (n5 : Nat) (k0 : Int32) (k1 : Int32) (k2 : Int32) (k3 : Int32)  : Met l yX7_calm wsX7_calm ({ frames := 1, cells := 0, slots := 0, locals := 21 }) (va_Pc [.ref x, .int k0, .int k1, .int k2, .int k3] (fun U => va_P (dC, dI) vwCl [(x, .inr (7, [.ref ro, .ref ta, .ref no, .ref ac, .ref im, .ref tr, .ref pl, .ref cs, .ref ak, .int 0, .int 0])), (no, .inr (3, [.int 0, .int 0, .int 0, .int 0, .int 0, .int 0, .int 0, .int 0, .ref n1, .ref n2, .ref n3, .ref n4, .ref n5]))] U.heap ∧ va_K (dC, dI) vwCl [(cI, .int), (cZ, .boolean), (cL, .object RX3), (cJ, .array .int)] U)) (vp_Sl (fun r => r = (-1000001))) 0 0 (fun _ => False) := by
  refine Met.ofW (cc := cX7_calm) (maxL := 9) (ret := (some .long)) (by decide) rfl ?_
  intro p e s m args below meth c s₁ B hml hv
  obtain ⟨rfl, hP, hK⟩ := hv
  have hx := B.exec
  have hb := B.bytes
  have hr := B.returns
  have hts := atoms_spec (ws := wsX7_calm) B.pre
  have hown : s.vm.findClass RX7 = some m.cls := findClass_of_methodNamed B.named
  have hlocks := B.notSynchronized
  have hP : va_P (dC, dI) vwCl [(x, .inr (7, [.ref ro, .ref ta, .ref no, .ref ac, .ref im, .ref tr, .ref pl, .ref cs, .ref ak, .int 0, .int 0])), (no, .inr (3, [.int 0, .int 0, .int 0, .int 0, .int 0, .int 0, .int 0, .int 0, .ref n1, .ref n2, .ref n3, .ref n4, .ref n5]))] s.heap := hP
  have hl := lv_entry ([.ref x, .int k0, .int k1, .int k2, .int k3]) (n := 9) (Nat.le_of_ble_eq_true rfl)
  rw [lg_entry_eq]
  generalize (lg_sl ([.ref x, .int k0, .int k1, .int k2, .int k3]) ++ List.replicate (9 - (lg_sl ([.ref x, .int k0, .int k1, .int k2, .int k3])).length) Slot.unset).toArray = ls at hl ⊢
  have hl : lv_has ls 9 [(0, .ref x), (1, .int k0), (2, .int k1), (3, .int k2), (4, .int k3)] := hl
  refine lv_aload_n hx hb dX7_calm_0 rfl (lv_at hl 0 rfl) ?_
  refine va_get (D := (dC, dI)) (ci := 7) (v := .ref no) (C := RX7) (T := TX7) (N := 11) hx hb hts i_X7_calm_X7 hown hK hP 0 rfl rfl 2 (by decide) (hts (.fieldLink RX7 26 "MillTalk" "now" "LMillTalk$Level;") (by decide +kernel)) (fun _ h9 => h9) rfl dX7_calm_1 ?_
  refine lv_iload_n hx hb dX7_calm_4 rfl (lv_at hl 1 rfl) ?_
  have hPc_1 := hP.sub (ws' := [(no, .inr (3, [.int 0, .int 0, .int 0, .int 0, .int 0, .int 0, .int 0, .int 0, .ref n1, .ref n2, .ref n3, .ref n4, .ref n5]))]) [1] rfl
  refine vp_callSi (W.runV (As := [.int k0]) (rest := []) ⟨hx, hb, hml, hown, hts⟩ (c_X3_hasSound l dC dI cI cZ cL cJ no 0 0 0 0 0 0 0 n1 n2 n3 n4 n5 k0 ) (cwV 1 hts gX7_calm_X3_hasSound rfl rfl rfl (by decide +kernel) ⟨Nat.le_of_ble_eq_true rfl, Nat.le_of_ble_eq_true rfl⟩) ⟨fun a U g mk q => by obtain ⟨q0, qP, qK⟩ := q; exact ⟨q0, qP, va_K.moved (u := U) (U := U.calling g mk a) (Vm.Alike.refl U.vm) qK⟩, va_recv hK hP (ci := 3) (q0 := 1) rfl rfl, fun U hU hW => ⟨rfl, by rw [hU]; exact hPc_1, va_K.moved hW.alike hK⟩⟩ rfl rfl hl.1 rfl (lv_room (Nat.le_of_ble_eq_true rfl)) dX7_calm_5 ⟨Nat.le_of_ble_eq_true rfl, Nat.le_of_ble_eq_true rfl⟩) (fun r_1 h_1 => ?_)
  subst h_1
  refine lv_if_eq (tgt := 39) hx hb dX7_calm_8 (by decide) (fun _ => ?_) (fun c_ => absurd (by decide) c_)
  refine lv_ldc2 (own := RX7) (v := (-1000001)) hx hb hown (hts (.constantLong RX7 267 (-1000001)) (by decide +kernel)) dX7_calm_39 ?_
  exact W.lret (v := (-1000001)) hx hb hr (fun t ht hW => ⟨(-1000001), rfl, rfl, ht⟩) (fun _ h => by cases h) dX7_calm_42
set_option maxHeartbeats 4000000 in
set_option maxRecDepth 100000 in
theorem c_X7_fault (l : Launch) (dC : Nat → ClassId) (dI : Nat → Nat → Nat) (cI cZ cL cJ : ClassId) (x : Nat) (ro : Nat) (ta : Nat) (no : Nat) (ac : Nat) (im : Nat) (tr : Nat) (pl : Nat) (cs : Nat) (ak : Nat)  : Met l yX7_fault wsX7_fault ({ frames := 0, cells := 0, slots := 0, locals := 0 }) (va_Pc [.ref x] (fun U => va_P (dC, dI) vwCl [(x, .inr (7, [.ref ro, .ref ta, .ref no, .ref ac, .ref im, .ref tr, .ref pl, .ref cs, .ref ak, .int 0, .int 0]))] U.heap ∧ va_K (dC, dI) vwCl [(cI, .int), (cZ, .boolean), (cL, .object RX3), (cJ, .array .int)] U)) (vp_Si (fun r => r = 0)) 0 0 (fun _ => False) := by
  refine Met.ofW (cc := cX7_fault) (maxL := 1) (ret := (some .int)) (by decide) rfl ?_
  intro p e s m args below meth c s₁ B hml hv
  obtain ⟨rfl, hP, hK⟩ := hv
  have hx := B.exec
  have hb := B.bytes
  have hr := B.returns
  have hts := atoms_spec (ws := wsX7_fault) B.pre
  have hown : s.vm.findClass RX7 = some m.cls := findClass_of_methodNamed B.named
  have hlocks := B.notSynchronized
  have hP : va_P (dC, dI) vwCl [(x, .inr (7, [.ref ro, .ref ta, .ref no, .ref ac, .ref im, .ref tr, .ref pl, .ref cs, .ref ak, .int 0, .int 0]))] s.heap := hP
  have hl := lv_entry ([.ref x]) (n := 1) (Nat.le_of_ble_eq_true rfl)
  rw [lg_entry_eq]
  generalize (lg_sl ([.ref x]) ++ List.replicate (1 - (lg_sl ([.ref x])).length) Slot.unset).toArray = ls at hl ⊢
  have hl : lv_has ls 1 [(0, .ref x)] := hl
  refine lv_aload_n hx hb dX7_fault_0 rfl (lv_at hl 0 rfl) ?_
  refine va_get (D := (dC, dI)) (ci := 7) (v := .int 0) (C := RX7) (T := TX7) (N := 11) hx hb hts i_X7_fault_X7 hown hK hP 0 rfl rfl 9 (by decide) (hts (.fieldLink RX7 117 "MillTalk" "latestFault" "I") (by decide +kernel)) (fun _ h9 => h9) rfl dX7_fault_1 ?_
  exact W.iret (v := 0) hx hb hr (fun t ht hW => ⟨0, rfl, rfl, ht⟩) (fun _ h => by cases h) dX7_fault_4
set_option maxHeartbeats 4000000 in
set_option maxRecDepth 100000 in
theorem c_X7_status (l : Launch) (dC : Nat → ClassId) (dI : Nat → Nat → Nat) (cI cZ cL cJ : ClassId) (x : Nat) (ro : Nat) (ta : Nat) (no : Nat) (ac : Nat) (im : Nat) (tr : Nat) (pl : Nat) (cs : Nat) (ak : Nat)  : Met l yX7_status wsX7_status ({ frames := 0, cells := 0, slots := 0, locals := 0 }) (va_Pc [.ref x] (fun U => va_P (dC, dI) vwCl [(x, .inr (7, [.ref ro, .ref ta, .ref no, .ref ac, .ref im, .ref tr, .ref pl, .ref cs, .ref ak, .int 0, .int 0]))] U.heap ∧ va_K (dC, dI) vwCl [(cI, .int), (cZ, .boolean), (cL, .object RX3), (cJ, .array .int)] U)) (vp_Si (fun r => r = 0)) 0 0 (fun _ => False) := by
  refine Met.ofW (cc := cX7_status) (maxL := 1) (ret := (some .int)) (by decide) rfl ?_
  intro p e s m args below meth c s₁ B hml hv
  obtain ⟨rfl, hP, hK⟩ := hv
  have hx := B.exec
  have hb := B.bytes
  have hr := B.returns
  have hts := atoms_spec (ws := wsX7_status) B.pre
  have hown : s.vm.findClass RX7 = some m.cls := findClass_of_methodNamed B.named
  have hlocks := B.notSynchronized
  have hP : va_P (dC, dI) vwCl [(x, .inr (7, [.ref ro, .ref ta, .ref no, .ref ac, .ref im, .ref tr, .ref pl, .ref cs, .ref ak, .int 0, .int 0]))] s.heap := hP
  have hl := lv_entry ([.ref x]) (n := 1) (Nat.le_of_ble_eq_true rfl)
  rw [lg_entry_eq]
  generalize (lg_sl ([.ref x]) ++ List.replicate (1 - (lg_sl ([.ref x])).length) Slot.unset).toArray = ls at hl ⊢
  have hl : lv_has ls 1 [(0, .ref x)] := hl
  refine lv_aload_n hx hb dX7_status_0 rfl (lv_at hl 0 rfl) ?_
  refine va_get (D := (dC, dI)) (ci := 7) (v := .int 0) (C := RX7) (T := TX7) (N := 11) hx hb hts i_X7_status_X7 hown hK hP 0 rfl rfl 10 (by decide) (hts (.fieldLink RX7 323 "MillTalk" "latestFinding" "I") (by decide +kernel)) (fun _ h9 => h9) rfl dX7_status_1 ?_
  exact W.iret (v := 0) hx hb hr (fun t ht hW => ⟨0, rfl, rfl, ht⟩) (fun _ h => by cases h) dX7_status_4
set_option maxHeartbeats 4000000 in
set_option maxRecDepth 100000 in
theorem c_X7_undo (l : Launch) (dC : Nat → ClassId) (dI : Nat → Nat → Nat) (cI cZ cL cJ : ClassId) (x : Nat) (ro : Nat) (ta : Nat) (no : Nat) (ac : Nat) (im : Nat) (tr : Nat) (pl : Nat) (cs : Nat) (ak : Nat) (be : Nat)  : Met l yX7_undo wsX7_undo ({ frames := 0, cells := 0, slots := 0, locals := 0 }) (va_Pc [.ref x] (fun U => va_P (dC, dI) vwCl [(x, .inr (7, [.ref ro, .ref ta, .ref no, .ref ac, .ref im, .ref tr, .ref pl, .ref cs, .ref ak, .int 0, .int 0])), (ac, .inr (0, [.ref be, .int 0, .int 0]))] U.heap ∧ va_K (dC, dI) vwCl [(cI, .int), (cZ, .boolean), (cL, .object RX3), (cJ, .array .int)] U)) (vp_Si (fun r => r = (-1000002))) 0 0 (fun _ => False) := by
  refine Met.ofW (cc := cX7_undo) (maxL := 1) (ret := (some .int)) (by decide) rfl ?_
  intro p e s m args below meth c s₁ B hml hv
  obtain ⟨rfl, hP, hK⟩ := hv
  have hx := B.exec
  have hb := B.bytes
  have hr := B.returns
  have hts := atoms_spec (ws := wsX7_undo) B.pre
  have hown : s.vm.findClass RX7 = some m.cls := findClass_of_methodNamed B.named
  have hlocks := B.notSynchronized
  have hP : va_P (dC, dI) vwCl [(x, .inr (7, [.ref ro, .ref ta, .ref no, .ref ac, .ref im, .ref tr, .ref pl, .ref cs, .ref ak, .int 0, .int 0])), (ac, .inr (0, [.ref be, .int 0, .int 0]))] s.heap := hP
  have hl := lv_entry ([.ref x]) (n := 1) (Nat.le_of_ble_eq_true rfl)
  rw [lg_entry_eq]
  generalize (lg_sl ([.ref x]) ++ List.replicate (1 - (lg_sl ([.ref x])).length) Slot.unset).toArray = ls at hl ⊢
  have hl : lv_has ls 1 [(0, .ref x)] := hl
  refine lv_aload_n hx hb dX7_undo_0 rfl (lv_at hl 0 rfl) ?_
  refine va_get (D := (dC, dI)) (ci := 7) (v := .ref ac) (C := RX7) (T := TX7) (N := 11) hx hb hts i_X7_undo_X7 hown hK hP 0 rfl rfl 3 (by decide) (hts (.fieldLink RX7 33 "MillTalk" "acts" "LMillTalk$Acts;") (by decide +kernel)) (fun _ h9 => h9) rfl dX7_undo_1 ?_
  refine va_get (D := (dC, dI)) (ci := 0) (v := .int 0) (C := RX0) (T := TX0) (N := 3) hx hb hts i_X7_undo_X0 hown hK hP 1 rfl rfl 2 (by decide) (hts (.fieldLink RX7 138 "MillTalk$Acts" "size" "I") (by decide +kernel)) (fun _ h9 => h9) rfl dX7_undo_4 ?_
  refine lv_if_ne (tgt := 13) hx hb dX7_undo_7 (by decide) (fun c_ => absurd (by decide) c_) (fun _ => ?_)
  refine lv_ldc (own := RX7) (v := (-1000002)) hx hb hown (hts (.constant RX7 141 (-1000002)) (by decide +kernel)) dX7_undo_10 ?_
  exact W.iret (v := (-1000002)) hx hb hr (fun t ht hW => ⟨(-1000002), rfl, rfl, ht⟩) (fun _ h => by cases h) dX7_undo_12
set_option maxHeartbeats 4000000 in
set_option maxRecDepth 100000 in
theorem c_X7_trace (l : Launch) (dC : Nat → ClassId) (dI : Nat → Nat → Nat) (cI cZ cL cJ : ClassId) (x : Nat) (ro : Nat) (ta : Nat) (no : Nat) (ac : Nat) (im : Nat) (tr : Nat) (pl : Nat) (cs : Nat) (ak : Nat) (tc : Nat) (k0 : Int32)  : Met l yX7_trace wsX7_trace ({ frames := 0, cells := 0, slots := 0, locals := 0 }) (va_Pc [.ref x, .int k0] (fun U => va_P (dC, dI) vwCl [(x, .inr (7, [.ref ro, .ref ta, .ref no, .ref ac, .ref im, .ref tr, .ref pl, .ref cs, .ref ak, .int 0, .int 0])), (ak, .inr (1, [.ref tc, .int 0, .int 0, .int 0, .int 0, .int 0]))] U.heap ∧ va_K (dC, dI) vwCl [(cI, .int), (cZ, .boolean), (cL, .object RX3), (cJ, .array .int)] U)) (vp_Si (fun r => r = (-1000000))) 0 0 (fun _ => False) := by
  refine Met.ofW (cc := cX7_trace) (maxL := 2) (ret := (some .int)) (by decide) rfl ?_
  intro p e s m args below meth c s₁ B hml hv
  obtain ⟨rfl, hP, hK⟩ := hv
  have hx := B.exec
  have hb := B.bytes
  have hr := B.returns
  have hts := atoms_spec (ws := wsX7_trace) B.pre
  have hown : s.vm.findClass RX7 = some m.cls := findClass_of_methodNamed B.named
  have hlocks := B.notSynchronized
  have hP : va_P (dC, dI) vwCl [(x, .inr (7, [.ref ro, .ref ta, .ref no, .ref ac, .ref im, .ref tr, .ref pl, .ref cs, .ref ak, .int 0, .int 0])), (ak, .inr (1, [.ref tc, .int 0, .int 0, .int 0, .int 0, .int 0]))] s.heap := hP
  have hl := lv_entry ([.ref x, .int k0]) (n := 2) (Nat.le_of_ble_eq_true rfl)
  rw [lg_entry_eq]
  generalize (lg_sl ([.ref x, .int k0]) ++ List.replicate (2 - (lg_sl ([.ref x, .int k0])).length) Slot.unset).toArray = ls at hl ⊢
  have hl : lv_has ls 2 [(0, .ref x), (1, .int k0)] := hl
  refine lv_iload_n hx hb dX7_trace_0 rfl (lv_at hl 1 rfl) ?_
  refine lv_if_lt (tgt := 27) hx hb dX7_trace_1 (by decide) (fun c_1 => ?_) (fun c_1 => ?_)
  · skip
    refine lv_ldc (own := RX7) (v := (-1000000)) hx hb hown (hts (.constant RX7 220 (-1000000)) (by decide +kernel)) dX7_trace_27 ?_
    exact W.iret (v := (-1000000)) hx hb hr (fun t ht hW => ⟨(-1000000), rfl, rfl, ht⟩) (fun _ h => by cases h) dX7_trace_29
  · skip
    refine lv_iload_n hx hb dX7_trace_4 rfl (lv_at hl 1 rfl) ?_
    refine lv_aload_n hx hb dX7_trace_5 rfl (lv_at hl 0 rfl) ?_
    refine va_get (D := (dC, dI)) (ci := 7) (v := .ref ak) (C := RX7) (T := TX7) (N := 11) hx hb hts i_X7_trace_X7 hown hK hP 0 rfl rfl 8 (by decide) (hts (.fieldLink RX7 61 "MillTalk" "asks" "LMillTalk$Asks;") (by decide +kernel)) (fun _ h9 => h9) rfl dX7_trace_6 ?_
    refine va_get (D := (dC, dI)) (ci := 1) (v := .int 0) (C := RX1) (T := TX1) (N := 6) hx hb hts i_X7_trace_X1 hown hK hP 1 rfl rfl 1 (by decide) (hts (.fieldLink RX7 313 "MillTalk$Asks" "traced" "I") (by decide +kernel)) (fun _ h9 => h9) rfl dX7_trace_9 ?_
    refine lv_icmp_ge (tgt := 27) hx hb dX7_trace_12 (by decide) (fun c_2 => ?_) (fun c_2 => ?_)
    · skip
      refine lv_ldc (own := RX7) (v := (-1000000)) hx hb hown (hts (.constant RX7 220 (-1000000)) (by decide +kernel)) dX7_trace_27 ?_
      exact W.iret (v := (-1000000)) hx hb hr (fun t ht hW => ⟨(-1000000), rfl, rfl, ht⟩) (fun _ h => by cases h) dX7_trace_29
    · skip
      exact absurd (i_nlt.mp ‹¬ k0 < 0›) ‹¬ (0 : Int32) ≤ k0›
set_option maxHeartbeats 4000000 in
set_option maxRecDepth 100000 in
theorem c_X7_image (l : Launch) (dC : Nat → ClassId) (dI : Nat → Nat → Nat) (cI cZ cL cJ : ClassId) (x : Nat) (ro : Nat) (ta : Nat) (no : Nat) (ac : Nat) (im : Nat) (tr : Nat) (pl : Nat) (cs : Nat) (ak : Nat) (n1 : Nat) (n2 : Nat) (n3 : Nat) (n4 : Nat) (n5 : Nat) (fi : Nat → Option Nat) (k0 : Int32)  : Met l yX7_image wsX7_image ({ frames := 1, cells := 0, slots := 0, locals := 20 }) (va_Pc [.ref x, .int k0] (fun U => va_P (dC, dI) vwCl [(x, .inr (7, [.ref ro, .ref ta, .ref no, .ref ac, .ref im, .ref tr, .ref pl, .ref cs, .ref ak, .int 0, .int 0])), (no, .inr (3, [.int 0, .int 0, .int 0, .int 0, .int 0, .int 0, .int 0, .int 0, .ref n1, .ref n2, .ref n3, .ref n4, .ref n5])), (im, .inl (cL, 2, .inr (.inr (.inr (.inr fi)))))] U.heap ∧ va_K (dC, dI) vwCl [(cI, .int), (cZ, .boolean), (cL, .object RX3), (cJ, .array .int)] U)) (vp_Si (fun r => r = (an_image k0))) 0 0 (fun _ => False) := by
  refine Met.ofW (cc := cX7_image) (maxL := 2) (ret := (some .int)) (by decide) rfl ?_
  intro p e s m args below meth c s₁ B hml hv
  obtain ⟨rfl, hP, hK⟩ := hv
  have hx := B.exec
  have hb := B.bytes
  have hr := B.returns
  have hts := atoms_spec (ws := wsX7_image) B.pre
  have hown : s.vm.findClass RX7 = some m.cls := findClass_of_methodNamed B.named
  have hlocks := B.notSynchronized
  have hP : va_P (dC, dI) vwCl [(x, .inr (7, [.ref ro, .ref ta, .ref no, .ref ac, .ref im, .ref tr, .ref pl, .ref cs, .ref ak, .int 0, .int 0])), (no, .inr (3, [.int 0, .int 0, .int 0, .int 0, .int 0, .int 0, .int 0, .int 0, .ref n1, .ref n2, .ref n3, .ref n4, .ref n5])), (im, .inl (cL, 2, .inr (.inr (.inr (.inr fi)))))] s.heap := hP
  have hl := lv_entry ([.ref x, .int k0]) (n := 2) (Nat.le_of_ble_eq_true rfl)
  rw [lg_entry_eq]
  generalize (lg_sl ([.ref x, .int k0]) ++ List.replicate (2 - (lg_sl ([.ref x, .int k0])).length) Slot.unset).toArray = ls at hl ⊢
  have hl : lv_has ls 2 [(0, .ref x), (1, .int k0)] := hl
  refine lv_iload_n hx hb dX7_image_0 rfl (lv_at hl 1 rfl) ?_
  refine lv_if_lt (tgt := 13) hx hb dX7_image_1 (by decide) (fun c_1 => ?_) (fun c_1 => ?_)
  · skip
    refine lv_ldc (own := RX7) (v := (-1000001)) hx hb hown (hts (.constant RX7 72 (-1000001)) (by decide +kernel)) dX7_image_13 ?_
    exact W.iret (v := (-1000001)) hx hb hr (fun t ht hW => ⟨(-1000001), rfl, (by unfold an_image; grind), ht⟩) (fun _ h => by cases h) dX7_image_15
  · skip
    refine lv_iload_n hx hb dX7_image_4 rfl (lv_at hl 1 rfl) ?_
    refine lv_aload_n hx hb dX7_image_5 rfl (lv_at hl 0 rfl) ?_
    refine va_get (D := (dC, dI)) (ci := 7) (v := .ref im) (C := RX7) (T := TX7) (N := 11) hx hb hts i_X7_image_X7 hown hK hP 0 rfl rfl 4 (by decide) (hts (.fieldLink RX7 37 "MillTalk" "images" "[LMillTalk$Level;") (by decide +kernel)) (fun _ h9 => h9) rfl dX7_image_6 ?_
    refine va_alen (v := 2) hx hb hK hP 2 2 rfl rfl rfl dX7_image_9 ?_
    refine lv_icmp_lt (tgt := 16) hx hb dX7_image_10 (by decide) (fun c_2 => ?_) (fun c_2 => ?_)
    · skip
      refine lv_aload_n hx hb dX7_image_16 rfl (lv_at hl 0 rfl) ?_
      refine va_get (D := (dC, dI)) (ci := 7) (v := .ref no) (C := RX7) (T := TX7) (N := 11) hx hb hts i_X7_image_X7 hown hK hP 0 rfl rfl 2 (by decide) (hts (.fieldLink RX7 26 "MillTalk" "now" "LMillTalk$Level;") (by decide +kernel)) (fun _ h9 => h9) rfl dX7_image_17 ?_
      have hPc_3 := hP.sub (ws' := [(no, .inr (3, [.int 0, .int 0, .int 0, .int 0, .int 0, .int 0, .int 0, .int 0, .ref n1, .ref n2, .ref n3, .ref n4, .ref n5]))]) [1] rfl
      refine vp_callSi (W.runV (As := []) (rest := []) ⟨hx, hb, hml, hown, hts⟩ (c_X3_isTold l dC dI cI cZ cL cJ no 0 0 0 0 0 0 0 n1 n2 n3 n4 n5 ) (cwV 0 hts gX7_image_X3_isTold rfl rfl rfl (by decide +kernel) ⟨Nat.le_of_ble_eq_true rfl, Nat.le_of_ble_eq_true rfl⟩) ⟨fun a U g mk q => by obtain ⟨q0, qP, qK⟩ := q; exact ⟨q0, qP, va_K.moved (u := U) (U := U.calling g mk a) (Vm.Alike.refl U.vm) qK⟩, va_recv hK hP (ci := 3) (q0 := 1) rfl rfl, fun U hU hW => ⟨rfl, by rw [hU]; exact hPc_3, va_K.moved hW.alike hK⟩⟩ rfl rfl hl.1 rfl (lv_room (Nat.le_of_ble_eq_true rfl)) dX7_image_20 ⟨Nat.le_of_ble_eq_true rfl, Nat.le_of_ble_eq_true rfl⟩) (fun r_3 h_3 => ?_)
      subst h_3
      refine lv_if_ne (tgt := 29) hx hb dX7_image_23 (by decide) (fun c_ => absurd (by decide) c_) (fun _ => ?_)
      refine lv_ldc (own := RX7) (v := (-1000002)) hx hb hown (hts (.constant RX7 141 (-1000002)) (by decide +kernel)) dX7_image_26 ?_
      exact W.iret (v := (-1000002)) hx hb hr (fun t ht hW => ⟨(-1000002), rfl, (by unfold an_image; grind), ht⟩) (fun _ h => by cases h) dX7_image_28
    · skip
      refine lv_ldc (own := RX7) (v := (-1000001)) hx hb hown (hts (.constant RX7 72 (-1000001)) (by decide +kernel)) dX7_image_13 ?_
      exact W.iret (v := (-1000001)) hx hb hr (fun t ht hW => ⟨(-1000001), rfl, (by unfold an_image; grind), ht⟩) (fun _ h => by cases h) dX7_image_15
set_option maxHeartbeats 4000000 in
set_option maxRecDepth 100000 in
theorem c_X7_restore (l : Launch) (dC : Nat → ClassId) (dI : Nat → Nat → Nat) (cI cZ cL cJ : ClassId) (x : Nat) (ro : Nat) (ta : Nat) (no : Nat) (ac : Nat) (im : Nat) (tr : Nat) (pl : Nat) (cs : Nat) (ak : Nat) (i0 : Nat) (i1 : Nat) (x1 : Nat) (x2 : Nat) (x3 : Nat) (x4 : Nat) (x5 : Nat) (y1 : Nat) (y2 : Nat) (y3 : Nat) (y4 : Nat) (y5 : Nat) (fi : Nat → Option Nat) (k0 : Int32) (hf0 : fi 0 = some i0) (hf1 : fi 1 = some i1) : Met l yX7_restore wsX7_restore ({ frames := 1, cells := 0, slots := 0, locals := 20 }) (va_Pc [.ref x, .int k0] (fun U => va_P (dC, dI) vwCl [(x, .inr (7, [.ref ro, .ref ta, .ref no, .ref ac, .ref im, .ref tr, .ref pl, .ref cs, .ref ak, .int 0, .int 0])), (im, .inl (cL, 2, .inr (.inr (.inr (.inr fi))))), (i0, .inr (3, [.int 0, .int 0, .int 0, .int 0, .int 0, .int 0, .int 0, .int 0, .ref x1, .ref x2, .ref x3, .ref x4, .ref x5])), (i1, .inr (3, [.int 0, .int 0, .int 0, .int 0, .int 0, .int 0, .int 0, .int 0, .ref y1, .ref y2, .ref y3, .ref y4, .ref y5]))] U.heap ∧ va_K (dC, dI) vwCl [(cI, .int), (cZ, .boolean), (cL, .object RX3), (cJ, .array .int)] U)) (vp_Si (fun r => r = (an_image k0))) 0 0 (fun _ => False) := by
  refine Met.ofW (cc := cX7_restore) (maxL := 2) (ret := (some .int)) (by decide) rfl ?_
  intro p e s m args below meth c s₁ B hml hv
  obtain ⟨rfl, hP, hK⟩ := hv
  have hx := B.exec
  have hb := B.bytes
  have hr := B.returns
  have hts := atoms_spec (ws := wsX7_restore) B.pre
  have hown : s.vm.findClass RX7 = some m.cls := findClass_of_methodNamed B.named
  have hlocks := B.notSynchronized
  have hP : va_P (dC, dI) vwCl [(x, .inr (7, [.ref ro, .ref ta, .ref no, .ref ac, .ref im, .ref tr, .ref pl, .ref cs, .ref ak, .int 0, .int 0])), (im, .inl (cL, 2, .inr (.inr (.inr (.inr fi))))), (i0, .inr (3, [.int 0, .int 0, .int 0, .int 0, .int 0, .int 0, .int 0, .int 0, .ref x1, .ref x2, .ref x3, .ref x4, .ref x5])), (i1, .inr (3, [.int 0, .int 0, .int 0, .int 0, .int 0, .int 0, .int 0, .int 0, .ref y1, .ref y2, .ref y3, .ref y4, .ref y5]))] s.heap := hP
  have hl := lv_entry ([.ref x, .int k0]) (n := 2) (Nat.le_of_ble_eq_true rfl)
  rw [lg_entry_eq]
  generalize (lg_sl ([.ref x, .int k0]) ++ List.replicate (2 - (lg_sl ([.ref x, .int k0])).length) Slot.unset).toArray = ls at hl ⊢
  have hl : lv_has ls 2 [(0, .ref x), (1, .int k0)] := hl
  refine lv_iload_n hx hb dX7_restore_0 rfl (lv_at hl 1 rfl) ?_
  refine lv_if_lt (tgt := 13) hx hb dX7_restore_1 (by decide) (fun c_1 => ?_) (fun c_1 => ?_)
  · skip
    refine lv_ldc (own := RX7) (v := (-1000001)) hx hb hown (hts (.constant RX7 72 (-1000001)) (by decide +kernel)) dX7_restore_13 ?_
    exact W.iret (v := (-1000001)) hx hb hr (fun t ht hW => ⟨(-1000001), rfl, (by unfold an_image; grind), ht⟩) (fun _ h => by cases h) dX7_restore_15
  · skip
    refine lv_iload_n hx hb dX7_restore_4 rfl (lv_at hl 1 rfl) ?_
    refine lv_aload_n hx hb dX7_restore_5 rfl (lv_at hl 0 rfl) ?_
    refine va_get (D := (dC, dI)) (ci := 7) (v := .ref im) (C := RX7) (T := TX7) (N := 11) hx hb hts i_X7_restore_X7 hown hK hP 0 rfl rfl 4 (by decide) (hts (.fieldLink RX7 37 "MillTalk" "images" "[LMillTalk$Level;") (by decide +kernel)) (fun _ h9 => h9) rfl dX7_restore_6 ?_
    refine va_alen (v := 2) hx hb hK hP 1 2 rfl rfl rfl dX7_restore_9 ?_
    refine lv_icmp_lt (tgt := 16) hx hb dX7_restore_10 (by decide) (fun c_2 => ?_) (fun c_2 => ?_)
    · skip
      rcases k_01 ‹¬ k0 < 0› ‹k0 < 2› with rfl | rfl
      · skip
        refine lv_aload_n hx hb dX7_restore_16 rfl (lv_at hl 0 rfl) ?_
        refine va_get (D := (dC, dI)) (ci := 7) (v := .ref im) (C := RX7) (T := TX7) (N := 11) hx hb hts i_X7_restore_X7 hown hK hP 0 rfl rfl 4 (by decide) (hts (.fieldLink RX7 37 "MillTalk" "images" "[LMillTalk$Level;") (by decide +kernel)) (fun _ h9 => h9) rfl dX7_restore_17 ?_
        refine lv_iload_n hx hb dX7_restore_20 rfl (lv_at hl 1 rfl) ?_
        refine va_aldq hx hb hK hP 1 2 rfl rfl (by unfold vp_in; decide) dX7_restore_21 ?_
        refine W.eq (g2 := F0 m 22 ls (.ref i0 :: [])) (by show F0 m 22 ls (va_rf (fi (0 : Int32).toNatClampNeg) :: _) = _; rw [show (0 : Int32).toNatClampNeg = 0 from rfl, hf0]; rfl) ?_
        have hPc_3 := hP.sub (ws' := [(i0, .inr (3, [.int 0, .int 0, .int 0, .int 0, .int 0, .int 0, .int 0, .int 0, .ref x1, .ref x2, .ref x3, .ref x4, .ref x5]))]) [2] rfl
        refine vp_callSi (W.runV (As := []) (rest := []) ⟨hx, hb, hml, hown, hts⟩ (c_X3_isTold l dC dI cI cZ cL cJ i0 0 0 0 0 0 0 0 x1 x2 x3 x4 x5 ) (cwV 0 hts gX7_restore_X3_isTold rfl rfl rfl (by decide +kernel) ⟨Nat.le_of_ble_eq_true rfl, Nat.le_of_ble_eq_true rfl⟩) ⟨fun a U g mk q => by obtain ⟨q0, qP, qK⟩ := q; exact ⟨q0, qP, va_K.moved (u := U) (U := U.calling g mk a) (Vm.Alike.refl U.vm) qK⟩, va_recv hK hP (ci := 3) (q0 := 2) rfl rfl, fun U hU hW => ⟨rfl, by rw [hU]; exact hPc_3, va_K.moved hW.alike hK⟩⟩ rfl rfl hl.1 rfl (lv_room (Nat.le_of_ble_eq_true rfl)) dX7_restore_22 ⟨Nat.le_of_ble_eq_true rfl, Nat.le_of_ble_eq_true rfl⟩) (fun r_3 h_3 => ?_)
        subst h_3
        refine lv_if_ne (tgt := 31) hx hb dX7_restore_25 (by decide) (fun c_ => absurd (by decide) c_) (fun _ => ?_)
        refine lv_ldc (own := RX7) (v := (-1000002)) hx hb hown (hts (.constant RX7 141 (-1000002)) (by decide +kernel)) dX7_restore_28 ?_
        exact W.iret (v := (-1000002)) hx hb hr (fun t ht hW => ⟨(-1000002), rfl, (by decide), ht⟩) (fun _ h => by cases h) dX7_restore_30
      · skip
        refine lv_aload_n hx hb dX7_restore_16 rfl (lv_at hl 0 rfl) ?_
        refine va_get (D := (dC, dI)) (ci := 7) (v := .ref im) (C := RX7) (T := TX7) (N := 11) hx hb hts i_X7_restore_X7 hown hK hP 0 rfl rfl 4 (by decide) (hts (.fieldLink RX7 37 "MillTalk" "images" "[LMillTalk$Level;") (by decide +kernel)) (fun _ h9 => h9) rfl dX7_restore_17 ?_
        refine lv_iload_n hx hb dX7_restore_20 rfl (lv_at hl 1 rfl) ?_
        refine va_aldq hx hb hK hP 1 2 rfl rfl (by unfold vp_in; decide) dX7_restore_21 ?_
        refine W.eq (g2 := F0 m 22 ls (.ref i1 :: [])) (by show F0 m 22 ls (va_rf (fi (1 : Int32).toNatClampNeg) :: _) = _; rw [show (1 : Int32).toNatClampNeg = 1 from rfl, hf1]; rfl) ?_
        have hPc_5 := hP.sub (ws' := [(i1, .inr (3, [.int 0, .int 0, .int 0, .int 0, .int 0, .int 0, .int 0, .int 0, .ref y1, .ref y2, .ref y3, .ref y4, .ref y5]))]) [3] rfl
        refine vp_callSi (W.runV (As := []) (rest := []) ⟨hx, hb, hml, hown, hts⟩ (c_X3_isTold l dC dI cI cZ cL cJ i1 0 0 0 0 0 0 0 y1 y2 y3 y4 y5 ) (cwV 0 hts gX7_restore_X3_isTold rfl rfl rfl (by decide +kernel) ⟨Nat.le_of_ble_eq_true rfl, Nat.le_of_ble_eq_true rfl⟩) ⟨fun a U g mk q => by obtain ⟨q0, qP, qK⟩ := q; exact ⟨q0, qP, va_K.moved (u := U) (U := U.calling g mk a) (Vm.Alike.refl U.vm) qK⟩, va_recv hK hP (ci := 3) (q0 := 3) rfl rfl, fun U hU hW => ⟨rfl, by rw [hU]; exact hPc_5, va_K.moved hW.alike hK⟩⟩ rfl rfl hl.1 rfl (lv_room (Nat.le_of_ble_eq_true rfl)) dX7_restore_22 ⟨Nat.le_of_ble_eq_true rfl, Nat.le_of_ble_eq_true rfl⟩) (fun r_5 h_5 => ?_)
        subst h_5
        refine lv_if_ne (tgt := 31) hx hb dX7_restore_25 (by decide) (fun c_ => absurd (by decide) c_) (fun _ => ?_)
        refine lv_ldc (own := RX7) (v := (-1000002)) hx hb hown (hts (.constant RX7 141 (-1000002)) (by decide +kernel)) dX7_restore_28 ?_
        exact W.iret (v := (-1000002)) hx hb hr (fun t ht hW => ⟨(-1000002), rfl, (by decide), ht⟩) (fun _ h => by cases h) dX7_restore_30
    · skip
      refine lv_ldc (own := RX7) (v := (-1000001)) hx hb hown (hts (.constant RX7 72 (-1000001)) (by decide +kernel)) dX7_restore_13 ?_
      exact W.iret (v := (-1000001)) hx hb hr (fun t ht hW => ⟨(-1000001), rfl, (by unfold an_image; grind), ht⟩) (fun _ h => by cases h) dX7_restore_15
set_option maxHeartbeats 4000000 in
set_option maxRecDepth 100000 in
theorem c_X7_set (l : Launch) (dC : Nat → ClassId) (dI : Nat → Nat → Nat) (cI cZ cL cJ : ClassId) (sz : Nat) (x : Nat) (ro : Nat) (ta : Nat) (no : Nat) (ac : Nat) (im : Nat) (tr : Nat) (pl : Nat) (cs : Nat) (ak : Nat) (it : Nat) (la : Nat) (le : Nat) (fl : Nat → Int32) (k0 : Int32) (k1 : Int32) (k2 : Int32) (hfl : ∀ j : Nat, j < 8 → fl j = -1) : Met l yX7_set wsX7_set ({ frames := 2, cells := 0, slots := 0, locals := 44 }) (va_Pc [.ref x, .int k0, .int k1, .int k2] (fun U => U.heap.size = sz ∧ va_P (dC, dI) vwCl [(x, .inr (7, [.ref ro, .ref ta, .ref no, .ref ac, .ref im, .ref tr, .ref pl, .ref cs, .ref ak, .int 0, .int 0])), (ro, .inr (5, [.ref it, .ref la, .ref le])), (la, .inl (cI, 8, .inl fl))] U.heap ∧ va_K (dC, dI) vwCl [(cI, .int), (cZ, .boolean), (cL, .object RX3), (cJ, .array .int)] U ∧ va_D (fun _ => True) [(x, .inr (7, [.ref ro, .ref ta, .ref no, .ref ac, .ref im, .ref tr, .ref pl, .ref cs, .ref ak, .int 0, .int 0])), (ro, .inr (5, [.ref it, .ref la, .ref le])), (la, .inl (cI, 8, .inl fl))])) (va_Qi (fun r (_ : Unit) => r = (an_set k0)) (fun (_ : Unit) t => True) (va_A [(x, .inr (7, [.ref ro, .ref ta, .ref no, .ref ac, .ref im, .ref tr, .ref pl, .ref cs, .ref ak, .int 0, .int 0])), (ro, .inr (5, [.ref it, .ref la, .ref le])), (la, .inl (cI, 8, .inl fl))] sz)) 0 0 (va_A [(x, .inr (7, [.ref ro, .ref ta, .ref no, .ref ac, .ref im, .ref tr, .ref pl, .ref cs, .ref ak, .int 0, .int 0])), (ro, .inr (5, [.ref it, .ref la, .ref le])), (la, .inl (cI, 8, .inl fl))] sz) := by
  refine Met.ofW (cc := cX7_set) (maxL := 5) (ret := (some .int)) (by decide) rfl ?_
  intro p e s m args below meth c s₁ B hml hv
  obtain ⟨rfl, hsz, hP, hK, hD0⟩ := hv
  have hx := B.exec
  have hb := B.bytes
  have hr := B.returns
  have hts := atoms_spec (ws := wsX7_set) B.pre
  have hown : s.vm.findClass RX7 = some m.cls := findClass_of_methodNamed B.named
  have hlocks := B.notSynchronized
  subst hsz
  have hD := hD0.self (sz := s.heap.size)
  generalize hAe : va_A [(x, .inr (7, [.ref ro, .ref ta, .ref no, .ref ac, .ref im, .ref tr, .ref pl, .ref cs, .ref ak, .int 0, .int 0])), (ro, .inr (5, [.ref it, .ref la, .ref le])), (la, .inl (cI, 8, .inl fl))] s.heap.size = A at hD ⊢
  have hA : ∀ q : Nat, s.heap.size ≤ q → A q := fun q h => by rw [← hAe]; exact Or.inr h
  have hS : va_S A s.heap s.heap [] := va_S.rf
  have hP : va_P (dC, dI) vwCl [(x, .inr (7, [.ref ro, .ref ta, .ref no, .ref ac, .ref im, .ref tr, .ref pl, .ref cs, .ref ak, .int 0, .int 0])), (ro, .inr (5, [.ref it, .ref la, .ref le])), (la, .inl (cI, 8, .inl fl))] s.heap := hP
  have hl := lv_entry ([.ref x, .int k0, .int k1, .int k2]) (n := 5) (Nat.le_of_ble_eq_true rfl)
  rw [lg_entry_eq]
  generalize (lg_sl ([.ref x, .int k0, .int k1, .int k2]) ++ List.replicate (5 - (lg_sl ([.ref x, .int k0, .int k1, .int k2])).length) Slot.unset).toArray = ls at hl ⊢
  have hl : lv_has ls 5 [(0, .ref x), (1, .int k0), (2, .int k1), (3, .int k2)] := hl
  refine lv_iload_n hx hb dX7_set_0 rfl (lv_at hl 1 rfl) ?_
  have hPc_1 := hP.sub (ws' := []) [] rfl
  refine vp_callSi (W.runS (As := [.int k0]) (rest := []) ⟨hx, hb, hml, hown, hts⟩ (c_X5_isRow l dC dI cI cZ cL cJ k0 ) (va_cwS 1 hts gX7_set_X5_isRow rfl rfl rfl (by decide +kernel) ⟨Nat.le_of_ble_eq_true rfl, Nat.le_of_ble_eq_true rfl⟩) ⟨fun a U g mk q => by obtain ⟨q0, qP, qK⟩ := q; exact ⟨q0, qP, va_K.moved (u := U) (U := U.calling g mk a) (Vm.Alike.refl U.vm) qK⟩, fun U hU hW => ⟨rfl, by rw [hU]; exact hPc_1, va_K.moved hW.alike hK⟩⟩ rfl rfl hl.1 rfl (lv_room (Nat.le_of_ble_eq_true rfl)) dX7_set_1 ⟨Nat.le_of_ble_eq_true rfl, Nat.le_of_ble_eq_true rfl⟩) (fun r_1 h_1 => ?_)
  rcases h_1 with ⟨h_1, f_1_0_0⟩ | ⟨h_1, f_1_1_0⟩
  · subst h_1
    refine lv_if_ne (tgt := 10) hx hb dX7_set_4 (by decide) (fun c_ => absurd (by decide) c_) (fun _ => ?_)
    refine lv_ldc (own := RX7) (v := (-1000001)) hx hb hown (hts (.constant RX7 72 (-1000001)) (by decide +kernel)) dX7_set_7 ?_
    exact W.iret (v := (-1000001)) hx hb hr (fun t ht hW => ⟨⟨(-1000001), (), rfl, (by unfold an_set; grind), trivial⟩, hS.F ht⟩) hS.2.2 dX7_set_9
  · subst h_1
    refine lv_if_ne (tgt := 10) hx hb dX7_set_4 (by decide) (fun _ => ?_) (fun c_ => absurd c_ (by decide))
    refine lv_aload_n hx hb dX7_set_10 rfl (lv_at hl 0 rfl) ?_
    refine va_get (D := (dC, dI)) (ci := 7) (v := .ref ro) (C := RX7) (T := TX7) (N := 11) hx hb hts i_X7_set_X7 hown hK hP 0 rfl rfl 0 (by decide) (hts (.fieldLink RX7 10 "MillTalk" "rows" "LMillTalk$Rows;") (by decide +kernel)) (fun _ h9 => h9) rfl dX7_set_11 ?_
    refine lv_iload_n hx hb dX7_set_14 rfl (lv_at hl 1 rfl) ?_
    refine lv_iload_n hx hb dX7_set_15 rfl (lv_at hl 2 rfl) ?_
    refine lv_iconst (v := 1) hx hb dX7_set_16 (by decide) ?_
    have hPc_4 := hP.sub (ws' := [(ro, .inr (5, [.ref it, .ref la, .ref le])), (la, .inl (cI, 8, .inl fl))]) [1, 2] rfl
    refine vp_callSi (W.runV (As := [.int k0, .int k1, .int 1]) (rest := []) ⟨hx, hb, hml, hown, hts⟩ (c_X5_findingOf l dC dI cI cZ cL cJ ro it la le fl k0 k1 1 (hfl) (in_8 f_1_1_0)) (cwV 3 hts gX7_set_X5_findingOf rfl rfl rfl (by decide +kernel) ⟨Nat.le_of_ble_eq_true rfl, Nat.le_of_ble_eq_true rfl⟩) ⟨fun a U g mk q => by obtain ⟨q0, qP, qK⟩ := q; exact ⟨q0, qP, va_K.moved (u := U) (U := U.calling g mk a) (Vm.Alike.refl U.vm) qK⟩, va_recv hK hP (ci := 5) (q0 := 1) rfl rfl, fun U hU hW => ⟨rfl, by rw [hU]; exact hPc_4, va_K.moved hW.alike hK⟩⟩ rfl rfl hl.1 rfl (lv_room (Nat.le_of_ble_eq_true rfl)) dX7_set_17 ⟨Nat.le_of_ble_eq_true rfl, Nat.le_of_ble_eq_true rfl⟩) (fun r_4 h_4 => ?_)
    subst h_4
    refine lv_istore (lv' := [(4, .int 1), (0, .ref x), (1, .int k0), (2, .int k1), (3, .int k2)]) hx hb dX7_set_20 hl (by decide) rfl (fun ls hl => ?_)
    refine lv_iload hx hb dX7_set_22 (lv_at hl 0 rfl) ?_
    refine lv_if_eq (tgt := 34) hx hb dX7_set_24 (by decide) (fun c_ => absurd c_ (by decide)) (fun _ => ?_)
    refine lv_aload_n hx hb dX7_set_27 rfl (lv_at hl 1 rfl) ?_
    refine lv_iload hx hb dX7_set_28 (lv_at hl 0 rfl) ?_
    have hPc_6 := hP.sub (ws' := [(x, .inr (7, [.ref ro, .ref ta, .ref no, .ref ac, .ref im, .ref tr, .ref pl, .ref cs, .ref ak, .int 0, .int 0]))]) [0] rfl
    have hDc_6 := hD.sub (ws' := [(x, .inr (7, [.ref ro, .ref ta, .ref no, .ref ac, .ref im, .ref tr, .ref pl, .ref cs, .ref ak, .int 0, .int 0]))]) [0] (by decide) rfl
    have hFc_6 := va_free (wc := [(x, .inr (7, [.ref ro, .ref ta, .ref no, .ref ac, .ref im, .ref tr, .ref pl, .ref cs, .ref ak, .int 0, .int 0]))]) hD hS hA [0] rfl
    refine va_calli (va_runV (As := [.int 1]) (rest := []) ⟨hx, hb, hml, hown, hts⟩ (c_X7_found l dC dI cI cZ cL cJ s.heap.size x ro ta no ac im tr pl cs ak 1 (-1000011) (by decide)) (cwV 1 hts gX7_set_X7_found rfl rfl rfl (by decide +kernel) ⟨Nat.le_of_ble_eq_true rfl, Nat.le_of_ble_eq_true rfl⟩) ⟨fun a U g mk q => by obtain ⟨q0, q1, qP, qK, qD⟩ := q; exact ⟨q0, q1, qP, va_K.moved (u := U) (U := U.calling g mk a) (Vm.Alike.refl U.vm) qK, qD⟩, va_recv hK hP (ci := 7) (q0 := 0) rfl rfl, fun U hU hW => ⟨rfl, by rw [hU], by rw [hU]; exact hPc_6, va_K.moved hW.alike hK, hDc_6.weaken (fun _ _ _ _ => trivial)⟩⟩ rfl rfl hl.1 rfl (lv_room (Nat.le_of_ble_eq_true rfl)) dX7_set_30 ⟨Nat.le_of_ble_eq_true rfl, Nat.le_of_ble_eq_true rfl⟩) hS (fun q _ h => hFc_6 q h) hFc_6 (fun r_6 u_6 t_6 H1 locs ht hvm h_6 hB hz1 hk1 hS => ?_)
    have hP1 : va_P (dC, dI) vwCl [] H1 := fun k q h => by simp at h
    have hD1 : va_D (va_A [(x, .inr (7, [.ref ro, .ref ta, .ref no, .ref ac, .ref im, .ref tr, .ref pl, .ref cs, .ref ak, .int 0, .int 0]))] s.heap.size) [] := ⟨fun i j p q h => by simp at h, fun k q h => by simp at h⟩
    obtain ⟨hP, hD⟩ := va_join (wr := [(ro, .inr (5, [.ref it, .ref la, .ref le])), (la, .inl (cI, 8, .inl fl))]) (w1 := []) hP hD [0] [1, 2] rfl rfl (by decide) (by decide) hk1 hFc_6 hP1 hD1
    generalize H1 = H at hP hS ⊢
    have hP : va_P (dC, dI) vwCl [(ro, .inr (5, [.ref it, .ref la, .ref le])), (la, .inl (cI, 8, .inl fl))] H := hP
    have hD : va_D A [(ro, .inr (5, [.ref it, .ref la, .ref le])), (la, .inl (cI, 8, .inl fl))] := hD
    subst h_6
    exact W.iret (v := (-1000011)) hx hb hr (fun t ht hW => ⟨⟨(-1000011), (), rfl, (by unfold an_set; grind), trivial⟩, hS.F ht⟩) hS.2.2 dX7_set_33
set_option maxHeartbeats 4000000 in
set_option maxRecDepth 100000 in
theorem c_X7_copy (l : Launch) (dC : Nat → ClassId) (dI : Nat → Nat → Nat) (cI cZ cL cJ : ClassId) (sz : Nat) (x : Nat) (ro : Nat) (ta : Nat) (no : Nat) (ac : Nat) (im : Nat) (tr : Nat) (pl : Nat) (cs : Nat) (ak : Nat) (it : Nat) (la : Nat) (le : Nat) (fl : Nat → Int32) (k0 : Int32) (k1 : Int32) (k2 : Int32) (k3 : Int32) (k4 : Int32) (hfl : ∀ j : Nat, j < 8 → fl j = -1) : Met l yX7_copy wsX7_copy ({ frames := 2, cells := 0, slots := 0, locals := 46 }) (va_Pc [.ref x, .int k0, .int k1, .int k2, .int k3, .int k4] (fun U => U.heap.size = sz ∧ va_P (dC, dI) vwCl [(x, .inr (7, [.ref ro, .ref ta, .ref no, .ref ac, .ref im, .ref tr, .ref pl, .ref cs, .ref ak, .int 0, .int 0])), (ro, .inr (5, [.ref it, .ref la, .ref le])), (la, .inl (cI, 8, .inl fl))] U.heap ∧ va_K (dC, dI) vwCl [(cI, .int), (cZ, .boolean), (cL, .object RX3), (cJ, .array .int)] U ∧ va_D (fun _ => True) [(x, .inr (7, [.ref ro, .ref ta, .ref no, .ref ac, .ref im, .ref tr, .ref pl, .ref cs, .ref ak, .int 0, .int 0])), (ro, .inr (5, [.ref it, .ref la, .ref le])), (la, .inl (cI, 8, .inl fl))])) (va_Qi (fun r (_ : Unit) => r = (an_copy k0 k2)) (fun (_ : Unit) t => True) (va_A [(x, .inr (7, [.ref ro, .ref ta, .ref no, .ref ac, .ref im, .ref tr, .ref pl, .ref cs, .ref ak, .int 0, .int 0])), (ro, .inr (5, [.ref it, .ref la, .ref le])), (la, .inl (cI, 8, .inl fl))] sz)) 0 0 (va_A [(x, .inr (7, [.ref ro, .ref ta, .ref no, .ref ac, .ref im, .ref tr, .ref pl, .ref cs, .ref ak, .int 0, .int 0])), (ro, .inr (5, [.ref it, .ref la, .ref le])), (la, .inl (cI, 8, .inl fl))] sz) := by
  refine Met.ofW (cc := cX7_copy) (maxL := 7) (ret := (some .int)) (by decide) rfl ?_
  intro p e s m args below meth c s₁ B hml hv
  obtain ⟨rfl, hsz, hP, hK, hD0⟩ := hv
  have hx := B.exec
  have hb := B.bytes
  have hr := B.returns
  have hts := atoms_spec (ws := wsX7_copy) B.pre
  have hown : s.vm.findClass RX7 = some m.cls := findClass_of_methodNamed B.named
  have hlocks := B.notSynchronized
  subst hsz
  have hD := hD0.self (sz := s.heap.size)
  generalize hAe : va_A [(x, .inr (7, [.ref ro, .ref ta, .ref no, .ref ac, .ref im, .ref tr, .ref pl, .ref cs, .ref ak, .int 0, .int 0])), (ro, .inr (5, [.ref it, .ref la, .ref le])), (la, .inl (cI, 8, .inl fl))] s.heap.size = A at hD ⊢
  have hA : ∀ q : Nat, s.heap.size ≤ q → A q := fun q h => by rw [← hAe]; exact Or.inr h
  have hS : va_S A s.heap s.heap [] := va_S.rf
  have hP : va_P (dC, dI) vwCl [(x, .inr (7, [.ref ro, .ref ta, .ref no, .ref ac, .ref im, .ref tr, .ref pl, .ref cs, .ref ak, .int 0, .int 0])), (ro, .inr (5, [.ref it, .ref la, .ref le])), (la, .inl (cI, 8, .inl fl))] s.heap := hP
  have hl := lv_entry ([.ref x, .int k0, .int k1, .int k2, .int k3, .int k4]) (n := 7) (Nat.le_of_ble_eq_true rfl)
  rw [lg_entry_eq]
  generalize (lg_sl ([.ref x, .int k0, .int k1, .int k2, .int k3, .int k4]) ++ List.replicate (7 - (lg_sl ([.ref x, .int k0, .int k1, .int k2, .int k3, .int k4])).length) Slot.unset).toArray = ls at hl ⊢
  have hl : lv_has ls 7 [(0, .ref x), (1, .int k0), (2, .int k1), (3, .int k2), (4, .int k3), (5, .int k4)] := hl
  refine lv_iload_n hx hb dX7_copy_0 rfl (lv_at hl 1 rfl) ?_
  have hPc_1 := hP.sub (ws' := []) [] rfl
  refine vp_callSi (W.runS (As := [.int k0]) (rest := []) ⟨hx, hb, hml, hown, hts⟩ (c_X5_isRow l dC dI cI cZ cL cJ k0 ) (va_cwS 1 hts gX7_copy_X5_isRow rfl rfl rfl (by decide +kernel) ⟨Nat.le_of_ble_eq_true rfl, Nat.le_of_ble_eq_true rfl⟩) ⟨fun a U g mk q => by obtain ⟨q0, qP, qK⟩ := q; exact ⟨q0, qP, va_K.moved (u := U) (U := U.calling g mk a) (Vm.Alike.refl U.vm) qK⟩, fun U hU hW => ⟨rfl, by rw [hU]; exact hPc_1, va_K.moved hW.alike hK⟩⟩ rfl rfl hl.1 rfl (lv_room (Nat.le_of_ble_eq_true rfl)) dX7_copy_1 ⟨Nat.le_of_ble_eq_true rfl, Nat.le_of_ble_eq_true rfl⟩) (fun r_1 h_1 => ?_)
  rcases h_1 with ⟨h_1, f_1_0_0⟩ | ⟨h_1, f_1_1_0⟩
  · subst h_1
    refine lv_if_eq (tgt := 14) hx hb dX7_copy_4 (by decide) (fun _ => ?_) (fun c_ => absurd (by decide) c_)
    refine lv_ldc (own := RX7) (v := (-1000001)) hx hb hown (hts (.constant RX7 72 (-1000001)) (by decide +kernel)) dX7_copy_14 ?_
    exact W.iret (v := (-1000001)) hx hb hr (fun t ht hW => ⟨⟨(-1000001), (), rfl, (by unfold an_copy; grind), trivial⟩, hS.F ht⟩) hS.2.2 dX7_copy_16
  · subst h_1
    refine lv_if_eq (tgt := 14) hx hb dX7_copy_4 (by decide) (fun c_ => absurd c_ (by decide)) (fun _ => ?_)
    refine lv_iload_n hx hb dX7_copy_7 rfl (lv_at hl 3 rfl) ?_
    have hPc_4 := hP.sub (ws' := []) [] rfl
    refine vp_callSi (W.runS (As := [.int k2]) (rest := []) ⟨hx, hb, hml, hown, hts⟩ (c_X5_isRow l dC dI cI cZ cL cJ k2 ) (va_cwS 1 hts gX7_copy_X5_isRow rfl rfl rfl (by decide +kernel) ⟨Nat.le_of_ble_eq_true rfl, Nat.le_of_ble_eq_true rfl⟩) ⟨fun a U g mk q => by obtain ⟨q0, qP, qK⟩ := q; exact ⟨q0, qP, va_K.moved (u := U) (U := U.calling g mk a) (Vm.Alike.refl U.vm) qK⟩, fun U hU hW => ⟨rfl, by rw [hU]; exact hPc_4, va_K.moved hW.alike hK⟩⟩ rfl rfl hl.1 rfl (lv_room (Nat.le_of_ble_eq_true rfl)) dX7_copy_8 ⟨Nat.le_of_ble_eq_true rfl, Nat.le_of_ble_eq_true rfl⟩) (fun r_4 h_4 => ?_)
    rcases h_4 with ⟨h_4, f_4_0_0⟩ | ⟨h_4, f_4_1_0⟩
    · subst h_4
      refine lv_if_ne (tgt := 17) hx hb dX7_copy_11 (by decide) (fun c_ => absurd (by decide) c_) (fun _ => ?_)
      refine lv_ldc (own := RX7) (v := (-1000001)) hx hb hown (hts (.constant RX7 72 (-1000001)) (by decide +kernel)) dX7_copy_14 ?_
      exact W.iret (v := (-1000001)) hx hb hr (fun t ht hW => ⟨⟨(-1000001), (), rfl, (by unfold an_copy; grind), trivial⟩, hS.F ht⟩) hS.2.2 dX7_copy_16
    · subst h_4
      refine lv_if_ne (tgt := 17) hx hb dX7_copy_11 (by decide) (fun _ => ?_) (fun c_ => absurd c_ (by decide))
      refine lv_aload_n hx hb dX7_copy_17 rfl (lv_at hl 0 rfl) ?_
      refine va_get (D := (dC, dI)) (ci := 7) (v := .ref ro) (C := RX7) (T := TX7) (N := 11) hx hb hts i_X7_copy_X7 hown hK hP 0 rfl rfl 0 (by decide) (hts (.fieldLink RX7 10 "MillTalk" "rows" "LMillTalk$Rows;") (by decide +kernel)) (fun _ h9 => h9) rfl dX7_copy_18 ?_
      refine lv_iload_n hx hb dX7_copy_21 rfl (lv_at hl 1 rfl) ?_
      refine lv_iload_n hx hb dX7_copy_22 rfl (lv_at hl 2 rfl) ?_
      refine lv_iload_n hx hb dX7_copy_23 rfl (lv_at hl 3 rfl) ?_
      refine lv_iload hx hb dX7_copy_24 (lv_at hl 4 rfl) ?_
      refine lv_iload hx hb dX7_copy_26 (lv_at hl 5 rfl) ?_
      have hPc_7 := hP.sub (ws' := [(ro, .inr (5, [.ref it, .ref la, .ref le])), (la, .inl (cI, 8, .inl fl))]) [1, 2] rfl
      refine vp_callSi (W.runV (As := [.int k0, .int k1, .int k2, .int k3, .int k4]) (rest := []) ⟨hx, hb, hml, hown, hts⟩ (c_X5_findingOfMove l dC dI cI cZ cL cJ ro it la le fl k0 k1 k2 k3 k4 (hfl) (in_8 f_1_1_0)) (cwV 5 hts gX7_copy_X5_findingOfMove rfl rfl rfl (by decide +kernel) ⟨Nat.le_of_ble_eq_true rfl, Nat.le_of_ble_eq_true rfl⟩) ⟨fun a U g mk q => by obtain ⟨q0, qP, qK⟩ := q; exact ⟨q0, qP, va_K.moved (u := U) (U := U.calling g mk a) (Vm.Alike.refl U.vm) qK⟩, va_recv hK hP (ci := 5) (q0 := 1) rfl rfl, fun U hU hW => ⟨rfl, by rw [hU]; exact hPc_7, va_K.moved hW.alike hK⟩⟩ rfl rfl hl.1 rfl (lv_room (Nat.le_of_ble_eq_true rfl)) dX7_copy_28 ⟨Nat.le_of_ble_eq_true rfl, Nat.le_of_ble_eq_true rfl⟩) (fun r_7 h_7 => ?_)
      subst h_7
      refine lv_istore (lv' := [(6, .int 1), (0, .ref x), (1, .int k0), (2, .int k1), (3, .int k2), (4, .int k3), (5, .int k4)]) hx hb dX7_copy_31 hl (by decide) rfl (fun ls hl => ?_)
      refine lv_iload hx hb dX7_copy_33 (lv_at hl 0 rfl) ?_
      refine lv_if_eq (tgt := 45) hx hb dX7_copy_35 (by decide) (fun c_ => absurd c_ (by decide)) (fun _ => ?_)
      refine lv_aload_n hx hb dX7_copy_38 rfl (lv_at hl 1 rfl) ?_
      refine lv_iload hx hb dX7_copy_39 (lv_at hl 0 rfl) ?_
      have hPc_9 := hP.sub (ws' := [(x, .inr (7, [.ref ro, .ref ta, .ref no, .ref ac, .ref im, .ref tr, .ref pl, .ref cs, .ref ak, .int 0, .int 0]))]) [0] rfl
      have hDc_9 := hD.sub (ws' := [(x, .inr (7, [.ref ro, .ref ta, .ref no, .ref ac, .ref im, .ref tr, .ref pl, .ref cs, .ref ak, .int 0, .int 0]))]) [0] (by decide) rfl
      have hFc_9 := va_free (wc := [(x, .inr (7, [.ref ro, .ref ta, .ref no, .ref ac, .ref im, .ref tr, .ref pl, .ref cs, .ref ak, .int 0, .int 0]))]) hD hS hA [0] rfl
      refine va_calli (va_runV (As := [.int 1]) (rest := []) ⟨hx, hb, hml, hown, hts⟩ (c_X7_found l dC dI cI cZ cL cJ s.heap.size x ro ta no ac im tr pl cs ak 1 (-1000011) (by decide)) (cwV 1 hts gX7_copy_X7_found rfl rfl rfl (by decide +kernel) ⟨Nat.le_of_ble_eq_true rfl, Nat.le_of_ble_eq_true rfl⟩) ⟨fun a U g mk q => by obtain ⟨q0, q1, qP, qK, qD⟩ := q; exact ⟨q0, q1, qP, va_K.moved (u := U) (U := U.calling g mk a) (Vm.Alike.refl U.vm) qK, qD⟩, va_recv hK hP (ci := 7) (q0 := 0) rfl rfl, fun U hU hW => ⟨rfl, by rw [hU], by rw [hU]; exact hPc_9, va_K.moved hW.alike hK, hDc_9.weaken (fun _ _ _ _ => trivial)⟩⟩ rfl rfl hl.1 rfl (lv_room (Nat.le_of_ble_eq_true rfl)) dX7_copy_41 ⟨Nat.le_of_ble_eq_true rfl, Nat.le_of_ble_eq_true rfl⟩) hS (fun q _ h => hFc_9 q h) hFc_9 (fun r_9 u_9 t_9 H1 locs ht hvm h_9 hB hz1 hk1 hS => ?_)
      have hP1 : va_P (dC, dI) vwCl [] H1 := fun k q h => by simp at h
      have hD1 : va_D (va_A [(x, .inr (7, [.ref ro, .ref ta, .ref no, .ref ac, .ref im, .ref tr, .ref pl, .ref cs, .ref ak, .int 0, .int 0]))] s.heap.size) [] := ⟨fun i j p q h => by simp at h, fun k q h => by simp at h⟩
      obtain ⟨hP, hD⟩ := va_join (wr := [(ro, .inr (5, [.ref it, .ref la, .ref le])), (la, .inl (cI, 8, .inl fl))]) (w1 := []) hP hD [0] [1, 2] rfl rfl (by decide) (by decide) hk1 hFc_9 hP1 hD1
      generalize H1 = H at hP hS ⊢
      have hP : va_P (dC, dI) vwCl [(ro, .inr (5, [.ref it, .ref la, .ref le])), (la, .inl (cI, 8, .inl fl))] H := hP
      have hD : va_D A [(ro, .inr (5, [.ref it, .ref la, .ref le])), (la, .inl (cI, 8, .inl fl))] := hD
      subst h_9
      exact W.iret (v := (-1000011)) hx hb hr (fun t ht hW => ⟨⟨(-1000011), (), rfl, (by unfold an_copy; grind), trivial⟩, hS.F ht⟩) hS.2.2 dX7_copy_44
set_option maxHeartbeats 4000000 in
set_option maxRecDepth 100000 in
theorem c_X7_drop (l : Launch) (dC : Nat → ClassId) (dI : Nat → Nat → Nat) (cI cZ cL cJ : ClassId) (sz : Nat) (x : Nat) (ro : Nat) (ta : Nat) (no : Nat) (ac : Nat) (im : Nat) (tr : Nat) (pl : Nat) (cs : Nat) (ak : Nat) (it : Nat) (la : Nat) (le : Nat) (fl : Nat → Int32) (k0 : Int32) (hfl : ∀ j : Nat, j < 8 → fl j = -1) : Met l yX7_drop wsX7_drop ({ frames := 1, cells := 0, slots := 0, locals := 21 }) (va_Pc [.ref x, .int k0] (fun U => U.heap.size = sz ∧ va_P (dC, dI) vwCl [(x, .inr (7, [.ref ro, .ref ta, .ref no, .ref ac, .ref im, .ref tr, .ref pl, .ref cs, .ref ak, .int 0, .int 0])), (ro, .inr (5, [.ref it, .ref la, .ref le])), (la, .inl (cI, 8, .inl fl))] U.heap ∧ va_K (dC, dI) vwCl [(cI, .int), (cZ, .boolean), (cL, .object RX3), (cJ, .array .int)] U ∧ va_D (fun _ => True) [(x, .inr (7, [.ref ro, .ref ta, .ref no, .ref ac, .ref im, .ref tr, .ref pl, .ref cs, .ref ak, .int 0, .int 0])), (ro, .inr (5, [.ref it, .ref la, .ref le])), (la, .inl (cI, 8, .inl fl))])) (va_Qi (fun r (_ : Unit) => r = (an_set k0)) (fun (_ : Unit) t => True) (va_A [(x, .inr (7, [.ref ro, .ref ta, .ref no, .ref ac, .ref im, .ref tr, .ref pl, .ref cs, .ref ak, .int 0, .int 0])), (ro, .inr (5, [.ref it, .ref la, .ref le])), (la, .inl (cI, 8, .inl fl))] sz)) 0 0 (va_A [(x, .inr (7, [.ref ro, .ref ta, .ref no, .ref ac, .ref im, .ref tr, .ref pl, .ref cs, .ref ak, .int 0, .int 0])), (ro, .inr (5, [.ref it, .ref la, .ref le])), (la, .inl (cI, 8, .inl fl))] sz) := by
  refine Met.ofW (cc := cX7_drop) (maxL := 2) (ret := (some .int)) (by decide) rfl ?_
  intro p e s m args below meth c s₁ B hml hv
  obtain ⟨rfl, hsz, hP, hK, hD0⟩ := hv
  have hx := B.exec
  have hb := B.bytes
  have hr := B.returns
  have hts := atoms_spec (ws := wsX7_drop) B.pre
  have hown : s.vm.findClass RX7 = some m.cls := findClass_of_methodNamed B.named
  have hlocks := B.notSynchronized
  subst hsz
  have hD := hD0.self (sz := s.heap.size)
  generalize hAe : va_A [(x, .inr (7, [.ref ro, .ref ta, .ref no, .ref ac, .ref im, .ref tr, .ref pl, .ref cs, .ref ak, .int 0, .int 0])), (ro, .inr (5, [.ref it, .ref la, .ref le])), (la, .inl (cI, 8, .inl fl))] s.heap.size = A at hD ⊢
  have hA : ∀ q : Nat, s.heap.size ≤ q → A q := fun q h => by rw [← hAe]; exact Or.inr h
  have hS : va_S A s.heap s.heap [] := va_S.rf
  have hP : va_P (dC, dI) vwCl [(x, .inr (7, [.ref ro, .ref ta, .ref no, .ref ac, .ref im, .ref tr, .ref pl, .ref cs, .ref ak, .int 0, .int 0])), (ro, .inr (5, [.ref it, .ref la, .ref le])), (la, .inl (cI, 8, .inl fl))] s.heap := hP
  have hl := lv_entry ([.ref x, .int k0]) (n := 2) (Nat.le_of_ble_eq_true rfl)
  rw [lg_entry_eq]
  generalize (lg_sl ([.ref x, .int k0]) ++ List.replicate (2 - (lg_sl ([.ref x, .int k0])).length) Slot.unset).toArray = ls at hl ⊢
  have hl : lv_has ls 2 [(0, .ref x), (1, .int k0)] := hl
  refine lv_iload_n hx hb dX7_drop_0 rfl (lv_at hl 1 rfl) ?_
  have hPc_1 := hP.sub (ws' := []) [] rfl
  refine vp_callSi (W.runS (As := [.int k0]) (rest := []) ⟨hx, hb, hml, hown, hts⟩ (c_X5_isRow l dC dI cI cZ cL cJ k0 ) (va_cwS 1 hts gX7_drop_X5_isRow rfl rfl rfl (by decide +kernel) ⟨Nat.le_of_ble_eq_true rfl, Nat.le_of_ble_eq_true rfl⟩) ⟨fun a U g mk q => by obtain ⟨q0, qP, qK⟩ := q; exact ⟨q0, qP, va_K.moved (u := U) (U := U.calling g mk a) (Vm.Alike.refl U.vm) qK⟩, fun U hU hW => ⟨rfl, by rw [hU]; exact hPc_1, va_K.moved hW.alike hK⟩⟩ rfl rfl hl.1 rfl (lv_room (Nat.le_of_ble_eq_true rfl)) dX7_drop_1 ⟨Nat.le_of_ble_eq_true rfl, Nat.le_of_ble_eq_true rfl⟩) (fun r_1 h_1 => ?_)
  rcases h_1 with ⟨h_1, f_1_0_0⟩ | ⟨h_1, f_1_1_0⟩
  · subst h_1
    refine lv_if_ne (tgt := 10) hx hb dX7_drop_4 (by decide) (fun c_ => absurd (by decide) c_) (fun _ => ?_)
    refine lv_ldc (own := RX7) (v := (-1000001)) hx hb hown (hts (.constant RX7 72 (-1000001)) (by decide +kernel)) dX7_drop_7 ?_
    exact W.iret (v := (-1000001)) hx hb hr (fun t ht hW => ⟨⟨(-1000001), (), rfl, (by unfold an_set; grind), trivial⟩, hS.F ht⟩) hS.2.2 dX7_drop_9
  · subst h_1
    refine lv_if_ne (tgt := 10) hx hb dX7_drop_4 (by decide) (fun _ => ?_) (fun c_ => absurd c_ (by decide))
    refine lv_aload_n hx hb dX7_drop_10 rfl (lv_at hl 0 rfl) ?_
    refine va_get (D := (dC, dI)) (ci := 7) (v := .ref ro) (C := RX7) (T := TX7) (N := 11) hx hb hts i_X7_drop_X7 hown hK hP 0 rfl rfl 0 (by decide) (hts (.fieldLink RX7 10 "MillTalk" "rows" "LMillTalk$Rows;") (by decide +kernel)) (fun _ h9 => h9) rfl dX7_drop_11 ?_
    refine lv_iload_n hx hb dX7_drop_14 rfl (lv_at hl 1 rfl) ?_
    have hPc_4 := hP.sub (ws' := [(ro, .inr (5, [.ref it, .ref la, .ref le])), (la, .inl (cI, 8, .inl fl))]) [1, 2] rfl
    refine vp_callSi (W.runV (As := [.int k0]) (rest := []) ⟨hx, hb, hml, hown, hts⟩ (c_X5_isMissing l dC dI cI cZ cL cJ ro it la le fl k0 (hfl) (in_8 f_1_1_0)) (cwV 1 hts gX7_drop_X5_isMissing rfl rfl rfl (by decide +kernel) ⟨Nat.le_of_ble_eq_true rfl, Nat.le_of_ble_eq_true rfl⟩) ⟨fun a U g mk q => by obtain ⟨q0, qP, qK⟩ := q; exact ⟨q0, qP, va_K.moved (u := U) (U := U.calling g mk a) (Vm.Alike.refl U.vm) qK⟩, va_recv hK hP (ci := 5) (q0 := 1) rfl rfl, fun U hU hW => ⟨rfl, by rw [hU]; exact hPc_4, va_K.moved hW.alike hK⟩⟩ rfl rfl hl.1 rfl (lv_room (Nat.le_of_ble_eq_true rfl)) dX7_drop_15 ⟨Nat.le_of_ble_eq_true rfl, Nat.le_of_ble_eq_true rfl⟩) (fun r_4 h_4 => ?_)
    subst h_4
    refine lv_if_eq (tgt := 27) hx hb dX7_drop_18 (by decide) (fun c_ => absurd c_ (by decide)) (fun _ => ?_)
    refine lv_aload_n hx hb dX7_drop_21 rfl (lv_at hl 0 rfl) ?_
    refine lv_iconst (v := 1) hx hb dX7_drop_22 (by decide) ?_
    have hPc_6 := hP.sub (ws' := [(x, .inr (7, [.ref ro, .ref ta, .ref no, .ref ac, .ref im, .ref tr, .ref pl, .ref cs, .ref ak, .int 0, .int 0]))]) [0] rfl
    have hDc_6 := hD.sub (ws' := [(x, .inr (7, [.ref ro, .ref ta, .ref no, .ref ac, .ref im, .ref tr, .ref pl, .ref cs, .ref ak, .int 0, .int 0]))]) [0] (by decide) rfl
    have hFc_6 := va_free (wc := [(x, .inr (7, [.ref ro, .ref ta, .ref no, .ref ac, .ref im, .ref tr, .ref pl, .ref cs, .ref ak, .int 0, .int 0]))]) hD hS hA [0] rfl
    refine va_calli (va_runV (As := [.int 1]) (rest := []) ⟨hx, hb, hml, hown, hts⟩ (c_X7_found l dC dI cI cZ cL cJ s.heap.size x ro ta no ac im tr pl cs ak 1 (-1000011) (by decide)) (cwV 1 hts gX7_drop_X7_found rfl rfl rfl (by decide +kernel) ⟨Nat.le_of_ble_eq_true rfl, Nat.le_of_ble_eq_true rfl⟩) ⟨fun a U g mk q => by obtain ⟨q0, q1, qP, qK, qD⟩ := q; exact ⟨q0, q1, qP, va_K.moved (u := U) (U := U.calling g mk a) (Vm.Alike.refl U.vm) qK, qD⟩, va_recv hK hP (ci := 7) (q0 := 0) rfl rfl, fun U hU hW => ⟨rfl, by rw [hU], by rw [hU]; exact hPc_6, va_K.moved hW.alike hK, hDc_6.weaken (fun _ _ _ _ => trivial)⟩⟩ rfl rfl hl.1 rfl (lv_room (Nat.le_of_ble_eq_true rfl)) dX7_drop_23 ⟨Nat.le_of_ble_eq_true rfl, Nat.le_of_ble_eq_true rfl⟩) hS (fun q _ h => hFc_6 q h) hFc_6 (fun r_6 u_6 t_6 H1 locs ht hvm h_6 hB hz1 hk1 hS => ?_)
    have hP1 : va_P (dC, dI) vwCl [] H1 := fun k q h => by simp at h
    have hD1 : va_D (va_A [(x, .inr (7, [.ref ro, .ref ta, .ref no, .ref ac, .ref im, .ref tr, .ref pl, .ref cs, .ref ak, .int 0, .int 0]))] s.heap.size) [] := ⟨fun i j p q h => by simp at h, fun k q h => by simp at h⟩
    obtain ⟨hP, hD⟩ := va_join (wr := [(ro, .inr (5, [.ref it, .ref la, .ref le])), (la, .inl (cI, 8, .inl fl))]) (w1 := []) hP hD [0] [1, 2] rfl rfl (by decide) (by decide) hk1 hFc_6 hP1 hD1
    generalize H1 = H at hP hS ⊢
    have hP : va_P (dC, dI) vwCl [(ro, .inr (5, [.ref it, .ref la, .ref le])), (la, .inl (cI, 8, .inl fl))] H := hP
    have hD : va_D A [(ro, .inr (5, [.ref it, .ref la, .ref le])), (la, .inl (cI, 8, .inl fl))] := hD
    subst h_6
    exact W.iret (v := (-1000011)) hx hb hr (fun t ht hW => ⟨⟨(-1000011), (), rfl, (by unfold an_set; grind), trivial⟩, hS.F ht⟩) hS.2.2 dX7_drop_26
set_option maxHeartbeats 4000000 in
set_option maxRecDepth 100000 in
theorem c_X7_row (l : Launch) (dC : Nat → ClassId) (dI : Nat → Nat → Nat) (cI cZ cL cJ : ClassId) (sz : Nat) (x : Nat) (ro : Nat) (ta : Nat) (no : Nat) (ac : Nat) (im : Nat) (tr : Nat) (pl : Nat) (cs : Nat) (ak : Nat) (it : Nat) (la : Nat) (le : Nat) (fl : Nat → Int32) (fe : Nat → Int32) (fi : Nat → Option Nat) (y : Nat) (fy : Nat → Int32) (k0 : Int32) (k1 : Int32) (k2 : Int32) (hy : ¬ (k0 < 0 ∨ 8 ≤ k0) → fi k0.toNatClampNeg = some y) : Met l yX7_row wsX7_row ({ frames := 2, cells := 0, slots := 0, locals := 46 }) (va_Pc [.ref x, .int k0, .int k1, .int k2] (fun U => U.heap.size = sz ∧ va_P (dC, dI) vwCl [(x, .inr (7, [.ref ro, .ref ta, .ref no, .ref ac, .ref im, .ref tr, .ref pl, .ref cs, .ref ak, .int 0, .int 0])), (ro, .inr (5, [.ref it, .ref la, .ref le])), (la, .inl (cI, 8, .inl fl)), (le, .inl (cI, 8, .inl fe)), (it, .inl (cJ, 8, .inr (.inr (.inr (.inr fi))))), (y, .inl (cI, 40, .inl fy))] U.heap ∧ va_K (dC, dI) vwCl [(cI, .int), (cZ, .boolean), (cL, .object RX3), (cJ, .array .int)] U ∧ va_D (fun _ => True) [(x, .inr (7, [.ref ro, .ref ta, .ref no, .ref ac, .ref im, .ref tr, .ref pl, .ref cs, .ref ak, .int 0, .int 0])), (ro, .inr (5, [.ref it, .ref la, .ref le])), (la, .inl (cI, 8, .inl fl)), (le, .inl (cI, 8, .inl fe)), (it, .inl (cJ, 8, .inr (.inr (.inr (.inr fi))))), (y, .inl (cI, 40, .inl fy))])) (va_Qi (fun r (_ : Unit) => r = (an_row k0 k1 k2)) (fun (_ : Unit) t => True) (va_A [(x, .inr (7, [.ref ro, .ref ta, .ref no, .ref ac, .ref im, .ref tr, .ref pl, .ref cs, .ref ak, .int 0, .int 0])), (ro, .inr (5, [.ref it, .ref la, .ref le])), (la, .inl (cI, 8, .inl fl)), (le, .inl (cI, 8, .inl fe)), (it, .inl (cJ, 8, .inr (.inr (.inr (.inr fi))))), (y, .inl (cI, 40, .inl fy))] sz)) 0 0 (va_A [(x, .inr (7, [.ref ro, .ref ta, .ref no, .ref ac, .ref im, .ref tr, .ref pl, .ref cs, .ref ak, .int 0, .int 0])), (ro, .inr (5, [.ref it, .ref la, .ref le])), (la, .inl (cI, 8, .inl fl)), (le, .inl (cI, 8, .inl fe)), (it, .inl (cJ, 8, .inr (.inr (.inr (.inr fi))))), (y, .inl (cI, 40, .inl fy))] sz) := by
  refine Met.ofW (cc := cX7_row) (maxL := 4) (ret := (some .int)) (by decide) rfl ?_
  intro p e s m args below meth c s₁ B hml hv
  obtain ⟨rfl, hsz, hP, hK, hD0⟩ := hv
  have hx := B.exec
  have hb := B.bytes
  have hr := B.returns
  have hts := atoms_spec (ws := wsX7_row) B.pre
  have hown : s.vm.findClass RX7 = some m.cls := findClass_of_methodNamed B.named
  have hlocks := B.notSynchronized
  subst hsz
  have hD := hD0.self (sz := s.heap.size)
  generalize hAe : va_A [(x, .inr (7, [.ref ro, .ref ta, .ref no, .ref ac, .ref im, .ref tr, .ref pl, .ref cs, .ref ak, .int 0, .int 0])), (ro, .inr (5, [.ref it, .ref la, .ref le])), (la, .inl (cI, 8, .inl fl)), (le, .inl (cI, 8, .inl fe)), (it, .inl (cJ, 8, .inr (.inr (.inr (.inr fi))))), (y, .inl (cI, 40, .inl fy))] s.heap.size = A at hD ⊢
  have hA : ∀ q : Nat, s.heap.size ≤ q → A q := fun q h => by rw [← hAe]; exact Or.inr h
  have hS : va_S A s.heap s.heap [] := va_S.rf
  have hP : va_P (dC, dI) vwCl [(x, .inr (7, [.ref ro, .ref ta, .ref no, .ref ac, .ref im, .ref tr, .ref pl, .ref cs, .ref ak, .int 0, .int 0])), (ro, .inr (5, [.ref it, .ref la, .ref le])), (la, .inl (cI, 8, .inl fl)), (le, .inl (cI, 8, .inl fe)), (it, .inl (cJ, 8, .inr (.inr (.inr (.inr fi))))), (y, .inl (cI, 40, .inl fy))] s.heap := hP
  have hl := lv_entry ([.ref x, .int k0, .int k1, .int k2]) (n := 4) (Nat.le_of_ble_eq_true rfl)
  rw [lg_entry_eq]
  generalize (lg_sl ([.ref x, .int k0, .int k1, .int k2]) ++ List.replicate (4 - (lg_sl ([.ref x, .int k0, .int k1, .int k2])).length) Slot.unset).toArray = ls at hl ⊢
  have hl : lv_has ls 4 [(0, .ref x), (1, .int k0), (2, .int k1), (3, .int k2)] := hl
  refine lv_iload_n hx hb dX7_row_0 rfl (lv_at hl 1 rfl) ?_
  have hPc_1 := hP.sub (ws' := []) [] rfl
  refine vp_callSi (W.runS (As := [.int k0]) (rest := []) ⟨hx, hb, hml, hown, hts⟩ (c_X5_isRow l dC dI cI cZ cL cJ k0 ) (va_cwS 1 hts gX7_row_X5_isRow rfl rfl rfl (by decide +kernel) ⟨Nat.le_of_ble_eq_true rfl, Nat.le_of_ble_eq_true rfl⟩) ⟨fun a U g mk q => by obtain ⟨q0, qP, qK⟩ := q; exact ⟨q0, qP, va_K.moved (u := U) (U := U.calling g mk a) (Vm.Alike.refl U.vm) qK⟩, fun U hU hW => ⟨rfl, by rw [hU]; exact hPc_1, va_K.moved hW.alike hK⟩⟩ rfl rfl hl.1 rfl (lv_room (Nat.le_of_ble_eq_true rfl)) dX7_row_1 ⟨Nat.le_of_ble_eq_true rfl, Nat.le_of_ble_eq_true rfl⟩) (fun r_1 h_1 => ?_)
  rcases h_1 with ⟨h_1, f_1_0_0⟩ | ⟨h_1, f_1_1_0⟩
  · subst h_1
    refine lv_if_eq (tgt := 20) hx hb dX7_row_4 (by decide) (fun _ => ?_) (fun c_ => absurd (by decide) c_)
    refine lv_ldc (own := RX7) (v := (-1000001)) hx hb hown (hts (.constant RX7 72 (-1000001)) (by decide +kernel)) dX7_row_20 ?_
    exact W.iret (v := (-1000001)) hx hb hr (fun t ht hW => ⟨⟨(-1000001), (), rfl, (by unfold an_row; grind), trivial⟩, hS.F ht⟩) hS.2.2 dX7_row_22
  · subst h_1
    refine lv_if_eq (tgt := 20) hx hb dX7_row_4 (by decide) (fun c_ => absurd c_ (by decide)) (fun _ => ?_)
    refine lv_iload_n hx hb dX7_row_7 rfl (lv_at hl 2 rfl) ?_
    have hPc_4 := hP.sub (ws' := []) [] rfl
    refine vp_callSi (W.runS (As := [.int k1]) (rest := []) ⟨hx, hb, hml, hown, hts⟩ (c_X5_isLane l dC dI cI cZ cL cJ k1 ) (va_cwS 1 hts gX7_row_X5_isLane rfl rfl rfl (by decide +kernel) ⟨Nat.le_of_ble_eq_true rfl, Nat.le_of_ble_eq_true rfl⟩) ⟨fun a U g mk q => by obtain ⟨q0, qP, qK⟩ := q; exact ⟨q0, qP, va_K.moved (u := U) (U := U.calling g mk a) (Vm.Alike.refl U.vm) qK⟩, fun U hU hW => ⟨rfl, by rw [hU]; exact hPc_4, va_K.moved hW.alike hK⟩⟩ rfl rfl hl.1 rfl (lv_room (Nat.le_of_ble_eq_true rfl)) dX7_row_8 ⟨Nat.le_of_ble_eq_true rfl, Nat.le_of_ble_eq_true rfl⟩) (fun r_4 h_4 => ?_)
    rcases h_4 with ⟨h_4, f_4_0_0⟩ | ⟨h_4, f_4_1_0⟩
    · subst h_4
      refine lv_if_eq (tgt := 20) hx hb dX7_row_11 (by decide) (fun _ => ?_) (fun c_ => absurd (by decide) c_)
      refine lv_ldc (own := RX7) (v := (-1000001)) hx hb hown (hts (.constant RX7 72 (-1000001)) (by decide +kernel)) dX7_row_20 ?_
      exact W.iret (v := (-1000001)) hx hb hr (fun t ht hW => ⟨⟨(-1000001), (), rfl, (by unfold an_row; grind), trivial⟩, hS.F ht⟩) hS.2.2 dX7_row_22
    · subst h_4
      refine lv_if_eq (tgt := 20) hx hb dX7_row_11 (by decide) (fun c_ => absurd c_ (by decide)) (fun _ => ?_)
      refine lv_iload_n hx hb dX7_row_14 rfl (lv_at hl 3 rfl) ?_
      refine lv_bipush (v := 40) hx hb dX7_row_15 (by decide) ?_
      refine lv_icmp_le (tgt := 23) hx hb dX7_row_17 (by decide) (fun c_7 => ?_) (fun c_7 => ?_)
      · skip
        refine lv_iload_n hx hb dX7_row_23 rfl (lv_at hl 3 rfl) ?_
        refine lv_if_ge (tgt := 33) hx hb dX7_row_24 (by decide) (fun c_8 => ?_) (fun c_8 => ?_)
        · skip
          refine lv_aload_n hx hb dX7_row_33 rfl (lv_at hl 0 rfl) ?_
          refine va_get (D := (dC, dI)) (ci := 7) (v := .ref ro) (C := RX7) (T := TX7) (N := 11) hx hb hts i_X7_row_X7 hown hK hP 0 rfl rfl 0 (by decide) (hts (.fieldLink RX7 10 "MillTalk" "rows" "LMillTalk$Rows;") (by decide +kernel)) (fun _ h9 => h9) rfl dX7_row_34 ?_
          refine lv_iload_n hx hb dX7_row_37 rfl (lv_at hl 1 rfl) ?_
          refine lv_iload_n hx hb dX7_row_38 rfl (lv_at hl 2 rfl) ?_
          refine lv_iload_n hx hb dX7_row_39 rfl (lv_at hl 3 rfl) ?_
          have hPc_9 := hP.sub (ws' := [(ro, .inr (5, [.ref it, .ref la, .ref le])), (la, .inl (cI, 8, .inl fl)), (le, .inl (cI, 8, .inl fe)), (it, .inl (cJ, 8, .inr (.inr (.inr (.inr fi))))), (y, .inl (cI, 40, .inl fy))]) [1, 2, 3, 4, 5] rfl
          have hDc_9 := hD.sub (ws' := [(ro, .inr (5, [.ref it, .ref la, .ref le])), (la, .inl (cI, 8, .inl fl)), (le, .inl (cI, 8, .inl fe)), (it, .inl (cJ, 8, .inr (.inr (.inr (.inr fi))))), (y, .inl (cI, 40, .inl fy))]) [1, 2, 3, 4, 5] (by decide) rfl
          have hFc_9 := va_free (wc := [(ro, .inr (5, [.ref it, .ref la, .ref le])), (la, .inl (cI, 8, .inl fl)), (le, .inl (cI, 8, .inl fe)), (it, .inl (cJ, 8, .inr (.inr (.inr (.inr fi))))), (y, .inl (cI, 40, .inl fy))]) hD hS hA [1, 2, 3, 4, 5] rfl
          refine va_callv (va_runV (As := [.int k0, .int k1, .int k2]) (rest := []) ⟨hx, hb, hml, hown, hts⟩ (c_X5_make l dC dI cI cZ cL cJ s.heap.size ro it la le fl fe fi y fy k0 k1 k2 (in_8 f_1_1_0) (hy f_1_1_0)) (cwV 3 hts gX7_row_X5_make rfl rfl rfl (by decide +kernel) ⟨Nat.le_of_ble_eq_true rfl, Nat.le_of_ble_eq_true rfl⟩) ⟨fun a U g mk q => by obtain ⟨q0, q1, qP, qK, qD⟩ := q; exact ⟨q0, q1, qP, va_K.moved (u := U) (U := U.calling g mk a) (Vm.Alike.refl U.vm) qK, qD⟩, va_recv hK hP (ci := 5) (q0 := 1) rfl rfl, fun U hU hW => ⟨rfl, by rw [hU], by rw [hU]; exact hPc_9, va_K.moved hW.alike hK, hDc_9.weaken (fun _ _ _ _ => trivial)⟩⟩ rfl rfl hl.1 rfl (lv_room (Nat.le_of_ble_eq_true rfl)) dX7_row_40 ⟨Nat.le_of_ble_eq_true rfl, Nat.le_of_ble_eq_true rfl⟩) hS (fun q _ h => hFc_9 q h) hFc_9 (fun u_9 t_9 H1 locs ht hvm h_9 hB hz1 hk1 hS => ?_)
          have hP1 : va_P (dC, dI) vwCl [] H1 := fun k q h => by simp at h
          have hD1 : va_D (va_A [(ro, .inr (5, [.ref it, .ref la, .ref le])), (la, .inl (cI, 8, .inl fl)), (le, .inl (cI, 8, .inl fe)), (it, .inl (cJ, 8, .inr (.inr (.inr (.inr fi))))), (y, .inl (cI, 40, .inl fy))] s.heap.size) [] := ⟨fun i j p q h => by simp at h, fun k q h => by simp at h⟩
          obtain ⟨hP, hD⟩ := va_join (wr := [(x, .inr (7, [.ref ro, .ref ta, .ref no, .ref ac, .ref im, .ref tr, .ref pl, .ref cs, .ref ak, .int 0, .int 0]))]) (w1 := []) hP hD [1, 2, 3, 4, 5] [0] rfl rfl (by decide) (by decide) hk1 hFc_9 hP1 hD1
          generalize H1 = H at hP hS ⊢
          have hP : va_P (dC, dI) vwCl [(x, .inr (7, [.ref ro, .ref ta, .ref no, .ref ac, .ref im, .ref tr, .ref pl, .ref cs, .ref ak, .int 0, .int 0]))] H := hP
          have hD : va_D A [(x, .inr (7, [.ref ro, .ref ta, .ref no, .ref ac, .ref im, .ref tr, .ref pl, .ref cs, .ref ak, .int 0, .int 0]))] := hD
          refine lv_aload_n hx hb dX7_row_43 rfl (lv_at hl 0 rfl) ?_
          refine lv_iload_n hx hb dX7_row_44 rfl (lv_at hl 3 rfl) ?_
          have hPc_10 := hP.sub (ws' := [(x, .inr (7, [.ref ro, .ref ta, .ref no, .ref ac, .ref im, .ref tr, .ref pl, .ref cs, .ref ak, .int 0, .int 0]))]) [0] rfl
          have hDc_10 := hD.sub (ws' := [(x, .inr (7, [.ref ro, .ref ta, .ref no, .ref ac, .ref im, .ref tr, .ref pl, .ref cs, .ref ak, .int 0, .int 0]))]) [0] (by decide) rfl
          have hFc_10 := va_free (wc := [(x, .inr (7, [.ref ro, .ref ta, .ref no, .ref ac, .ref im, .ref tr, .ref pl, .ref cs, .ref ak, .int 0, .int 0]))]) hD hS hA [0] rfl
          refine va_calli (va_runV (As := [.int k2]) (rest := []) ⟨hx, hb, hml, hown, hts⟩ (c_X7_foundNothing l dC dI cI cZ cL cJ H.size x ro ta no ac im tr pl cs ak k2 ) (cwV 1 hts gX7_row_X7_foundNothing rfl rfl rfl (by decide +kernel) ⟨Nat.le_of_ble_eq_true rfl, Nat.le_of_ble_eq_true rfl⟩) ⟨fun a U g mk q => by obtain ⟨q0, q1, qP, qK, qD⟩ := q; exact ⟨q0, q1, qP, va_K.moved (u := U) (U := U.calling g mk a) (Vm.Alike.refl U.vm) qK, qD⟩, va_recv hK hP (ci := 7) (q0 := 0) rfl rfl, fun U hU hW => ⟨rfl, by rw [hU], by rw [hU]; exact hPc_10, va_K.moved hW.alike hK, hDc_10.weaken (fun _ _ _ _ => trivial)⟩⟩ rfl rfl hl.1 rfl (lv_room (Nat.le_of_ble_eq_true rfl)) dX7_row_45 ⟨Nat.le_of_ble_eq_true rfl, Nat.le_of_ble_eq_true rfl⟩) hS (fun q _ h => hFc_10 q h) hFc_10 (fun r_10 u_10 t_10 H1 locs ht hvm h_10 hB hz1 hk1 hS => ?_)
          have hP1 : va_P (dC, dI) vwCl [] H1 := fun k q h => by simp at h
          have hD1 : va_D (va_A [(x, .inr (7, [.ref ro, .ref ta, .ref no, .ref ac, .ref im, .ref tr, .ref pl, .ref cs, .ref ak, .int 0, .int 0]))] H.size) [] := ⟨fun i j p q h => by simp at h, fun k q h => by simp at h⟩
          obtain ⟨hP, hD⟩ := va_join (wr := []) (w1 := []) hP hD [0] [] rfl rfl (by decide) (by decide) hk1 hFc_10 hP1 hD1
          generalize H1 = H at hP hS ⊢
          have hP : va_P (dC, dI) vwCl [] H := hP
          have hD : va_D A [] := hD
          exact W.iret (v := r_10) hx hb hr (fun t ht hW => ⟨⟨r_10, (), rfl, (by unfold an_row; grind), trivial⟩, hS.F ht⟩) hS.2.2 dX7_row_48
        · skip
          refine lv_aload_n hx hb dX7_row_27 rfl (lv_at hl 0 rfl) ?_
          refine lv_iconst (v := 4) hx hb dX7_row_28 (by decide) ?_
          have hPc_11 := hP.sub (ws' := [(x, .inr (7, [.ref ro, .ref ta, .ref no, .ref ac, .ref im, .ref tr, .ref pl, .ref cs, .ref ak, .int 0, .int 0]))]) [0] rfl
          have hDc_11 := hD.sub (ws' := [(x, .inr (7, [.ref ro, .ref ta, .ref no, .ref ac, .ref im, .ref tr, .ref pl, .ref cs, .ref ak, .int 0, .int 0]))]) [0] (by decide) rfl
          have hFc_11 := va_free (wc := [(x, .inr (7, [.ref ro, .ref ta, .ref no, .ref ac, .ref im, .ref tr, .ref pl, .ref cs, .ref ak, .int 0, .int 0]))]) hD hS hA [0] rfl
          refine va_calli (va_runV (As := [.int 4]) (rest := []) ⟨hx, hb, hml, hown, hts⟩ (c_X7_found l dC dI cI cZ cL cJ s.heap.size x ro ta no ac im tr pl cs ak 4 (-1000014) (by decide)) (cwV 1 hts gX7_row_X7_found rfl rfl rfl (by decide +kernel) ⟨Nat.le_of_ble_eq_true rfl, Nat.le_of_ble_eq_true rfl⟩) ⟨fun a U g mk q => by obtain ⟨q0, q1, qP, qK, qD⟩ := q; exact ⟨q0, q1, qP, va_K.moved (u := U) (U := U.calling g mk a) (Vm.Alike.refl U.vm) qK, qD⟩, va_recv hK hP (ci := 7) (q0 := 0) rfl rfl, fun U hU hW => ⟨rfl, by rw [hU], by rw [hU]; exact hPc_11, va_K.moved hW.alike hK, hDc_11.weaken (fun _ _ _ _ => trivial)⟩⟩ rfl rfl hl.1 rfl (lv_room (Nat.le_of_ble_eq_true rfl)) dX7_row_29 ⟨Nat.le_of_ble_eq_true rfl, Nat.le_of_ble_eq_true rfl⟩) hS (fun q _ h => hFc_11 q h) hFc_11 (fun r_11 u_11 t_11 H1 locs ht hvm h_11 hB hz1 hk1 hS => ?_)
          have hP1 : va_P (dC, dI) vwCl [] H1 := fun k q h => by simp at h
          have hD1 : va_D (va_A [(x, .inr (7, [.ref ro, .ref ta, .ref no, .ref ac, .ref im, .ref tr, .ref pl, .ref cs, .ref ak, .int 0, .int 0]))] s.heap.size) [] := ⟨fun i j p q h => by simp at h, fun k q h => by simp at h⟩
          obtain ⟨hP, hD⟩ := va_join (wr := [(ro, .inr (5, [.ref it, .ref la, .ref le])), (la, .inl (cI, 8, .inl fl)), (le, .inl (cI, 8, .inl fe)), (it, .inl (cJ, 8, .inr (.inr (.inr (.inr fi))))), (y, .inl (cI, 40, .inl fy))]) (w1 := []) hP hD [0] [1, 2, 3, 4, 5] rfl rfl (by decide) (by decide) hk1 hFc_11 hP1 hD1
          generalize H1 = H at hP hS ⊢
          have hP : va_P (dC, dI) vwCl [(ro, .inr (5, [.ref it, .ref la, .ref le])), (la, .inl (cI, 8, .inl fl)), (le, .inl (cI, 8, .inl fe)), (it, .inl (cJ, 8, .inr (.inr (.inr (.inr fi))))), (y, .inl (cI, 40, .inl fy))] H := hP
          have hD : va_D A [(ro, .inr (5, [.ref it, .ref la, .ref le])), (la, .inl (cI, 8, .inl fl)), (le, .inl (cI, 8, .inl fe)), (it, .inl (cJ, 8, .inr (.inr (.inr (.inr fi))))), (y, .inl (cI, 40, .inl fy))] := hD
          subst h_11
          exact W.iret (v := (-1000014)) hx hb hr (fun t ht hW => ⟨⟨(-1000014), (), rfl, (by unfold an_row; grind), trivial⟩, hS.F ht⟩) hS.2.2 dX7_row_32
      · skip
        refine lv_ldc (own := RX7) (v := (-1000001)) hx hb hown (hts (.constant RX7 72 (-1000001)) (by decide +kernel)) dX7_row_20 ?_
        exact W.iret (v := (-1000001)) hx hb hr (fun t ht hW => ⟨⟨(-1000001), (), rfl, (by unfold an_row; grind), trivial⟩, hS.F ht⟩) hS.2.2 dX7_row_22
set_option maxHeartbeats 4000000 in
set_option maxRecDepth 100000 in
theorem c_X7_feed (l : Launch) (dC : Nat → ClassId) (dI : Nat → Nat → Nat) (cI cZ cL cJ : ClassId) (sz : Nat) (x : Nat) (ro : Nat) (ta : Nat) (no : Nat) (ac : Nat) (im : Nat) (tr : Nat) (pl : Nat) (cs : Nat) (ak : Nat) (bs : Nat) (td : Nat) (k0 : Int32)  : Met l yX7_feed wsX7_feed ({ frames := 2, cells := 0, slots := 0, locals := 41 }) (va_Pc [.ref x, .int k0] (fun U => U.heap.size = sz ∧ va_P (dC, dI) vwCl [(x, .inr (7, [.ref ro, .ref ta, .ref no, .ref ac, .ref im, .ref tr, .ref pl, .ref cs, .ref ak, .int 0, .int 0])), (ta, .inr (6, [.ref bs, .int 0, .ref td, .int 0, .int 0, .int 0])), (bs, .inl (cI, 120, .inl (fun _ => 0)))] U.heap ∧ va_K (dC, dI) vwCl [(cI, .int), (cZ, .boolean), (cL, .object RX3), (cJ, .array .int)] U ∧ va_D (fun _ => True) [(x, .inr (7, [.ref ro, .ref ta, .ref no, .ref ac, .ref im, .ref tr, .ref pl, .ref cs, .ref ak, .int 0, .int 0])), (ta, .inr (6, [.ref bs, .int 0, .ref td, .int 0, .int 0, .int 0])), (bs, .inl (cI, 120, .inl (fun _ => 0)))])) (va_Qi (fun r (_ : Unit) => r = (an_feed k0)) (fun (_ : Unit) t => True) (va_A [(x, .inr (7, [.ref ro, .ref ta, .ref no, .ref ac, .ref im, .ref tr, .ref pl, .ref cs, .ref ak, .int 0, .int 0])), (ta, .inr (6, [.ref bs, .int 0, .ref td, .int 0, .int 0, .int 0])), (bs, .inl (cI, 120, .inl (fun _ => 0)))] sz)) 0 0 (va_A [(x, .inr (7, [.ref ro, .ref ta, .ref no, .ref ac, .ref im, .ref tr, .ref pl, .ref cs, .ref ak, .int 0, .int 0])), (ta, .inr (6, [.ref bs, .int 0, .ref td, .int 0, .int 0, .int 0])), (bs, .inl (cI, 120, .inl (fun _ => 0)))] sz) := by
  refine Met.ofW (cc := cX7_feed) (maxL := 2) (ret := (some .int)) (by decide) rfl ?_
  intro p e s m args below meth c s₁ B hml hv
  obtain ⟨rfl, hsz, hP, hK, hD0⟩ := hv
  have hx := B.exec
  have hb := B.bytes
  have hr := B.returns
  have hts := atoms_spec (ws := wsX7_feed) B.pre
  have hown : s.vm.findClass RX7 = some m.cls := findClass_of_methodNamed B.named
  have hlocks := B.notSynchronized
  subst hsz
  have hD := hD0.self (sz := s.heap.size)
  generalize hAe : va_A [(x, .inr (7, [.ref ro, .ref ta, .ref no, .ref ac, .ref im, .ref tr, .ref pl, .ref cs, .ref ak, .int 0, .int 0])), (ta, .inr (6, [.ref bs, .int 0, .ref td, .int 0, .int 0, .int 0])), (bs, .inl (cI, 120, .inl (fun _ => 0)))] s.heap.size = A at hD ⊢
  have hA : ∀ q : Nat, s.heap.size ≤ q → A q := fun q h => by rw [← hAe]; exact Or.inr h
  have hS : va_S A s.heap s.heap [] := va_S.rf
  have hP : va_P (dC, dI) vwCl [(x, .inr (7, [.ref ro, .ref ta, .ref no, .ref ac, .ref im, .ref tr, .ref pl, .ref cs, .ref ak, .int 0, .int 0])), (ta, .inr (6, [.ref bs, .int 0, .ref td, .int 0, .int 0, .int 0])), (bs, .inl (cI, 120, .inl (fun _ => 0)))] s.heap := hP
  have hl := lv_entry ([.ref x, .int k0]) (n := 2) (Nat.le_of_ble_eq_true rfl)
  rw [lg_entry_eq]
  generalize (lg_sl ([.ref x, .int k0]) ++ List.replicate (2 - (lg_sl ([.ref x, .int k0])).length) Slot.unset).toArray = ls at hl ⊢
  have hl : lv_has ls 2 [(0, .ref x), (1, .int k0)] := hl
  refine lv_iload_n hx hb dX7_feed_0 rfl (lv_at hl 1 rfl) ?_
  refine lv_if_lt (tgt := 11) hx hb dX7_feed_1 (by decide) (fun c_1 => ?_) (fun c_1 => ?_)
  · skip
    refine lv_ldc (own := RX7) (v := (-1000001)) hx hb hown (hts (.constant RX7 72 (-1000001)) (by decide +kernel)) dX7_feed_11 ?_
    exact W.iret (v := (-1000001)) hx hb hr (fun t ht hW => ⟨⟨(-1000001), (), rfl, (by unfold an_feed; grind), trivial⟩, hS.F ht⟩) hS.2.2 dX7_feed_13
  · skip
    refine lv_iload_n hx hb dX7_feed_4 rfl (lv_at hl 1 rfl) ?_
    refine lv_sipush (v := 255) hx hb dX7_feed_5 (by decide) ?_
    refine lv_icmp_le (tgt := 14) hx hb dX7_feed_8 (by decide) (fun c_2 => ?_) (fun c_2 => ?_)
    · skip
      refine lv_aload_n hx hb dX7_feed_14 rfl (lv_at hl 0 rfl) ?_
      refine va_get (D := (dC, dI)) (ci := 7) (v := .ref ta) (C := RX7) (T := TX7) (N := 11) hx hb hts i_X7_feed_X7 hown hK hP 0 rfl rfl 1 (by decide) (hts (.fieldLink RX7 19 "MillTalk" "tape" "LMillTalk$Tape;") (by decide +kernel)) (fun _ h9 => h9) rfl dX7_feed_15 ?_
      have hPc_3 := hP.sub (ws' := [(ta, .inr (6, [.ref bs, .int 0, .ref td, .int 0, .int 0, .int 0]))]) [1] rfl
      refine vp_callSi (W.runV (As := []) (rest := []) ⟨hx, hb, hml, hown, hts⟩ (c_X6_isFull l dC dI cI cZ cL cJ ta bs td 0 0 0 ) (cwV 0 hts gX7_feed_X6_isFull rfl rfl rfl (by decide +kernel) ⟨Nat.le_of_ble_eq_true rfl, Nat.le_of_ble_eq_true rfl⟩) ⟨fun a U g mk q => by obtain ⟨q0, qP, qK⟩ := q; exact ⟨q0, qP, va_K.moved (u := U) (U := U.calling g mk a) (Vm.Alike.refl U.vm) qK⟩, va_recv hK hP (ci := 6) (q0 := 1) rfl rfl, fun U hU hW => ⟨rfl, by rw [hU]; exact hPc_3, va_K.moved hW.alike hK⟩⟩ rfl rfl hl.1 rfl (lv_room (Nat.le_of_ble_eq_true rfl)) dX7_feed_18 ⟨Nat.le_of_ble_eq_true rfl, Nat.le_of_ble_eq_true rfl⟩) (fun r_3 h_3 => ?_)
      subst h_3
      refine lv_if_eq (tgt := 27) hx hb dX7_feed_21 (by decide) (fun _ => ?_) (fun c_ => absurd (by decide) c_)
      refine lv_aload_n hx hb dX7_feed_27 rfl (lv_at hl 0 rfl) ?_
      refine va_get (D := (dC, dI)) (ci := 7) (v := .ref ta) (C := RX7) (T := TX7) (N := 11) hx hb hts i_X7_feed_X7 hown hK hP 0 rfl rfl 1 (by decide) (hts (.fieldLink RX7 19 "MillTalk" "tape" "LMillTalk$Tape;") (by decide +kernel)) (fun _ h9 => h9) rfl dX7_feed_28 ?_
      refine lv_iload_n hx hb dX7_feed_31 rfl (lv_at hl 1 rfl) ?_
      have hPc_5 := hP.sub (ws' := [(ta, .inr (6, [.ref bs, .int 0, .ref td, .int 0, .int 0, .int 0])), (bs, .inl (cI, 120, .inl (fun _ => 0)))]) [1, 2] rfl
      have hDc_5 := hD.sub (ws' := [(ta, .inr (6, [.ref bs, .int 0, .ref td, .int 0, .int 0, .int 0])), (bs, .inl (cI, 120, .inl (fun _ => 0)))]) [1, 2] (by decide) rfl
      have hFc_5 := va_free (wc := [(ta, .inr (6, [.ref bs, .int 0, .ref td, .int 0, .int 0, .int 0])), (bs, .inl (cI, 120, .inl (fun _ => 0)))]) hD hS hA [1, 2] rfl
      refine va_calli (va_runV (As := [.int k0]) (rest := []) ⟨hx, hb, hml, hown, hts⟩ (c_X6_append l dC dI cI cZ cL cJ s.heap.size ta bs td 0 0 0 k0 ) (cwV 1 hts gX7_feed_X6_append rfl rfl rfl (by decide +kernel) ⟨Nat.le_of_ble_eq_true rfl, Nat.le_of_ble_eq_true rfl⟩) ⟨fun a U g mk q => by obtain ⟨q0, q1, qP, qK, qD⟩ := q; exact ⟨q0, q1, qP, va_K.moved (u := U) (U := U.calling g mk a) (Vm.Alike.refl U.vm) qK, qD⟩, va_recv hK hP (ci := 6) (q0 := 1) rfl rfl, fun U hU hW => ⟨rfl, by rw [hU], by rw [hU]; exact hPc_5, va_K.moved hW.alike hK, hDc_5.weaken (fun _ _ _ _ => trivial)⟩⟩ rfl rfl hl.1 rfl (lv_room (Nat.le_of_ble_eq_true rfl)) dX7_feed_32 ⟨Nat.le_of_ble_eq_true rfl, Nat.le_of_ble_eq_true rfl⟩) hS (fun q _ h => hFc_5 q h) hFc_5 (fun r_5 u_5 t_5 H1 locs ht hvm h_5 hB hz1 hk1 hS => ?_)
      have hP1 : va_P (dC, dI) vwCl [] H1 := fun k q h => by simp at h
      have hD1 : va_D (va_A [(ta, .inr (6, [.ref bs, .int 0, .ref td, .int 0, .int 0, .int 0])), (bs, .inl (cI, 120, .inl (fun _ => 0)))] s.heap.size) [] := ⟨fun i j p q h => by simp at h, fun k q h => by simp at h⟩
      obtain ⟨hP, hD⟩ := va_join (wr := [(x, .inr (7, [.ref ro, .ref ta, .ref no, .ref ac, .ref im, .ref tr, .ref pl, .ref cs, .ref ak, .int 0, .int 0]))]) (w1 := []) hP hD [1, 2] [0] rfl rfl (by decide) (by decide) hk1 hFc_5 hP1 hD1
      generalize H1 = H at hP hS ⊢
      have hP : va_P (dC, dI) vwCl [(x, .inr (7, [.ref ro, .ref ta, .ref no, .ref ac, .ref im, .ref tr, .ref pl, .ref cs, .ref ak, .int 0, .int 0]))] H := hP
      have hD : va_D A [(x, .inr (7, [.ref ro, .ref ta, .ref no, .ref ac, .ref im, .ref tr, .ref pl, .ref cs, .ref ak, .int 0, .int 0]))] := hD
      subst h_5
      exact W.iret (v := 1) hx hb hr (fun t ht hW => ⟨⟨1, (), rfl, (by unfold an_feed; grind), trivial⟩, hS.F ht⟩) hS.2.2 dX7_feed_35
    · skip
      refine lv_ldc (own := RX7) (v := (-1000001)) hx hb hown (hts (.constant RX7 72 (-1000001)) (by decide +kernel)) dX7_feed_11 ?_
      exact W.iret (v := (-1000001)) hx hb hr (fun t ht hW => ⟨⟨(-1000001), (), rfl, (by unfold an_feed; grind), trivial⟩, hS.F ht⟩) hS.2.2 dX7_feed_13
set_option maxHeartbeats 4000000 in
set_option maxRecDepth 100000 in
theorem c_X7_level (l : Launch) (dC : Nat → ClassId) (dI : Nat → Nat → Nat) (cI cZ cL cJ : ClassId) (sz : Nat) (x : Nat) (ro : Nat) (ta : Nat) (no : Nat) (ac : Nat) (im : Nat) (tr : Nat) (pl : Nat) (cs : Nat) (ak : Nat) (bs : Nat) (td : Nat) (t1 : Nat) (t2 : Nat) (t3 : Nat) (t4 : Nat) (t5 : Nat)  : Met l yX7_level wsX7_level ({ frames := 6, cells := 0, slots := 0, locals := 131 }) (va_Pc [.ref x] (fun U => U.heap.size = sz ∧ va_P (dC, dI) vwCl [(x, .inr (7, [.ref ro, .ref ta, .ref no, .ref ac, .ref im, .ref tr, .ref pl, .ref cs, .ref ak, .int 0, .int 0])), (ta, .inr (6, [.ref bs, .int 0, .ref td, .int 0, .int 0, .int 0])), (td, .inr (3, [.int 0, .int 0, .int 0, .int 0, .int 0, .int 0, .int 0, .int 0, .ref t1, .ref t2, .ref t3, .ref t4, .ref t5]))] U.heap ∧ va_K (dC, dI) vwCl [(cI, .int), (cZ, .boolean), (cL, .object RX3), (cJ, .array .int)] U ∧ va_D (fun _ => True) [(x, .inr (7, [.ref ro, .ref ta, .ref no, .ref ac, .ref im, .ref tr, .ref pl, .ref cs, .ref ak, .int 0, .int 0])), (ta, .inr (6, [.ref bs, .int 0, .ref td, .int 0, .int 0, .int 0])), (td, .inr (3, [.int 0, .int 0, .int 0, .int 0, .int 0, .int 0, .int 0, .int 0, .ref t1, .ref t2, .ref t3, .ref t4, .ref t5]))])) (va_Qi (fun r (_ : Unit) => r = (-1000100)) (fun (_ : Unit) t => True) (va_A [(x, .inr (7, [.ref ro, .ref ta, .ref no, .ref ac, .ref im, .ref tr, .ref pl, .ref cs, .ref ak, .int 0, .int 0])), (ta, .inr (6, [.ref bs, .int 0, .ref td, .int 0, .int 0, .int 0])), (td, .inr (3, [.int 0, .int 0, .int 0, .int 0, .int 0, .int 0, .int 0, .int 0, .ref t1, .ref t2, .ref t3, .ref t4, .ref t5]))] sz)) 0 0 (va_A [(x, .inr (7, [.ref ro, .ref ta, .ref no, .ref ac, .ref im, .ref tr, .ref pl, .ref cs, .ref ak, .int 0, .int 0])), (ta, .inr (6, [.ref bs, .int 0, .ref td, .int 0, .int 0, .int 0])), (td, .inr (3, [.int 0, .int 0, .int 0, .int 0, .int 0, .int 0, .int 0, .int 0, .ref t1, .ref t2, .ref t3, .ref t4, .ref t5]))] sz) := by
  refine Met.ofW (cc := cX7_level) (maxL := 2) (ret := (some .int)) (by decide) rfl ?_
  intro p e s m args below meth c s₁ B hml hv
  obtain ⟨rfl, hsz, hP, hK, hD0⟩ := hv
  have hx := B.exec
  have hb := B.bytes
  have hr := B.returns
  have hts := atoms_spec (ws := wsX7_level) B.pre
  have hown : s.vm.findClass RX7 = some m.cls := findClass_of_methodNamed B.named
  have hlocks := B.notSynchronized
  subst hsz
  have hD := hD0.self (sz := s.heap.size)
  generalize hAe : va_A [(x, .inr (7, [.ref ro, .ref ta, .ref no, .ref ac, .ref im, .ref tr, .ref pl, .ref cs, .ref ak, .int 0, .int 0])), (ta, .inr (6, [.ref bs, .int 0, .ref td, .int 0, .int 0, .int 0])), (td, .inr (3, [.int 0, .int 0, .int 0, .int 0, .int 0, .int 0, .int 0, .int 0, .ref t1, .ref t2, .ref t3, .ref t4, .ref t5]))] s.heap.size = A at hD ⊢
  have hA : ∀ q : Nat, s.heap.size ≤ q → A q := fun q h => by rw [← hAe]; exact Or.inr h
  have hS : va_S A s.heap s.heap [] := va_S.rf
  have hP : va_P (dC, dI) vwCl [(x, .inr (7, [.ref ro, .ref ta, .ref no, .ref ac, .ref im, .ref tr, .ref pl, .ref cs, .ref ak, .int 0, .int 0])), (ta, .inr (6, [.ref bs, .int 0, .ref td, .int 0, .int 0, .int 0])), (td, .inr (3, [.int 0, .int 0, .int 0, .int 0, .int 0, .int 0, .int 0, .int 0, .ref t1, .ref t2, .ref t3, .ref t4, .ref t5]))] s.heap := hP
  have hl := lv_entry ([.ref x]) (n := 2) (Nat.le_of_ble_eq_true rfl)
  rw [lg_entry_eq]
  generalize (lg_sl ([.ref x]) ++ List.replicate (2 - (lg_sl ([.ref x])).length) Slot.unset).toArray = ls at hl ⊢
  have hl : lv_has ls 2 [(0, .ref x)] := hl
  refine lv_aload_n hx hb dX7_level_0 rfl (lv_at hl 0 rfl) ?_
  refine va_get (D := (dC, dI)) (ci := 7) (v := .ref ta) (C := RX7) (T := TX7) (N := 11) hx hb hts i_X7_level_X7 hown hK hP 0 rfl rfl 1 (by decide) (hts (.fieldLink RX7 19 "MillTalk" "tape" "LMillTalk$Tape;") (by decide +kernel)) (fun _ h9 => h9) rfl dX7_level_1 ?_
  have hPc_1 := hP.sub (ws' := [(ta, .inr (6, [.ref bs, .int 0, .ref td, .int 0, .int 0, .int 0])), (td, .inr (3, [.int 0, .int 0, .int 0, .int 0, .int 0, .int 0, .int 0, .int 0, .ref t1, .ref t2, .ref t3, .ref t4, .ref t5]))]) [1, 2] rfl
  have hDc_1 := hD.sub (ws' := [(ta, .inr (6, [.ref bs, .int 0, .ref td, .int 0, .int 0, .int 0])), (td, .inr (3, [.int 0, .int 0, .int 0, .int 0, .int 0, .int 0, .int 0, .int 0, .ref t1, .ref t2, .ref t3, .ref t4, .ref t5]))]) [1, 2] (by decide) rfl
  have hFc_1 := va_free (wc := [(ta, .inr (6, [.ref bs, .int 0, .ref td, .int 0, .int 0, .int 0])), (td, .inr (3, [.int 0, .int 0, .int 0, .int 0, .int 0, .int 0, .int 0, .int 0, .ref t1, .ref t2, .ref t3, .ref t4, .ref t5]))]) hD hS hA [1, 2] rfl
  refine va_calli (va_runV (As := []) (rest := []) ⟨hx, hb, hml, hown, hts⟩ (c_X6_read l dC dI cI cZ cL cJ s.heap.size ta bs td 0 0 0 0 0 0 0 0 0 0 0 t1 t2 t3 t4 t5 ) (cwV 0 hts gX7_level_X6_read rfl rfl rfl (by decide +kernel) ⟨Nat.le_of_ble_eq_true rfl, Nat.le_of_ble_eq_true rfl⟩) ⟨fun a U g mk q => by obtain ⟨q0, q1, qP, qK, qD⟩ := q; exact ⟨q0, q1, qP, va_K.moved (u := U) (U := U.calling g mk a) (Vm.Alike.refl U.vm) qK, qD⟩, va_recv hK hP (ci := 6) (q0 := 1) rfl rfl, fun U hU hW => ⟨rfl, by rw [hU], by rw [hU]; exact hPc_1, va_K.moved hW.alike hK, hDc_1.weaken (fun _ _ _ _ => trivial)⟩⟩ rfl rfl hl.1 rfl (lv_room (Nat.le_of_ble_eq_true rfl)) dX7_level_4 ⟨Nat.le_of_ble_eq_true rfl, Nat.le_of_ble_eq_true rfl⟩) hS (fun q _ h => hFc_1 q h) hFc_1 (fun r_1 u_1 t_1 H1 locs ht hvm h_1 hB hz1 hk1 hS => ?_)
  obtain ⟨k2_1, hP1, hD1⟩ := hB
  rw [ht] at hP1
  obtain ⟨hP, hD⟩ := va_join (wr := [(x, .inr (7, [.ref ro, .ref ta, .ref no, .ref ac, .ref im, .ref tr, .ref pl, .ref cs, .ref ak, .int 0, .int 0]))]) (w1 := [(ta, .inr (6, [.ref bs, .int 0, .ref td, .int 0, .int 1, .int k2_1]))]) hP hD [1, 2] [0] rfl rfl (by decide) (by decide) hk1 hFc_1 hP1 hD1
  generalize H1 = H at hP hS ⊢
  have hP : va_P (dC, dI) vwCl [(x, .inr (7, [.ref ro, .ref ta, .ref no, .ref ac, .ref im, .ref tr, .ref pl, .ref cs, .ref ak, .int 0, .int 0])), (ta, .inr (6, [.ref bs, .int 0, .ref td, .int 0, .int 1, .int k2_1]))] H := hP
  have hD : va_D A [(x, .inr (7, [.ref ro, .ref ta, .ref no, .ref ac, .ref im, .ref tr, .ref pl, .ref cs, .ref ak, .int 0, .int 0])), (ta, .inr (6, [.ref bs, .int 0, .ref td, .int 0, .int 1, .int k2_1]))] := hD
  subst h_1
  refine lv_istore_n (lv' := [(1, .int 1), (0, .ref x)]) hx hb dX7_level_7 rfl hl (by decide) rfl (fun ls hl => ?_)
  refine lv_iload_n hx hb dX7_level_8 rfl (lv_at hl 0 rfl) ?_
  refine lv_if_eq (tgt := 28) hx hb dX7_level_9 (by decide) (fun c_ => absurd c_ (by decide)) (fun _ => ?_)
  refine lv_aload_n hx hb dX7_level_12 rfl (lv_at hl 1 rfl) ?_
  refine lv_iload_n hx hb dX7_level_13 rfl (lv_at hl 0 rfl) ?_
  refine va_put (D := (dC, dI)) (ci := 7) (v := .int 1) (ty := .int) (C := RX7) (T := TX7) (N := 11) hx hb hts i_X7_level_X7 tyX7 tyX7_ok nmX7 hown hK hP hD hS 0 rfl rfl 9 (by decide) (hts (.fieldLink RX7 117 "MillTalk" "latestFault" "I") (by decide +kernel)) (fun _ h9 => h9) rfl (by decide +kernel) rfl rfl (Nat.le_of_ble_eq_true rfl) dX7_level_14 (fun H locs hP hD hS => ?_)
  have hP : va_P (dC, dI) vwCl [(x, .inr (7, [.ref ro, .ref ta, .ref no, .ref ac, .ref im, .ref tr, .ref pl, .ref cs, .ref ak, .int 1, .int 0])), (ta, .inr (6, [.ref bs, .int 0, .ref td, .int 0, .int 1, .int k2_1]))] H := hP
  have hD : va_D A [(x, .inr (7, [.ref ro, .ref ta, .ref no, .ref ac, .ref im, .ref tr, .ref pl, .ref cs, .ref ak, .int 1, .int 0])), (ta, .inr (6, [.ref bs, .int 0, .ref td, .int 0, .int 1, .int k2_1]))] := hD
  refine lv_ldc (own := RX7) (v := (-1000100)) hx hb hown (hts (.constant RX7 121 (-1000100)) (by decide +kernel)) dX7_level_17 ?_
  refine lv_aload_n hx hb dX7_level_19 rfl (lv_at hl 1 rfl) ?_
  refine va_get (D := (dC, dI)) (ci := 7) (v := .ref ta) (C := RX7) (T := TX7) (N := 11) hx hb hts i_X7_level_X7 hown hK hP 0 rfl rfl 1 (by decide) (hts (.fieldLink RX7 19 "MillTalk" "tape" "LMillTalk$Tape;") (by decide +kernel)) (fun _ h9 => h9) rfl dX7_level_20 ?_
  refine va_get (D := (dC, dI)) (ci := 6) (v := .int 0) (C := RX6) (T := TX6) (N := 6) hx hb hts i_X7_level_X6 hown hK hP 1 rfl rfl 3 (by decide) (hts (.fieldLink RX7 122 "MillTalk$Tape" "faultPlace" "I") (by decide +kernel)) (fun _ h9 => h9) rfl dX7_level_23 ?_
  refine lv_isub hx hb dX7_level_26 ?_
  refine lv_topi (fun v_3 e_3 => ?_)
  obtain rfl : v_3 = (-1000100) := (e_3).trans (by decide)
  exact W.iret (v := (-1000100)) hx hb hr (fun t ht hW => ⟨⟨(-1000100), (), rfl, rfl, trivial⟩, hS.F ht⟩) hS.2.2 dX7_level_27
set_option maxHeartbeats 4000000 in
set_option maxRecDepth 100000 in
theorem c_X7_count (l : Launch) (dC : Nat → ClassId) (dI : Nat → Nat → Nat) (cI cZ cL cJ : ClassId) (x : Nat) (ro : Nat) (ta : Nat) (no : Nat) (ac : Nat) (im : Nat) (tr : Nat) (pl : Nat) (cs : Nat) (ak : Nat) (n1 : Nat) (n2 : Nat) (n3 : Nat) (n4 : Nat) (n5 : Nat) (be : Nat) (bs : Nat) (td : Nat) (it : Nat) (la : Nat) (le : Nat) (fl : Nat → Int32) (k0 : Int32) (hfl : ∀ j : Nat, j < 8 → fl j = -1) : Met l yX7_count wsX7_count ({ frames := 2, cells := 0, slots := 0, locals := 43 }) (va_Pc [.ref x, .int k0] (fun U => va_P (dC, dI) vwCl [(x, .inr (7, [.ref ro, .ref ta, .ref no, .ref ac, .ref im, .ref tr, .ref pl, .ref cs, .ref ak, .int 0, .int 0])), (no, .inr (3, [.int 0, .int 0, .int 0, .int 0, .int 0, .int 0, .int 0, .int 0, .ref n1, .ref n2, .ref n3, .ref n4, .ref n5])), (ac, .inr (0, [.ref be, .int 0, .int 0])), (ta, .inr (6, [.ref bs, .int 0, .ref td, .int 0, .int 0, .int 0])), (ro, .inr (5, [.ref it, .ref la, .ref le])), (la, .inl (cI, 8, .inl fl))] U.heap ∧ va_K (dC, dI) vwCl [(cI, .int), (cZ, .boolean), (cL, .object RX3), (cJ, .array .int)] U)) (vp_Si (fun r => r = (an_count k0))) 0 0 (fun _ => False) := by
  refine Met.ofW (cc := cX7_count) (maxL := 2) (ret := (some .int)) (by decide) rfl ?_
  intro p e s m args below meth c s₁ B hml hv
  obtain ⟨rfl, hP, hK⟩ := hv
  have hx := B.exec
  have hb := B.bytes
  have hr := B.returns
  have hts := atoms_spec (ws := wsX7_count) B.pre
  have hown : s.vm.findClass RX7 = some m.cls := findClass_of_methodNamed B.named
  have hlocks := B.notSynchronized
  have hP : va_P (dC, dI) vwCl [(x, .inr (7, [.ref ro, .ref ta, .ref no, .ref ac, .ref im, .ref tr, .ref pl, .ref cs, .ref ak, .int 0, .int 0])), (no, .inr (3, [.int 0, .int 0, .int 0, .int 0, .int 0, .int 0, .int 0, .int 0, .ref n1, .ref n2, .ref n3, .ref n4, .ref n5])), (ac, .inr (0, [.ref be, .int 0, .int 0])), (ta, .inr (6, [.ref bs, .int 0, .ref td, .int 0, .int 0, .int 0])), (ro, .inr (5, [.ref it, .ref la, .ref le])), (la, .inl (cI, 8, .inl fl))] s.heap := hP
  have hl := lv_entry ([.ref x, .int k0]) (n := 2) (Nat.le_of_ble_eq_true rfl)
  rw [lg_entry_eq]
  generalize (lg_sl ([.ref x, .int k0]) ++ List.replicate (2 - (lg_sl ([.ref x, .int k0])).length) Slot.unset).toArray = ls at hl ⊢
  have hl : lv_has ls 2 [(0, .ref x), (1, .int k0)] := hl
  refine lv_iload_n hx hb dX7_count_0 rfl (lv_at hl 1 rfl) ?_
  by_cases k_1 : k0 = 0
  · subst k_1
    refine lv_tableIn (off := 47) (tgt := 48) hx hb dX7_count_1 (by decide) (by decide) (by decide) (by decide) ?_
    refine lv_aload_n hx hb dX7_count_48 rfl (lv_at hl 0 rfl) ?_
    refine va_get (D := (dC, dI)) (ci := 7) (v := .ref ro) (C := RX7) (T := TX7) (N := 11) hx hb hts i_X7_count_X7 hown hK hP 0 rfl rfl 0 (by decide) (hts (.fieldLink RX7 10 "MillTalk" "rows" "LMillTalk$Rows;") (by decide +kernel)) (fun _ h9 => h9) rfl dX7_count_49 ?_
    have hPc_2 := hP.sub (ws' := [(ro, .inr (5, [.ref it, .ref la, .ref le])), (la, .inl (cI, 8, .inl fl))]) [4, 5] rfl
    refine vp_callSi (W.runV (As := []) (rest := []) ⟨hx, hb, hml, hown, hts⟩ (c_X5_present l dC dI cI cZ cL cJ ro it la le fl (hfl)) (cwV 0 hts gX7_count_X5_present rfl rfl rfl (by decide +kernel) ⟨Nat.le_of_ble_eq_true rfl, Nat.le_of_ble_eq_true rfl⟩) ⟨fun a U g mk q => by obtain ⟨q0, qP, qK⟩ := q; exact ⟨q0, qP, va_K.moved (u := U) (U := U.calling g mk a) (Vm.Alike.refl U.vm) qK⟩, va_recv hK hP (ci := 5) (q0 := 4) rfl rfl, fun U hU hW => ⟨rfl, by rw [hU]; exact hPc_2, va_K.moved hW.alike hK⟩⟩ rfl rfl hl.1 rfl (lv_room (Nat.le_of_ble_eq_true rfl)) dX7_count_52 ⟨Nat.le_of_ble_eq_true rfl, Nat.le_of_ble_eq_true rfl⟩) (fun r_2 h_2 => ?_)
    subst h_2
    exact W.iret (v := 0) hx hb hr (fun t ht hW => ⟨0, rfl, (by decide), ht⟩) (fun _ h => by cases h) dX7_count_55
  by_cases k_3 : k0 = 1
  · subst k_3
    refine lv_tableIn (off := 55) (tgt := 56) hx hb dX7_count_1 (by decide) (by decide) (by decide) (by decide) ?_
    refine lv_aload_n hx hb dX7_count_56 rfl (lv_at hl 0 rfl) ?_
    refine va_get (D := (dC, dI)) (ci := 7) (v := .ref no) (C := RX7) (T := TX7) (N := 11) hx hb hts i_X7_count_X7 hown hK hP 0 rfl rfl 2 (by decide) (hts (.fieldLink RX7 26 "MillTalk" "now" "LMillTalk$Level;") (by decide +kernel)) (fun _ h9 => h9) rfl dX7_count_57 ?_
    refine va_get (D := (dC, dI)) (ci := 3) (v := .int 0) (C := RX3) (T := TX3) (N := 13) hx hb hts i_X7_count_X3 hown hK hP 1 rfl rfl 7 (by decide) (hts (.fieldLink RX7 135 "MillTalk$Level" "soundCount" "I") (by decide +kernel)) (fun _ h9 => h9) rfl dX7_count_60 ?_
    exact W.iret (v := 0) hx hb hr (fun t ht hW => ⟨0, rfl, (by decide), ht⟩) (fun _ h => by cases h) dX7_count_63
  by_cases k_4 : k0 = 2
  · subst k_4
    refine lv_tableIn (off := 63) (tgt := 64) hx hb dX7_count_1 (by decide) (by decide) (by decide) (by decide) ?_
    refine lv_aload_n hx hb dX7_count_64 rfl (lv_at hl 0 rfl) ?_
    refine va_get (D := (dC, dI)) (ci := 7) (v := .ref no) (C := RX7) (T := TX7) (N := 11) hx hb hts i_X7_count_X7 hown hK hP 0 rfl rfl 2 (by decide) (hts (.fieldLink RX7 26 "MillTalk" "now" "LMillTalk$Level;") (by decide +kernel)) (fun _ h9 => h9) rfl dX7_count_65 ?_
    refine va_get (D := (dC, dI)) (ci := 3) (v := .int 0) (C := RX3) (T := TX3) (N := 13) hx hb hts i_X7_count_X3 hown hK hP 1 rfl rfl 6 (by decide) (hts (.fieldLink RX7 269 "MillTalk$Level" "windCount" "I") (by decide +kernel)) (fun _ h9 => h9) rfl dX7_count_68 ?_
    exact W.iret (v := 0) hx hb hr (fun t ht hW => ⟨0, rfl, (by decide), ht⟩) (fun _ h => by cases h) dX7_count_71
  by_cases k_5 : k0 = 3
  · subst k_5
    refine lv_tableIn (off := 71) (tgt := 72) hx hb dX7_count_1 (by decide) (by decide) (by decide) (by decide) ?_
    refine lv_aload_n hx hb dX7_count_72 rfl (lv_at hl 0 rfl) ?_
    refine va_get (D := (dC, dI)) (ci := 7) (v := .ref no) (C := RX7) (T := TX7) (N := 11) hx hb hts i_X7_count_X7 hown hK hP 0 rfl rfl 2 (by decide) (hts (.fieldLink RX7 26 "MillTalk" "now" "LMillTalk$Level;") (by decide +kernel)) (fun _ h9 => h9) rfl dX7_count_73 ?_
    refine va_get (D := (dC, dI)) (ci := 3) (v := .int 0) (C := RX3) (T := TX3) (N := 13) hx hb hts i_X7_count_X3 hown hK hP 1 rfl rfl 4 (by decide) (hts (.fieldLink RX7 148 "MillTalk$Level" "hour" "I") (by decide +kernel)) (fun _ h9 => h9) rfl dX7_count_76 ?_
    exact W.iret (v := 0) hx hb hr (fun t ht hW => ⟨0, rfl, (by decide), ht⟩) (fun _ h => by cases h) dX7_count_79
  by_cases k_6 : k0 = 4
  · subst k_6
    refine lv_tableIn (off := 79) (tgt := 80) hx hb dX7_count_1 (by decide) (by decide) (by decide) (by decide) ?_
    refine lv_aload_n hx hb dX7_count_80 rfl (lv_at hl 0 rfl) ?_
    refine va_get (D := (dC, dI)) (ci := 7) (v := .ref no) (C := RX7) (T := TX7) (N := 11) hx hb hts i_X7_count_X7 hown hK hP 0 rfl rfl 2 (by decide) (hts (.fieldLink RX7 26 "MillTalk" "now" "LMillTalk$Level;") (by decide +kernel)) (fun _ h9 => h9) rfl dX7_count_81 ?_
    refine va_get (D := (dC, dI)) (ci := 3) (v := .int 0) (C := RX3) (T := TX3) (N := 13) hx hb hts i_X7_count_X3 hown hK hP 1 rfl rfl 5 (by decide) (hts (.fieldLink RX7 157 "MillTalk$Level" "meal" "I") (by decide +kernel)) (fun _ h9 => h9) rfl dX7_count_84 ?_
    exact W.iret (v := 0) hx hb hr (fun t ht hW => ⟨0, rfl, (by decide), ht⟩) (fun _ h => by cases h) dX7_count_87
  by_cases k_7 : k0 = 5
  · subst k_7
    refine lv_tableIn (off := 87) (tgt := 88) hx hb dX7_count_1 (by decide) (by decide) (by decide) (by decide) ?_
    refine lv_aload_n hx hb dX7_count_88 rfl (lv_at hl 0 rfl) ?_
    refine va_get (D := (dC, dI)) (ci := 7) (v := .ref no) (C := RX7) (T := TX7) (N := 11) hx hb hts i_X7_count_X7 hown hK hP 0 rfl rfl 2 (by decide) (hts (.fieldLink RX7 26 "MillTalk" "now" "LMillTalk$Level;") (by decide +kernel)) (fun _ h9 => h9) rfl dX7_count_89 ?_
    refine lv_iconst (v := 0) hx hb dX7_count_92 (by decide) ?_
    have hPc_8 := hP.sub (ws' := [(no, .inr (3, [.int 0, .int 0, .int 0, .int 0, .int 0, .int 0, .int 0, .int 0, .ref n1, .ref n2, .ref n3, .ref n4, .ref n5]))]) [1] rfl
    refine vp_callSi (W.runV (As := [.int 0]) (rest := []) ⟨hx, hb, hml, hown, hts⟩ (c_X3_soundsThatAre l dC dI cI cZ cL cJ no 0 0 0 0 0 0 0 n1 n2 n3 n4 n5 0 ) (cwV 1 hts gX7_count_X3_soundsThatAre rfl rfl rfl (by decide +kernel) ⟨Nat.le_of_ble_eq_true rfl, Nat.le_of_ble_eq_true rfl⟩) ⟨fun a U g mk q => by obtain ⟨q0, qP, qK⟩ := q; exact ⟨q0, qP, va_K.moved (u := U) (U := U.calling g mk a) (Vm.Alike.refl U.vm) qK⟩, va_recv hK hP (ci := 3) (q0 := 1) rfl rfl, fun U hU hW => ⟨rfl, by rw [hU]; exact hPc_8, va_K.moved hW.alike hK⟩⟩ rfl rfl hl.1 rfl (lv_room (Nat.le_of_ble_eq_true rfl)) dX7_count_93 ⟨Nat.le_of_ble_eq_true rfl, Nat.le_of_ble_eq_true rfl⟩) (fun r_8 h_8 => ?_)
    subst h_8
    have hPc_9 := hP.sub (ws' := []) [] rfl
    refine vp_callSi (W.runS (As := [.int 0]) (rest := []) ⟨hx, hb, hml, hown, hts⟩ (c_J6_bitCount l dC dI cI cZ cL cJ  ) (va_cwS 1 hts gX7_count_J6_bitCount_0f7a4 rfl rfl rfl (by decide +kernel) ⟨Nat.le_of_ble_eq_true rfl, Nat.le_of_ble_eq_true rfl⟩) ⟨fun a U g mk q => by obtain ⟨q0, qP, qK⟩ := q; exact ⟨q0, qP, va_K.moved (u := U) (U := U.calling g mk a) (Vm.Alike.refl U.vm) qK⟩, fun U hU hW => ⟨rfl, by rw [hU]; exact hPc_9, va_K.moved hW.alike hK⟩⟩ rfl rfl hl.1 rfl (lv_room (Nat.le_of_ble_eq_true rfl)) dX7_count_96 ⟨Nat.le_of_ble_eq_true rfl, Nat.le_of_ble_eq_true rfl⟩) (fun r_9 h_9 => ?_)
    subst h_9
    exact W.iret (v := 0) hx hb hr (fun t ht hW => ⟨0, rfl, (by decide), ht⟩) (fun _ h => by cases h) dX7_count_99
  by_cases k_10 : k0 = 6
  · subst k_10
    refine lv_tableIn (off := 99) (tgt := 100) hx hb dX7_count_1 (by decide) (by decide) (by decide) (by decide) ?_
    refine lv_aload_n hx hb dX7_count_100 rfl (lv_at hl 0 rfl) ?_
    refine va_get (D := (dC, dI)) (ci := 7) (v := .ref ac) (C := RX7) (T := TX7) (N := 11) hx hb hts i_X7_count_X7 hown hK hP 0 rfl rfl 3 (by decide) (hts (.fieldLink RX7 33 "MillTalk" "acts" "LMillTalk$Acts;") (by decide +kernel)) (fun _ h9 => h9) rfl dX7_count_101 ?_
    refine va_get (D := (dC, dI)) (ci := 0) (v := .int 0) (C := RX0) (T := TX0) (N := 3) hx hb hts i_X7_count_X0 hown hK hP 2 rfl rfl 2 (by decide) (hts (.fieldLink RX7 138 "MillTalk$Acts" "size" "I") (by decide +kernel)) (fun _ h9 => h9) rfl dX7_count_104 ?_
    exact W.iret (v := 0) hx hb hr (fun t ht hW => ⟨0, rfl, (by decide), ht⟩) (fun _ h => by cases h) dX7_count_107
  by_cases k_11 : k0 = 7
  · subst k_11
    refine lv_tableIn (off := 107) (tgt := 108) hx hb dX7_count_1 (by decide) (by decide) (by decide) (by decide) ?_
    refine lv_aload_n hx hb dX7_count_108 rfl (lv_at hl 0 rfl) ?_
    refine va_get (D := (dC, dI)) (ci := 7) (v := .ref ta) (C := RX7) (T := TX7) (N := 11) hx hb hts i_X7_count_X7 hown hK hP 0 rfl rfl 1 (by decide) (hts (.fieldLink RX7 19 "MillTalk" "tape" "LMillTalk$Tape;") (by decide +kernel)) (fun _ h9 => h9) rfl dX7_count_109 ?_
    refine va_get (D := (dC, dI)) (ci := 6) (v := .int 0) (C := RX6) (T := TX6) (N := 6) hx hb hts i_X7_count_X6 hown hK hP 3 rfl rfl 1 (by decide) (hts (.fieldLink RX7 322 "MillTalk$Tape" "size" "I") (by decide +kernel)) (fun _ h9 => h9) rfl dX7_count_112 ?_
    exact W.iret (v := 0) hx hb hr (fun t ht hW => ⟨0, rfl, (by decide), ht⟩) (fun _ h => by cases h) dX7_count_115
  have k_1 := lv_neT k_1 (show (0 : Int32).toInt = 0 from rfl)
  have k_3 := lv_neT k_3 (show (1 : Int32).toInt = 1 from rfl)
  have k_4 := lv_neT k_4 (show (2 : Int32).toInt = 2 from rfl)
  have k_5 := lv_neT k_5 (show (3 : Int32).toInt = 3 from rfl)
  have k_6 := lv_neT k_6 (show (4 : Int32).toInt = 4 from rfl)
  have k_7 := lv_neT k_7 (show (5 : Int32).toInt = 5 from rfl)
  have k_10 := lv_neT k_10 (show (6 : Int32).toInt = 6 from rfl)
  have k_11 := lv_neT k_11 (show (7 : Int32).toInt = 7 from rfl)
  refine lv_tableOut (tgt := 116) hx hb dX7_count_1 (by omega) (by decide) ?_
  refine lv_ldc (own := RX7) (v := (-1000001)) hx hb hown (hts (.constant RX7 72 (-1000001)) (by decide +kernel)) dX7_count_116 ?_
  exact W.iret (v := (-1000001)) hx hb hr (fun t ht hW => ⟨(-1000001), rfl, (by unfold an_count; grind), ht⟩) (fun _ h => by cases h) dX7_count_118
