set_option maxHeartbeats 4000000 in
set_option maxRecDepth 100000 in
theorem n_X3_init (l : Launch) (dC : Nat → ClassId) (dI : Nat → Nat → Nat) (cI cZ cL cJ : ClassId) (sz : Nat) (h : Nat)  : Met l yX3_init wsX3_init ({ frames := 1, cells := 5, slots := 30, locals := 20 }) (va_Pc [.ref h] (fun U => U.heap.size = sz ∧ va_P (dC, dI) vwCl [(h, .inr (3, [.int 0, .int 0, .int 0, .int 0, .int 0, .int 0, .int 0, .int 0, .null, .null, .null, .null, .null]))] U.heap ∧ va_K (dC, dI) vwCl [(cI, .int), (cZ, .boolean), (cL, .object RX3), (cJ, .array .int)] U ∧ va_D (fun _ => True) [(h, .inr (3, [.int 0, .int 0, .int 0, .int 0, .int 0, .int 0, .int 0, .int 0, .null, .null, .null, .null, .null]))])) (va_Qv (fun (_ : Unit) => True) (fun (_ : Unit) t => ∃ (b1 : Nat) (b2 : Nat) (b3 : Nat) (b4 : Nat) (b5 : Nat), va_P (dC, dI) vwCl [(xo_3_iiiiiiiirrrrr h 0 0 0 0 0 0 0 0 b1 b2 b3 b4 b5), (xI b1 cI 6 (fun _ => 0)), (xI b2 cI 6 (fun _ => 0)), (xI b3 cI 6 (fun _ => 0)), (xI b4 cI 6 (fun _ => 0)), (xI b5 cI 6 (fun _ => 0))] t.heap ∧ va_D (va_A [(h, .inr (3, [.int 0, .int 0, .int 0, .int 0, .int 0, .int 0, .int 0, .int 0, .null, .null, .null, .null, .null]))] sz) [(xo_3_iiiiiiiirrrrr h 0 0 0 0 0 0 0 0 b1 b2 b3 b4 b5), (xI b1 cI 6 (fun _ => 0)), (xI b2 cI 6 (fun _ => 0)), (xI b3 cI 6 (fun _ => 0)), (xI b4 cI 6 (fun _ => 0)), (xI b5 cI 6 (fun _ => 0))]) (va_A [(h, .inr (3, [.int 0, .int 0, .int 0, .int 0, .int 0, .int 0, .int 0, .int 0, .null, .null, .null, .null, .null]))] sz)) 5 30 (va_A [(h, .inr (3, [.int 0, .int 0, .int 0, .int 0, .int 0, .int 0, .int 0, .int 0, .null, .null, .null, .null, .null]))] sz) := by
  refine Met.ofW (cc := cX3_init) (maxL := 1) (ret := none) (by decide) rfl ?_
  intro p e s m args below meth c s₁ B hml hv
  obtain ⟨rfl, hsz, hP, hK, hD0⟩ := hv
  have hx := B.exec
  have hb := B.bytes
  have hr := B.returns
  have hts := atoms_spec (ws := wsX3_init) B.pre
  have hown : s.vm.findClass RX3 = some m.cls := findClass_of_methodNamed B.named
  have hlocks := B.notSynchronized
  have hin : meth.name = "<init>" := (name_of_methodNamed B.named B.method).1
  subst hsz
  have hD := hD0.self (sz := s.heap.size)
  generalize hAe : va_A [(h, .inr (3, [.int 0, .int 0, .int 0, .int 0, .int 0, .int 0, .int 0, .int 0, .null, .null, .null, .null, .null]))] s.heap.size = A at hD ⊢
  have hA : ∀ q : Nat, s.heap.size ≤ q → A q := fun q h => by rw [← hAe]; exact Or.inr h
  have hS : va_S A s.heap s.heap [] := va_S.rf
  have hP : va_P (dC, dI) vwCl [(h, .inr (3, [.int 0, .int 0, .int 0, .int 0, .int 0, .int 0, .int 0, .int 0, .null, .null, .null, .null, .null]))] s.heap := hP
  have hl := lv_entry ([.ref h]) (n := 1) (Nat.le_of_ble_eq_true rfl)
  rw [lg_entry_eq]
  generalize (lg_sl ([.ref h]) ++ List.replicate (1 - (lg_sl ([.ref h])).length) Slot.unset).toArray = ls at hl ⊢
  have hl : lv_has ls 1 [(0, .ref h)] := hl
  refine lv_aload_n hx hb dX3_init_0 rfl (lv_at hl 0 rfl) ?_
  refine W.objInit hx hb hown (hts _ mx_X3_init_1) (hts _ mx_X3_init_2) (hts _ (List.mem_of_getElem? (l := wsX3_init) (i := 3) rfl)) rfl (by rw [hml]; exact hl.1) rfl dX3_init_1 (Nat.le_of_ble_eq_true rfl) (Nat.le_of_ble_eq_true rfl) ?_
  refine W.eq (g2 := F0 m 4 ls []) rfl ?_
  refine lv_aload_n hx hb dX3_init_4 rfl (lv_at hl 0 rfl) ?_
  refine lv_bipush (v := 6) hx hb dX3_init_5 (by decide) ?_
  refine nw_newI (t0 := 0) (N' := 6) rfl hx hb (hts _ mx_X3_init_4) hK hP hD hS hA (by decide) (by decide) (by decide) (Nat.le_of_ble_eq_true rfl) (Nat.le_of_ble_eq_true rfl) dX3_init_7 (fun q_1 H hP hD hS => ?_)
  have hP : va_P (dC, dI) vwCl [(h, .inr (3, [.int 0, .int 0, .int 0, .int 0, .int 0, .int 0, .int 0, .int 0, .null, .null, .null, .null, .null])), (xI q_1 cI 6 (fun _ => 0))] H := hP
  have hD := dto hP hD
  refine W.widen (k := 1) (n := 6) (Nat.le_of_ble_eq_true rfl) (Nat.le_of_ble_eq_true rfl) ?_
  refine va_putF (D := (dC, dI)) (ci := 3) (v := .ref q_1) (ty := (tyX3 8)) (C := RX3) (T := TX3) (N := 13) hx hb hts i_X3_init_X3 tyX3 tyX3_ok nmX3 hown hK hP hD hS 0 rfl rfl 8 (by decide) (hts _ mx_X3_init_5) (fun _ h9 => h9) rfl hin rfl (by decide +kernel) rfl rfl (Nat.le_of_ble_eq_true rfl) dX3_init_9 (fun H locs hP hD hS => ?_)
  have hP : va_P (dC, dI) vwCl [(h, .inr (3, [.int 0, .int 0, .int 0, .int 0, .int 0, .int 0, .int 0, .int 0, .ref q_1, .null, .null, .null, .null])), (xI q_1 cI 6 (fun _ => 0))] H := hP
  have hD := dto hP hD
  refine lv_aload_n hx hb dX3_init_12 rfl (lv_at hl 0 rfl) ?_
  refine lv_bipush (v := 6) hx hb dX3_init_13 (by decide) ?_
  refine nw_newI (t0 := 0) (N' := 6) rfl hx hb (hts _ mx_X3_init_4) hK hP hD hS hA (by decide) (by decide) (by decide) (Nat.le_of_ble_eq_true rfl) (Nat.le_of_ble_eq_true rfl) dX3_init_15 (fun q_2 H hP hD hS => ?_)
  have hP : va_P (dC, dI) vwCl [(h, .inr (3, [.int 0, .int 0, .int 0, .int 0, .int 0, .int 0, .int 0, .int 0, .ref q_1, .null, .null, .null, .null])), (xI q_1 cI 6 (fun _ => 0)), (xI q_2 cI 6 (fun _ => 0))] H := hP
  have hD := dto hP hD
  refine W.widen (k := 2) (n := 12) (Nat.le_of_ble_eq_true rfl) (Nat.le_of_ble_eq_true rfl) ?_
  refine va_putF (D := (dC, dI)) (ci := 3) (v := .ref q_2) (ty := (tyX3 9)) (C := RX3) (T := TX3) (N := 13) hx hb hts i_X3_init_X3 tyX3 tyX3_ok nmX3 hown hK hP hD hS 0 rfl rfl 9 (by decide) (hts _ mx_X3_init_6) (fun _ h9 => h9) rfl hin rfl (by decide +kernel) rfl rfl (Nat.le_of_ble_eq_true rfl) dX3_init_17 (fun H locs hP hD hS => ?_)
  have hP : va_P (dC, dI) vwCl [(h, .inr (3, [.int 0, .int 0, .int 0, .int 0, .int 0, .int 0, .int 0, .int 0, .ref q_1, .ref q_2, .null, .null, .null])), (xI q_1 cI 6 (fun _ => 0)), (xI q_2 cI 6 (fun _ => 0))] H := hP
  have hD := dto hP hD
  refine lv_aload_n hx hb dX3_init_20 rfl (lv_at hl 0 rfl) ?_
  refine lv_bipush (v := 6) hx hb dX3_init_21 (by decide) ?_
  refine nw_newI (t0 := 0) (N' := 6) rfl hx hb (hts _ mx_X3_init_4) hK hP hD hS hA (by decide) (by decide) (by decide) (Nat.le_of_ble_eq_true rfl) (Nat.le_of_ble_eq_true rfl) dX3_init_23 (fun q_3 H hP hD hS => ?_)
  have hP : va_P (dC, dI) vwCl [(h, .inr (3, [.int 0, .int 0, .int 0, .int 0, .int 0, .int 0, .int 0, .int 0, .ref q_1, .ref q_2, .null, .null, .null])), (xI q_1 cI 6 (fun _ => 0)), (xI q_2 cI 6 (fun _ => 0)), (xI q_3 cI 6 (fun _ => 0))] H := hP
  have hD := dto hP hD
  refine W.widen (k := 3) (n := 18) (Nat.le_of_ble_eq_true rfl) (Nat.le_of_ble_eq_true rfl) ?_
  refine va_putF (D := (dC, dI)) (ci := 3) (v := .ref q_3) (ty := (tyX3 10)) (C := RX3) (T := TX3) (N := 13) hx hb hts i_X3_init_X3 tyX3 tyX3_ok nmX3 hown hK hP hD hS 0 rfl rfl 10 (by decide) (hts _ mx_X3_init_7) (fun _ h9 => h9) rfl hin rfl (by decide +kernel) rfl rfl (Nat.le_of_ble_eq_true rfl) dX3_init_25 (fun H locs hP hD hS => ?_)
  have hP : va_P (dC, dI) vwCl [(h, .inr (3, [.int 0, .int 0, .int 0, .int 0, .int 0, .int 0, .int 0, .int 0, .ref q_1, .ref q_2, .ref q_3, .null, .null])), (xI q_1 cI 6 (fun _ => 0)), (xI q_2 cI 6 (fun _ => 0)), (xI q_3 cI 6 (fun _ => 0))] H := hP
  have hD := dto hP hD
  refine lv_aload_n hx hb dX3_init_28 rfl (lv_at hl 0 rfl) ?_
  refine lv_bipush (v := 6) hx hb dX3_init_29 (by decide) ?_
  refine nw_newI (t0 := 0) (N' := 6) rfl hx hb (hts _ mx_X3_init_4) hK hP hD hS hA (by decide) (by decide) (by decide) (Nat.le_of_ble_eq_true rfl) (Nat.le_of_ble_eq_true rfl) dX3_init_31 (fun q_4 H hP hD hS => ?_)
  have hP : va_P (dC, dI) vwCl [(h, .inr (3, [.int 0, .int 0, .int 0, .int 0, .int 0, .int 0, .int 0, .int 0, .ref q_1, .ref q_2, .ref q_3, .null, .null])), (xI q_1 cI 6 (fun _ => 0)), (xI q_2 cI 6 (fun _ => 0)), (xI q_3 cI 6 (fun _ => 0)), (xI q_4 cI 6 (fun _ => 0))] H := hP
  have hD := dto hP hD
  refine W.widen (k := 4) (n := 24) (Nat.le_of_ble_eq_true rfl) (Nat.le_of_ble_eq_true rfl) ?_
  refine va_putF (D := (dC, dI)) (ci := 3) (v := .ref q_4) (ty := (tyX3 11)) (C := RX3) (T := TX3) (N := 13) hx hb hts i_X3_init_X3 tyX3 tyX3_ok nmX3 hown hK hP hD hS 0 rfl rfl 11 (by decide) (hts _ mx_X3_init_8) (fun _ h9 => h9) rfl hin rfl (by decide +kernel) rfl rfl (Nat.le_of_ble_eq_true rfl) dX3_init_33 (fun H locs hP hD hS => ?_)
  have hP : va_P (dC, dI) vwCl [(h, .inr (3, [.int 0, .int 0, .int 0, .int 0, .int 0, .int 0, .int 0, .int 0, .ref q_1, .ref q_2, .ref q_3, .ref q_4, .null])), (xI q_1 cI 6 (fun _ => 0)), (xI q_2 cI 6 (fun _ => 0)), (xI q_3 cI 6 (fun _ => 0)), (xI q_4 cI 6 (fun _ => 0))] H := hP
  have hD := dto hP hD
  refine lv_aload_n hx hb dX3_init_36 rfl (lv_at hl 0 rfl) ?_
  refine lv_bipush (v := 6) hx hb dX3_init_37 (by decide) ?_
  refine nw_newI (t0 := 0) (N' := 6) rfl hx hb (hts _ mx_X3_init_4) hK hP hD hS hA (by decide) (by decide) (by decide) (Nat.le_of_ble_eq_true rfl) (Nat.le_of_ble_eq_true rfl) dX3_init_39 (fun q_5 H hP hD hS => ?_)
  have hP : va_P (dC, dI) vwCl [(h, .inr (3, [.int 0, .int 0, .int 0, .int 0, .int 0, .int 0, .int 0, .int 0, .ref q_1, .ref q_2, .ref q_3, .ref q_4, .null])), (xI q_1 cI 6 (fun _ => 0)), (xI q_2 cI 6 (fun _ => 0)), (xI q_3 cI 6 (fun _ => 0)), (xI q_4 cI 6 (fun _ => 0)), (xI q_5 cI 6 (fun _ => 0))] H := hP
  have hD := dto hP hD
  refine W.widen (k := 5) (n := 30) (Nat.le_of_ble_eq_true rfl) (Nat.le_of_ble_eq_true rfl) ?_
  refine va_putF (D := (dC, dI)) (ci := 3) (v := .ref q_5) (ty := (tyX3 12)) (C := RX3) (T := TX3) (N := 13) hx hb hts i_X3_init_X3 tyX3 tyX3_ok nmX3 hown hK hP hD hS 0 rfl rfl 12 (by decide) (hts _ mx_X3_init_9) (fun _ h9 => h9) rfl hin rfl (by decide +kernel) rfl rfl (Nat.le_of_ble_eq_true rfl) dX3_init_41 (fun H locs hP hD hS => ?_)
  have hP : va_P (dC, dI) vwCl [(xo_3_iiiiiiiirrrrr h 0 0 0 0 0 0 0 0 q_1 q_2 q_3 q_4 q_5), (xI q_1 cI 6 (fun _ => 0)), (xI q_2 cI 6 (fun _ => 0)), (xI q_3 cI 6 (fun _ => 0)), (xI q_4 cI 6 (fun _ => 0)), (xI q_5 cI 6 (fun _ => 0))] H := hP
  have hD := dto hP hD
  have hX9 := cut2 (wc := [(xo_3_iiiiiiiirrrrr h 0 0 0 0 0 0 0 0 q_1 q_2 q_3 q_4 q_5), (xI q_1 cI 6 (fun _ => 0)), (xI q_2 cI 6 (fun _ => 0)), (xI q_3 cI 6 (fun _ => 0)), (xI q_4 cI 6 (fun _ => 0)), (xI q_5 cI 6 (fun _ => 0))]) hP hD [0, 1, 2, 3, 4, 5] (by decide +kernel) rfl
  exact W.vret hx hb hr (fun t ht hW => ⟨⟨(), rfl, trivial, ⟨q_1, q_2, q_3, q_4, q_5, va_Ht ht hX9.1, hX9.2⟩⟩, hS.F ht⟩) hS.2.2 dX3_init_44
set_option maxHeartbeats 4000000 in
set_option maxRecDepth 100000 in
theorem n_X6_init (l : Launch) (dC : Nat → ClassId) (dI : Nat → Nat → Nat) (cI cZ cL cJ : ClassId) (sz : Nat) (h : Nat)  : Met l yX6_init wsX6_init ({ frames := 2, cells := 7, slots := 163, locals := 40 }) (va_Pc [.ref h] (fun U => U.heap.size = sz ∧ va_P (dC, dI) vwCl [(h, .inr (6, [.null, .int 0, .null, .int 0, .int 0, .int 0]))] U.heap ∧ va_K (dC, dI) vwCl [(cI, .int), (cZ, .boolean), (cL, .object RX3), (cJ, .array .int)] U ∧ va_D (fun _ => True) [(h, .inr (6, [.null, .int 0, .null, .int 0, .int 0, .int 0]))] ∧ nw_ok cI cJ U)) (va_Qv (fun (_ : Unit) => True) (fun (_ : Unit) t => ∃ (bs : Nat) (td : Nat) (tb1 : Nat) (tb2 : Nat) (tb3 : Nat) (tb4 : Nat) (tb5 : Nat), va_P (dC, dI) vwCl [(xo_6_ririii h bs 0 td 0 0 0), (xI bs cI 120 (fun _ => 0)), (xo_3_iiiiiiiirrrrr td 0 0 0 0 0 0 0 0 tb1 tb2 tb3 tb4 tb5), (xI tb1 cI 6 (fun _ => 0)), (xI tb2 cI 6 (fun _ => 0)), (xI tb3 cI 6 (fun _ => 0)), (xI tb4 cI 6 (fun _ => 0)), (xI tb5 cI 6 (fun _ => 0))] t.heap ∧ va_D (va_A [(h, .inr (6, [.null, .int 0, .null, .int 0, .int 0, .int 0]))] sz) [(xo_6_ririii h bs 0 td 0 0 0), (xI bs cI 120 (fun _ => 0)), (xo_3_iiiiiiiirrrrr td 0 0 0 0 0 0 0 0 tb1 tb2 tb3 tb4 tb5), (xI tb1 cI 6 (fun _ => 0)), (xI tb2 cI 6 (fun _ => 0)), (xI tb3 cI 6 (fun _ => 0)), (xI tb4 cI 6 (fun _ => 0)), (xI tb5 cI 6 (fun _ => 0))]) (va_A [(h, .inr (6, [.null, .int 0, .null, .int 0, .int 0, .int 0]))] sz)) 7 163 (va_A [(h, .inr (6, [.null, .int 0, .null, .int 0, .int 0, .int 0]))] sz) := by
  refine Met.ofW (cc := cX6_init) (maxL := 1) (ret := none) (by decide) rfl ?_
  intro p e s m args below meth c s₁ B hml hv
  obtain ⟨rfl, hsz, hP, hK, hD0, hN⟩ := hv
  have hx := B.exec
  have hb := B.bytes
  have hr := B.returns
  have hts := atoms_spec (ws := wsX6_init) B.pre
  have hown : s.vm.findClass RX6 = some m.cls := findClass_of_methodNamed B.named
  have hlocks := B.notSynchronized
  have hin : meth.name = "<init>" := (name_of_methodNamed B.named B.method).1
  subst hsz
  have hD := hD0.self (sz := s.heap.size)
  generalize hAe : va_A [(h, .inr (6, [.null, .int 0, .null, .int 0, .int 0, .int 0]))] s.heap.size = A at hD ⊢
  have hA : ∀ q : Nat, s.heap.size ≤ q → A q := fun q h => by rw [← hAe]; exact Or.inr h
  have hS : va_S A s.heap s.heap [] := va_S.rf
  have hP : va_P (dC, dI) vwCl [(h, .inr (6, [.null, .int 0, .null, .int 0, .int 0, .int 0]))] s.heap := hP
  have hl := lv_entry ([.ref h]) (n := 1) (Nat.le_of_ble_eq_true rfl)
  rw [lg_entry_eq]
  generalize (lg_sl ([.ref h]) ++ List.replicate (1 - (lg_sl ([.ref h])).length) Slot.unset).toArray = ls at hl ⊢
  have hl : lv_has ls 1 [(0, .ref h)] := hl
  refine lv_aload_n hx hb dX6_init_0 rfl (lv_at hl 0 rfl) ?_
  refine W.objInit hx hb hown (hts _ mx_X6_init_1) (hts _ mx_X6_init_2) (hts _ (List.mem_of_getElem? (l := wsX6_init) (i := 3) rfl)) rfl (by rw [hml]; exact hl.1) rfl dX6_init_1 (Nat.le_of_ble_eq_true rfl) (Nat.le_of_ble_eq_true rfl) ?_
  refine W.eq (g2 := F0 m 4 ls []) rfl ?_
  refine lv_aload_n hx hb dX6_init_4 rfl (lv_at hl 0 rfl) ?_
  refine lv_bipush (v := 120) hx hb dX6_init_5 (by decide) ?_
  refine nw_newI (t0 := 0) (N' := 120) rfl hx hb (hts _ mx_X6_init_4) hK hP hD hS hA (by decide) (by decide) (by decide) (Nat.le_of_ble_eq_true rfl) (Nat.le_of_ble_eq_true rfl) dX6_init_7 (fun q_1 H hP hD hS => ?_)
  have hP : va_P (dC, dI) vwCl [(h, .inr (6, [.null, .int 0, .null, .int 0, .int 0, .int 0])), (xI q_1 cI 120 (fun _ => 0))] H := hP
  have hD := dto hP hD
  refine W.widen (k := 1) (n := 120) (Nat.le_of_ble_eq_true rfl) (Nat.le_of_ble_eq_true rfl) ?_
  refine va_putF (D := (dC, dI)) (ci := 6) (v := .ref q_1) (ty := (tyX6 0)) (C := RX6) (T := TX6) (N := 6) hx hb hts i_X6_init_X6 tyX6 tyX6_ok nmX6 hown hK hP hD hS 0 rfl rfl 0 (by decide) (hts _ mx_X6_init_5) (fun _ h9 => h9) rfl hin rfl (by decide +kernel) rfl rfl (Nat.le_of_ble_eq_true rfl) dX6_init_9 (fun H locs hP hD hS => ?_)
  have hP : va_P (dC, dI) vwCl [(h, .inr (6, [.ref q_1, .int 0, .null, .int 0, .int 0, .int 0])), (xI q_1 cI 120 (fun _ => 0))] H := hP
  have hD := dto hP hD
  refine lv_aload_n hx hb dX6_init_12 rfl (lv_at hl 0 rfl) ?_
  refine va_new (ci := 3) (fs := [.int 0, .int 0, .int 0, .int 0, .int 0, .int 0, .int 0, .int 0, .null, .null, .null, .null, .null]) (C := RX3) (T := TX3) (N := 13) hx hb hts i_X6_init_X3 tyX3 tyX3_ok hown (hts _ mx_X6_init_6) (hts _ mx_X6_init_7) (hts _ mx_X6_init_8) hK hP hD hS hA rfl (fun j hj => by rcases (show j = 0 ∨ j = 1 ∨ j = 2 ∨ j = 3 ∨ j = 4 ∨ j = 5 ∨ j = 6 ∨ j = 7 ∨ j = 8 ∨ j = 9 ∨ j = 10 ∨ j = 11 ∨ j = 12 by omega) with rfl | rfl | rfl | rfl | rfl | rfl | rfl | rfl | rfl | rfl | rfl | rfl | rfl <;> rfl) (Nat.le_of_ble_eq_true rfl) (Nat.le_of_ble_eq_true rfl) dX6_init_13 (fun q_2 H hP hD hS => ?_)
  have hP : va_P (dC, dI) vwCl [(h, .inr (6, [.ref q_1, .int 0, .null, .int 0, .int 0, .int 0])), (xI q_1 cI 120 (fun _ => 0)), (q_2, .inr (3, [.int 0, .int 0, .int 0, .int 0, .int 0, .int 0, .int 0, .int 0, .null, .null, .null, .null, .null]))] H := hP
  have hD := dto hP hD
  refine W.widen (k := 2) (n := 133) (Nat.le_of_ble_eq_true rfl) (Nat.le_of_ble_eq_true rfl) ?_
  refine lv_dup hx hb dX6_init_16 rfl ?_
  have hc_3 := cutW (wc := [(q_2, .inr (3, [.int 0, .int 0, .int 0, .int 0, .int 0, .int 0, .int 0, .int 0, .null, .null, .null, .null, .null]))]) hP hD hS hA [2] (by decide +kernel) rfl
  refine va_callv (va_runIN (As := []) (rest := [.ref q_2, .ref h]) ⟨hx, hb, hml, hown, hts⟩ (n_X3_init l dC dI cI cZ cL cJ H.size q_2 ) ⟨va_cnB (host := "MillTalk") 0 hts gX6_init_X3_init_n17 rfl rfl rfl (nw_X6_17 hN) (hts _ mx_X6_init_8) (by decide +kernel) ⟨Nat.le_of_ble_eq_true rfl, Nat.le_of_ble_eq_true rfl⟩, rfl, (hts _ mx_X6_init_10)⟩ ⟨fun a U g mk q => by obtain ⟨q0, q1, qP, qK, qD⟩ := q; exact ⟨q0, q1, qP, va_K.moved (u := U) (U := U.calling g mk a) (Vm.Alike.refl U.vm) qK, qD⟩, fun U hU hW => ⟨rfl, by rw [hU], by rw [hU]; exact hc_3.1, va_K.moved hW.alike hK, hc_3.2.1.weaken (fun _ _ _ _ => trivial)⟩⟩ rfl rfl hl.1 rfl (lv_room (Nat.le_of_ble_eq_true rfl)) dX6_init_17 ⟨Nat.le_of_ble_eq_true rfl, Nat.le_of_ble_eq_true rfl⟩) hS (fun q _ h => hc_3.2.2 q h) hc_3.2.2 (fun u_3 t_3 H1 locs ht hvm h_3 hB hz1 hk1 hS => ?_)
  refine xl_5_2 hB (fun b1_3 b2_3 b3_3 b4_3 b5_3 hP1 hD1 => ?_)
  clear hB
  rw [ht] at hP1
  obtain ⟨hP, hD⟩ := va_join (wr := [(h, .inr (6, [.ref q_1, .int 0, .null, .int 0, .int 0, .int 0])), (xI q_1 cI 120 (fun _ => 0))]) (w1 := [(xo_3_iiiiiiiirrrrr q_2 0 0 0 0 0 0 0 0 b1_3 b2_3 b3_3 b4_3 b5_3), (xI b1_3 cI 6 (fun _ => 0)), (xI b2_3 cI 6 (fun _ => 0)), (xI b3_3 cI 6 (fun _ => 0)), (xI b4_3 cI 6 (fun _ => 0)), (xI b5_3 cI 6 (fun _ => 0))]) hP hD [2] [0, 1] rfl rfl (by decide +kernel) (by decide +kernel) hk1 hc_3.2.2 hP1 hD1
  generalize H1 = H at hP hS ⊢
  have hP : va_P (dC, dI) vwCl [(h, .inr (6, [.ref q_1, .int 0, .null, .int 0, .int 0, .int 0])), (xI q_1 cI 120 (fun _ => 0)), (xo_3_iiiiiiiirrrrr q_2 0 0 0 0 0 0 0 0 b1_3 b2_3 b3_3 b4_3 b5_3), (xI b1_3 cI 6 (fun _ => 0)), (xI b2_3 cI 6 (fun _ => 0)), (xI b3_3 cI 6 (fun _ => 0)), (xI b4_3 cI 6 (fun _ => 0)), (xI b5_3 cI 6 (fun _ => 0))] H := hP
  have hD := dto hP hD
  refine W.widen (k := 7) (n := 163) (Nat.le_of_ble_eq_true rfl) (Nat.le_of_ble_eq_true rfl) ?_
  refine va_putF (D := (dC, dI)) (ci := 6) (v := .ref q_2) (ty := (tyX6 2)) (C := RX6) (T := TX6) (N := 6) hx hb hts i_X6_init_X6 tyX6 tyX6_ok nmX6 hown hK hP hD hS 0 rfl rfl 2 (by decide) (hts _ mx_X6_init_9) (fun _ h9 => h9) rfl hin rfl (by decide +kernel) rfl rfl (Nat.le_of_ble_eq_true rfl) dX6_init_20 (fun H locs hP hD hS => ?_)
  have hP : va_P (dC, dI) vwCl [(xo_6_ririii h q_1 0 q_2 0 0 0), (xI q_1 cI 120 (fun _ => 0)), (xo_3_iiiiiiiirrrrr q_2 0 0 0 0 0 0 0 0 b1_3 b2_3 b3_3 b4_3 b5_3), (xI b1_3 cI 6 (fun _ => 0)), (xI b2_3 cI 6 (fun _ => 0)), (xI b3_3 cI 6 (fun _ => 0)), (xI b4_3 cI 6 (fun _ => 0)), (xI b5_3 cI 6 (fun _ => 0))] H := hP
  have hD := dto hP hD
  have hX9 := cut2 (wc := [(xo_6_ririii h q_1 0 q_2 0 0 0), (xI q_1 cI 120 (fun _ => 0)), (xo_3_iiiiiiiirrrrr q_2 0 0 0 0 0 0 0 0 b1_3 b2_3 b3_3 b4_3 b5_3), (xI b1_3 cI 6 (fun _ => 0)), (xI b2_3 cI 6 (fun _ => 0)), (xI b3_3 cI 6 (fun _ => 0)), (xI b4_3 cI 6 (fun _ => 0)), (xI b5_3 cI 6 (fun _ => 0))]) hP hD [0, 1, 2, 3, 4, 5, 6, 7] (by decide +kernel) rfl
  exact W.vret hx hb hr (fun t ht hW => ⟨⟨(), rfl, trivial, ⟨q_1, q_2, b1_3, b2_3, b3_3, b4_3, b5_3, va_Ht ht hX9.1, hX9.2⟩⟩, hS.F ht⟩) hS.2.2 dX6_init_23
set_option maxHeartbeats 4000000 in
set_option maxRecDepth 100000 in
theorem n_X4_init (l : Launch) (dC : Nat → ClassId) (dI : Nat → Nat → Nat) (cI cZ cL cJ : ClassId) (sz : Nat) (h : Nat)  : Met l yX4_init wsX4_init ({ frames := 2, cells := 12, slots := 86, locals := 40 }) (va_Pc [.ref h] (fun U => U.heap.size = sz ∧ va_P (dC, dI) vwCl [(h, .inr (4, [.null, .null, .int 0]))] U.heap ∧ va_K (dC, dI) vwCl [(cI, .int), (cZ, .boolean), (cL, .object RX3), (cJ, .array .int)] U ∧ va_D (fun _ => True) [(h, .inr (4, [.null, .null, .int 0]))] ∧ nw_ok cI cJ U)) (va_Qv (fun (_ : Unit) => True) (fun (_ : Unit) t => ∃ (bo : Nat) (ou : Nat) (bb1 : Nat) (bb2 : Nat) (bb3 : Nat) (bb4 : Nat) (bb5 : Nat) (ob1 : Nat) (ob2 : Nat) (ob3 : Nat) (ob4 : Nat) (ob5 : Nat), va_P (dC, dI) vwCl [(xo_4_rri h bo ou 0), (xo_3_iiiiiiiirrrrr bo 0 0 0 0 0 0 0 0 bb1 bb2 bb3 bb4 bb5), (xI bb1 cI 6 (fun _ => 0)), (xI bb2 cI 6 (fun _ => 0)), (xI bb3 cI 6 (fun _ => 0)), (xI bb4 cI 6 (fun _ => 0)), (xI bb5 cI 6 (fun _ => 0)), (xo_3_iiiiiiiirrrrr ou 0 0 0 0 0 0 0 0 ob1 ob2 ob3 ob4 ob5), (xI ob1 cI 6 (fun _ => 0)), (xI ob2 cI 6 (fun _ => 0)), (xI ob3 cI 6 (fun _ => 0)), (xI ob4 cI 6 (fun _ => 0)), (xI ob5 cI 6 (fun _ => 0))] t.heap ∧ va_D (va_A [(h, .inr (4, [.null, .null, .int 0]))] sz) [(xo_4_rri h bo ou 0), (xo_3_iiiiiiiirrrrr bo 0 0 0 0 0 0 0 0 bb1 bb2 bb3 bb4 bb5), (xI bb1 cI 6 (fun _ => 0)), (xI bb2 cI 6 (fun _ => 0)), (xI bb3 cI 6 (fun _ => 0)), (xI bb4 cI 6 (fun _ => 0)), (xI bb5 cI 6 (fun _ => 0)), (xo_3_iiiiiiiirrrrr ou 0 0 0 0 0 0 0 0 ob1 ob2 ob3 ob4 ob5), (xI ob1 cI 6 (fun _ => 0)), (xI ob2 cI 6 (fun _ => 0)), (xI ob3 cI 6 (fun _ => 0)), (xI ob4 cI 6 (fun _ => 0)), (xI ob5 cI 6 (fun _ => 0))]) (va_A [(h, .inr (4, [.null, .null, .int 0]))] sz)) 12 86 (va_A [(h, .inr (4, [.null, .null, .int 0]))] sz) := by
  refine Met.ofW (cc := cX4_init) (maxL := 1) (ret := none) (by decide) rfl ?_
  intro p e s m args below meth c s₁ B hml hv
  obtain ⟨rfl, hsz, hP, hK, hD0, hN⟩ := hv
  have hx := B.exec
  have hb := B.bytes
  have hr := B.returns
  have hts := atoms_spec (ws := wsX4_init) B.pre
  have hown : s.vm.findClass RX4 = some m.cls := findClass_of_methodNamed B.named
  have hlocks := B.notSynchronized
  have hin : meth.name = "<init>" := (name_of_methodNamed B.named B.method).1
  subst hsz
  have hD := hD0.self (sz := s.heap.size)
  generalize hAe : va_A [(h, .inr (4, [.null, .null, .int 0]))] s.heap.size = A at hD ⊢
  have hA : ∀ q : Nat, s.heap.size ≤ q → A q := fun q h => by rw [← hAe]; exact Or.inr h
  have hS : va_S A s.heap s.heap [] := va_S.rf
  have hP : va_P (dC, dI) vwCl [(h, .inr (4, [.null, .null, .int 0]))] s.heap := hP
  have hl := lv_entry ([.ref h]) (n := 1) (Nat.le_of_ble_eq_true rfl)
  rw [lg_entry_eq]
  generalize (lg_sl ([.ref h]) ++ List.replicate (1 - (lg_sl ([.ref h])).length) Slot.unset).toArray = ls at hl ⊢
  have hl : lv_has ls 1 [(0, .ref h)] := hl
  refine lv_aload_n hx hb dX4_init_0 rfl (lv_at hl 0 rfl) ?_
  refine W.objInit hx hb hown (hts _ mx_X4_init_1) (hts _ mx_X4_init_2) (hts _ (List.mem_of_getElem? (l := wsX4_init) (i := 3) rfl)) rfl (by rw [hml]; exact hl.1) rfl dX4_init_1 (Nat.le_of_ble_eq_true rfl) (Nat.le_of_ble_eq_true rfl) ?_
  refine W.eq (g2 := F0 m 4 ls []) rfl ?_
  refine lv_aload_n hx hb dX4_init_4 rfl (lv_at hl 0 rfl) ?_
  refine va_new (ci := 3) (fs := [.int 0, .int 0, .int 0, .int 0, .int 0, .int 0, .int 0, .int 0, .null, .null, .null, .null, .null]) (C := RX3) (T := TX3) (N := 13) hx hb hts i_X4_init_X3 tyX3 tyX3_ok hown (hts _ mx_X4_init_4) (hts _ mx_X4_init_5) (hts _ mx_X4_init_6) hK hP hD hS hA rfl (fun j hj => by rcases (show j = 0 ∨ j = 1 ∨ j = 2 ∨ j = 3 ∨ j = 4 ∨ j = 5 ∨ j = 6 ∨ j = 7 ∨ j = 8 ∨ j = 9 ∨ j = 10 ∨ j = 11 ∨ j = 12 by omega) with rfl | rfl | rfl | rfl | rfl | rfl | rfl | rfl | rfl | rfl | rfl | rfl | rfl <;> rfl) (Nat.le_of_ble_eq_true rfl) (Nat.le_of_ble_eq_true rfl) dX4_init_5 (fun q_1 H hP hD hS => ?_)
  have hP : va_P (dC, dI) vwCl [(h, .inr (4, [.null, .null, .int 0])), (q_1, .inr (3, [.int 0, .int 0, .int 0, .int 0, .int 0, .int 0, .int 0, .int 0, .null, .null, .null, .null, .null]))] H := hP
  have hD := dto hP hD
  refine W.widen (k := 1) (n := 13) (Nat.le_of_ble_eq_true rfl) (Nat.le_of_ble_eq_true rfl) ?_
  refine lv_dup hx hb dX4_init_8 rfl ?_
  have hc_2 := cutW (wc := [(q_1, .inr (3, [.int 0, .int 0, .int 0, .int 0, .int 0, .int 0, .int 0, .int 0, .null, .null, .null, .null, .null]))]) hP hD hS hA [1] (by decide +kernel) rfl
  refine va_callv (va_runIN (As := []) (rest := [.ref q_1, .ref h]) ⟨hx, hb, hml, hown, hts⟩ (n_X3_init l dC dI cI cZ cL cJ H.size q_1 ) ⟨va_cnB (host := "MillTalk") 0 hts gX4_init_X3_init_n9 rfl rfl rfl (nw_X4_9 hN) (hts _ mx_X4_init_6) (by decide +kernel) ⟨Nat.le_of_ble_eq_true rfl, Nat.le_of_ble_eq_true rfl⟩, rfl, (hts _ mx_X4_init_9)⟩ ⟨fun a U g mk q => by obtain ⟨q0, q1, qP, qK, qD⟩ := q; exact ⟨q0, q1, qP, va_K.moved (u := U) (U := U.calling g mk a) (Vm.Alike.refl U.vm) qK, qD⟩, fun U hU hW => ⟨rfl, by rw [hU], by rw [hU]; exact hc_2.1, va_K.moved hW.alike hK, hc_2.2.1.weaken (fun _ _ _ _ => trivial)⟩⟩ rfl rfl hl.1 rfl (lv_room (Nat.le_of_ble_eq_true rfl)) dX4_init_9 ⟨Nat.le_of_ble_eq_true rfl, Nat.le_of_ble_eq_true rfl⟩) hS (fun q _ h => hc_2.2.2 q h) hc_2.2.2 (fun u_2 t_2 H1 locs ht hvm h_2 hB hz1 hk1 hS => ?_)
  refine xl_5_2 hB (fun b1_2 b2_2 b3_2 b4_2 b5_2 hP1 hD1 => ?_)
  clear hB
  rw [ht] at hP1
  obtain ⟨hP, hD⟩ := va_join (wr := [(h, .inr (4, [.null, .null, .int 0]))]) (w1 := [(xo_3_iiiiiiiirrrrr q_1 0 0 0 0 0 0 0 0 b1_2 b2_2 b3_2 b4_2 b5_2), (xI b1_2 cI 6 (fun _ => 0)), (xI b2_2 cI 6 (fun _ => 0)), (xI b3_2 cI 6 (fun _ => 0)), (xI b4_2 cI 6 (fun _ => 0)), (xI b5_2 cI 6 (fun _ => 0))]) hP hD [1] [0] rfl rfl (by decide +kernel) (by decide +kernel) hk1 hc_2.2.2 hP1 hD1
  generalize H1 = H at hP hS ⊢
  have hP : va_P (dC, dI) vwCl [(h, .inr (4, [.null, .null, .int 0])), (xo_3_iiiiiiiirrrrr q_1 0 0 0 0 0 0 0 0 b1_2 b2_2 b3_2 b4_2 b5_2), (xI b1_2 cI 6 (fun _ => 0)), (xI b2_2 cI 6 (fun _ => 0)), (xI b3_2 cI 6 (fun _ => 0)), (xI b4_2 cI 6 (fun _ => 0)), (xI b5_2 cI 6 (fun _ => 0))] H := hP
  have hD := dto hP hD
  refine W.widen (k := 6) (n := 43) (Nat.le_of_ble_eq_true rfl) (Nat.le_of_ble_eq_true rfl) ?_
  refine va_putF (D := (dC, dI)) (ci := 4) (v := .ref q_1) (ty := (tyX4 0)) (C := RX4) (T := TX4) (N := 3) hx hb hts i_X4_init_X4 tyX4 tyX4_ok nmX4 hown hK hP hD hS 0 rfl rfl 0 (by decide) (hts _ mx_X4_init_7) (fun _ h9 => h9) rfl hin rfl (by decide +kernel) rfl rfl (Nat.le_of_ble_eq_true rfl) dX4_init_12 (fun H locs hP hD hS => ?_)
  have hP : va_P (dC, dI) vwCl [(h, .inr (4, [.ref q_1, .null, .int 0])), (xo_3_iiiiiiiirrrrr q_1 0 0 0 0 0 0 0 0 b1_2 b2_2 b3_2 b4_2 b5_2), (xI b1_2 cI 6 (fun _ => 0)), (xI b2_2 cI 6 (fun _ => 0)), (xI b3_2 cI 6 (fun _ => 0)), (xI b4_2 cI 6 (fun _ => 0)), (xI b5_2 cI 6 (fun _ => 0))] H := hP
  have hD := dto hP hD
  refine lv_aload_n hx hb dX4_init_15 rfl (lv_at hl 0 rfl) ?_
  refine va_new (ci := 3) (fs := [.int 0, .int 0, .int 0, .int 0, .int 0, .int 0, .int 0, .int 0, .null, .null, .null, .null, .null]) (C := RX3) (T := TX3) (N := 13) hx hb hts i_X4_init_X3 tyX3 tyX3_ok hown (hts _ mx_X4_init_4) (hts _ mx_X4_init_5) (hts _ mx_X4_init_6) hK hP hD hS hA rfl (fun j hj => by rcases (show j = 0 ∨ j = 1 ∨ j = 2 ∨ j = 3 ∨ j = 4 ∨ j = 5 ∨ j = 6 ∨ j = 7 ∨ j = 8 ∨ j = 9 ∨ j = 10 ∨ j = 11 ∨ j = 12 by omega) with rfl | rfl | rfl | rfl | rfl | rfl | rfl | rfl | rfl | rfl | rfl | rfl | rfl <;> rfl) (Nat.le_of_ble_eq_true rfl) (Nat.le_of_ble_eq_true rfl) dX4_init_16 (fun q_3 H hP hD hS => ?_)
  have hP : va_P (dC, dI) vwCl [(h, .inr (4, [.ref q_1, .null, .int 0])), (xo_3_iiiiiiiirrrrr q_1 0 0 0 0 0 0 0 0 b1_2 b2_2 b3_2 b4_2 b5_2), (xI b1_2 cI 6 (fun _ => 0)), (xI b2_2 cI 6 (fun _ => 0)), (xI b3_2 cI 6 (fun _ => 0)), (xI b4_2 cI 6 (fun _ => 0)), (xI b5_2 cI 6 (fun _ => 0)), (q_3, .inr (3, [.int 0, .int 0, .int 0, .int 0, .int 0, .int 0, .int 0, .int 0, .null, .null, .null, .null, .null]))] H := hP
  have hD := dto hP hD
  refine W.widen (k := 7) (n := 56) (Nat.le_of_ble_eq_true rfl) (Nat.le_of_ble_eq_true rfl) ?_
  refine lv_dup hx hb dX4_init_19 rfl ?_
  have hc_4 := cutW (wc := [(q_3, .inr (3, [.int 0, .int 0, .int 0, .int 0, .int 0, .int 0, .int 0, .int 0, .null, .null, .null, .null, .null]))]) hP hD hS hA [7] (by decide +kernel) rfl
  refine va_callv (va_runIN (As := []) (rest := [.ref q_3, .ref h]) ⟨hx, hb, hml, hown, hts⟩ (n_X3_init l dC dI cI cZ cL cJ H.size q_3 ) ⟨va_cnB (host := "MillTalk") 0 hts gX4_init_X3_init_n9 rfl rfl rfl (nw_X4_9 hN) (hts _ mx_X4_init_6) (by decide +kernel) ⟨Nat.le_of_ble_eq_true rfl, Nat.le_of_ble_eq_true rfl⟩, rfl, (hts _ mx_X4_init_9)⟩ ⟨fun a U g mk q => by obtain ⟨q0, q1, qP, qK, qD⟩ := q; exact ⟨q0, q1, qP, va_K.moved (u := U) (U := U.calling g mk a) (Vm.Alike.refl U.vm) qK, qD⟩, fun U hU hW => ⟨rfl, by rw [hU], by rw [hU]; exact hc_4.1, va_K.moved hW.alike hK, hc_4.2.1.weaken (fun _ _ _ _ => trivial)⟩⟩ rfl rfl hl.1 rfl (lv_room (Nat.le_of_ble_eq_true rfl)) dX4_init_20 ⟨Nat.le_of_ble_eq_true rfl, Nat.le_of_ble_eq_true rfl⟩) hS (fun q _ h => hc_4.2.2 q h) hc_4.2.2 (fun u_4 t_4 H1 locs ht hvm h_4 hB hz1 hk1 hS => ?_)
  refine xl_5_2 hB (fun b1_4 b2_4 b3_4 b4_4 b5_4 hP1 hD1 => ?_)
  clear hB
  rw [ht] at hP1
  obtain ⟨hP, hD⟩ := va_join (wr := [(h, .inr (4, [.ref q_1, .null, .int 0])), (xo_3_iiiiiiiirrrrr q_1 0 0 0 0 0 0 0 0 b1_2 b2_2 b3_2 b4_2 b5_2), (xI b1_2 cI 6 (fun _ => 0)), (xI b2_2 cI 6 (fun _ => 0)), (xI b3_2 cI 6 (fun _ => 0)), (xI b4_2 cI 6 (fun _ => 0)), (xI b5_2 cI 6 (fun _ => 0))]) (w1 := [(xo_3_iiiiiiiirrrrr q_3 0 0 0 0 0 0 0 0 b1_4 b2_4 b3_4 b4_4 b5_4), (xI b1_4 cI 6 (fun _ => 0)), (xI b2_4 cI 6 (fun _ => 0)), (xI b3_4 cI 6 (fun _ => 0)), (xI b4_4 cI 6 (fun _ => 0)), (xI b5_4 cI 6 (fun _ => 0))]) hP hD [7] [0, 1, 2, 3, 4, 5, 6] rfl rfl (by decide +kernel) (by decide +kernel) hk1 hc_4.2.2 hP1 hD1
  generalize H1 = H at hP hS ⊢
  have hP : va_P (dC, dI) vwCl [(h, .inr (4, [.ref q_1, .null, .int 0])), (xo_3_iiiiiiiirrrrr q_1 0 0 0 0 0 0 0 0 b1_2 b2_2 b3_2 b4_2 b5_2), (xI b1_2 cI 6 (fun _ => 0)), (xI b2_2 cI 6 (fun _ => 0)), (xI b3_2 cI 6 (fun _ => 0)), (xI b4_2 cI 6 (fun _ => 0)), (xI b5_2 cI 6 (fun _ => 0)), (xo_3_iiiiiiiirrrrr q_3 0 0 0 0 0 0 0 0 b1_4 b2_4 b3_4 b4_4 b5_4), (xI b1_4 cI 6 (fun _ => 0)), (xI b2_4 cI 6 (fun _ => 0)), (xI b3_4 cI 6 (fun _ => 0)), (xI b4_4 cI 6 (fun _ => 0)), (xI b5_4 cI 6 (fun _ => 0))] H := hP
  have hD := dto hP hD
  refine W.widen (k := 12) (n := 86) (Nat.le_of_ble_eq_true rfl) (Nat.le_of_ble_eq_true rfl) ?_
  refine va_putF (D := (dC, dI)) (ci := 4) (v := .ref q_3) (ty := (tyX4 1)) (C := RX4) (T := TX4) (N := 3) hx hb hts i_X4_init_X4 tyX4 tyX4_ok nmX4 hown hK hP hD hS 0 rfl rfl 1 (by decide) (hts _ mx_X4_init_8) (fun _ h9 => h9) rfl hin rfl (by decide +kernel) rfl rfl (Nat.le_of_ble_eq_true rfl) dX4_init_23 (fun H locs hP hD hS => ?_)
  have hP : va_P (dC, dI) vwCl [(xo_4_rri h q_1 q_3 0), (xo_3_iiiiiiiirrrrr q_1 0 0 0 0 0 0 0 0 b1_2 b2_2 b3_2 b4_2 b5_2), (xI b1_2 cI 6 (fun _ => 0)), (xI b2_2 cI 6 (fun _ => 0)), (xI b3_2 cI 6 (fun _ => 0)), (xI b4_2 cI 6 (fun _ => 0)), (xI b5_2 cI 6 (fun _ => 0)), (xo_3_iiiiiiiirrrrr q_3 0 0 0 0 0 0 0 0 b1_4 b2_4 b3_4 b4_4 b5_4), (xI b1_4 cI 6 (fun _ => 0)), (xI b2_4 cI 6 (fun _ => 0)), (xI b3_4 cI 6 (fun _ => 0)), (xI b4_4 cI 6 (fun _ => 0)), (xI b5_4 cI 6 (fun _ => 0))] H := hP
  have hD := dto hP hD
  have hX9 := cut2 (wc := [(xo_4_rri h q_1 q_3 0), (xo_3_iiiiiiiirrrrr q_1 0 0 0 0 0 0 0 0 b1_2 b2_2 b3_2 b4_2 b5_2), (xI b1_2 cI 6 (fun _ => 0)), (xI b2_2 cI 6 (fun _ => 0)), (xI b3_2 cI 6 (fun _ => 0)), (xI b4_2 cI 6 (fun _ => 0)), (xI b5_2 cI 6 (fun _ => 0)), (xo_3_iiiiiiiirrrrr q_3 0 0 0 0 0 0 0 0 b1_4 b2_4 b3_4 b4_4 b5_4), (xI b1_4 cI 6 (fun _ => 0)), (xI b2_4 cI 6 (fun _ => 0)), (xI b3_4 cI 6 (fun _ => 0)), (xI b4_4 cI 6 (fun _ => 0)), (xI b5_4 cI 6 (fun _ => 0))]) hP hD [0, 1, 2, 3, 4, 5, 6, 7, 8, 9, 10, 11, 12] (by decide +kernel) rfl
  exact W.vret hx hb hr (fun t ht hW => ⟨⟨(), rfl, trivial, ⟨q_1, q_3, b1_2, b2_2, b3_2, b4_2, b5_2, b1_4, b2_4, b3_4, b4_4, b5_4, va_Ht ht hX9.1, hX9.2⟩⟩, hS.F ht⟩) hS.2.2 dX4_init_26
set_option maxHeartbeats 4000000 in
set_option maxRecDepth 100000 in
theorem n_X1_init (l : Launch) (dC : Nat → ClassId) (dI : Nat → Nat → Nat) (cI cZ cL cJ : ClassId) (sz : Nat) (h : Nat)  : Met l yX1_init wsX1_init ({ frames := 1, cells := 1, slots := 16, locals := 20 }) (va_Pc [.ref h] (fun U => U.heap.size = sz ∧ va_P (dC, dI) vwCl [(h, .inr (1, [.null, .int 0, .int 0, .int 0, .int 0, .int 0]))] U.heap ∧ va_K (dC, dI) vwCl [(cI, .int), (cZ, .boolean), (cL, .object RX3), (cJ, .array .int)] U ∧ va_D (fun _ => True) [(h, .inr (1, [.null, .int 0, .int 0, .int 0, .int 0, .int 0]))])) (va_Qv (fun (_ : Unit) => True) (fun (_ : Unit) t => ∃ (tc : Nat), va_P (dC, dI) vwCl [(xo_1_riiiii h tc 0 0 0 0 0), (xI tc cI 16 (fun _ => 0))] t.heap ∧ va_D (va_A [(h, .inr (1, [.null, .int 0, .int 0, .int 0, .int 0, .int 0]))] sz) [(xo_1_riiiii h tc 0 0 0 0 0), (xI tc cI 16 (fun _ => 0))]) (va_A [(h, .inr (1, [.null, .int 0, .int 0, .int 0, .int 0, .int 0]))] sz)) 1 16 (va_A [(h, .inr (1, [.null, .int 0, .int 0, .int 0, .int 0, .int 0]))] sz) := by
  refine Met.ofW (cc := cX1_init) (maxL := 1) (ret := none) (by decide) rfl ?_
  intro p e s m args below meth c s₁ B hml hv
  obtain ⟨rfl, hsz, hP, hK, hD0⟩ := hv
  have hx := B.exec
  have hb := B.bytes
  have hr := B.returns
  have hts := atoms_spec (ws := wsX1_init) B.pre
  have hown : s.vm.findClass RX1 = some m.cls := findClass_of_methodNamed B.named
  have hlocks := B.notSynchronized
  have hin : meth.name = "<init>" := (name_of_methodNamed B.named B.method).1
  subst hsz
  have hD := hD0.self (sz := s.heap.size)
  generalize hAe : va_A [(h, .inr (1, [.null, .int 0, .int 0, .int 0, .int 0, .int 0]))] s.heap.size = A at hD ⊢
  have hA : ∀ q : Nat, s.heap.size ≤ q → A q := fun q h => by rw [← hAe]; exact Or.inr h
  have hS : va_S A s.heap s.heap [] := va_S.rf
  have hP : va_P (dC, dI) vwCl [(h, .inr (1, [.null, .int 0, .int 0, .int 0, .int 0, .int 0]))] s.heap := hP
  have hl := lv_entry ([.ref h]) (n := 1) (Nat.le_of_ble_eq_true rfl)
  rw [lg_entry_eq]
  generalize (lg_sl ([.ref h]) ++ List.replicate (1 - (lg_sl ([.ref h])).length) Slot.unset).toArray = ls at hl ⊢
  have hl : lv_has ls 1 [(0, .ref h)] := hl
  refine lv_aload_n hx hb dX1_init_0 rfl (lv_at hl 0 rfl) ?_
  refine W.objInit hx hb hown (hts _ mx_X1_init_1) (hts _ mx_X1_init_2) (hts _ (List.mem_of_getElem? (l := wsX1_init) (i := 3) rfl)) rfl (by rw [hml]; exact hl.1) rfl dX1_init_1 (Nat.le_of_ble_eq_true rfl) (Nat.le_of_ble_eq_true rfl) ?_
  refine W.eq (g2 := F0 m 4 ls []) rfl ?_
  refine lv_aload_n hx hb dX1_init_4 rfl (lv_at hl 0 rfl) ?_
  refine lv_bipush (v := 16) hx hb dX1_init_5 (by decide) ?_
  refine nw_newI (t0 := 0) (N' := 16) rfl hx hb (hts _ mx_X1_init_4) hK hP hD hS hA (by decide) (by decide) (by decide) (Nat.le_of_ble_eq_true rfl) (Nat.le_of_ble_eq_true rfl) dX1_init_7 (fun q_1 H hP hD hS => ?_)
  have hP : va_P (dC, dI) vwCl [(h, .inr (1, [.null, .int 0, .int 0, .int 0, .int 0, .int 0])), (xI q_1 cI 16 (fun _ => 0))] H := hP
  have hD := dto hP hD
  refine W.widen (k := 1) (n := 16) (Nat.le_of_ble_eq_true rfl) (Nat.le_of_ble_eq_true rfl) ?_
  refine va_putF (D := (dC, dI)) (ci := 1) (v := .ref q_1) (ty := (tyX1 0)) (C := RX1) (T := TX1) (N := 6) hx hb hts i_X1_init_X1 tyX1 tyX1_ok nmX1 hown hK hP hD hS 0 rfl rfl 0 (by decide) (hts _ mx_X1_init_5) (fun _ h9 => h9) rfl hin rfl (by decide +kernel) rfl rfl (Nat.le_of_ble_eq_true rfl) dX1_init_9 (fun H locs hP hD hS => ?_)
  have hP : va_P (dC, dI) vwCl [(xo_1_riiiii h q_1 0 0 0 0 0), (xI q_1 cI 16 (fun _ => 0))] H := hP
  have hD := dto hP hD
  have hX9 := cut2 (wc := [(xo_1_riiiii h q_1 0 0 0 0 0), (xI q_1 cI 16 (fun _ => 0))]) hP hD [0, 1] (by decide +kernel) rfl
  exact W.vret hx hb hr (fun t ht hW => ⟨⟨(), rfl, trivial, ⟨q_1, va_Ht ht hX9.1, hX9.2⟩⟩, hS.F ht⟩) hS.2.2 dX1_init_12
set_option maxHeartbeats 4000000 in
set_option maxRecDepth 100000 in
theorem n_X5_init (l : Launch) (dC : Nat → ClassId) (dI : Nat → Nat → Nat) (cI cZ cL cJ : ClassId) (sz : Nat) (h : Nat)  : Met l yX5_init wsX5_init ({ frames := 1, cells := 11, slots := 344, locals := 23 }) (va_Pc [.ref h] (fun U => U.heap.size = sz ∧ va_P (dC, dI) vwCl [(h, .inr (5, [.null, .null, .null]))] U.heap ∧ va_K (dC, dI) vwCl [(cI, .int), (cZ, .boolean), (cL, .object RX3), (cJ, .array .int)] U ∧ va_D (fun _ => True) [(h, .inr (5, [.null, .null, .null]))] ∧ nw_ok cI cJ U)) (va_Qv (fun (_ : Unit) => True) (fun (_ : Unit) t => ∃ (it : Nat) (la : Nat) (le : Nat) (fl : Nat → Int32), va_P (dC, dI) vwCl [(xo_5_rrr h it la le), (xI la cI 8 fl), (xI le cI 8 (fun _ => 0)), (xJ it cJ 8 (fun i => if i < 8 then some (it + 1 + i) else none)), (xI (it + 1 + 0) cI 40 (fun _ => 0)), (xI (it + 1 + 1) cI 40 (fun _ => 0)), (xI (it + 1 + 2) cI 40 (fun _ => 0)), (xI (it + 1 + 3) cI 40 (fun _ => 0)), (xI (it + 1 + 4) cI 40 (fun _ => 0)), (xI (it + 1 + 5) cI 40 (fun _ => 0)), (xI (it + 1 + 6) cI 40 (fun _ => 0)), (xI (it + 1 + 7) cI 40 (fun _ => 0))] t.heap ∧ va_D (va_A [(h, .inr (5, [.null, .null, .null]))] sz) [(xo_5_rrr h it la le), (xI la cI 8 fl), (xI le cI 8 (fun _ => 0)), (xJ it cJ 8 (fun i => if i < 8 then some (it + 1 + i) else none)), (xI (it + 1 + 0) cI 40 (fun _ => 0)), (xI (it + 1 + 1) cI 40 (fun _ => 0)), (xI (it + 1 + 2) cI 40 (fun _ => 0)), (xI (it + 1 + 3) cI 40 (fun _ => 0)), (xI (it + 1 + 4) cI 40 (fun _ => 0)), (xI (it + 1 + 5) cI 40 (fun _ => 0)), (xI (it + 1 + 6) cI 40 (fun _ => 0)), (xI (it + 1 + 7) cI 40 (fun _ => 0))] ∧ (∀ j : Nat, j < 8 → fl j = -1)) (va_A [(h, .inr (5, [.null, .null, .null]))] sz)) 11 344 (va_A [(h, .inr (5, [.null, .null, .null]))] sz) := by
  refine Met.ofW (cc := cX5_init) (maxL := 1) (ret := none) (by decide) rfl ?_
  intro p e s m args below meth c s₁ B hml hv
  obtain ⟨rfl, hsz, hP, hK, hD0, hN⟩ := hv
  have hx := B.exec
  have hb := B.bytes
  have hr := B.returns
  have hts := atoms_spec (ws := wsX5_init) B.pre
  have hown : s.vm.findClass RX5 = some m.cls := findClass_of_methodNamed B.named
  have hlocks := B.notSynchronized
  have hin : meth.name = "<init>" := (name_of_methodNamed B.named B.method).1
  subst hsz
  have hD := hD0.self (sz := s.heap.size)
  generalize hAe : va_A [(h, .inr (5, [.null, .null, .null]))] s.heap.size = A at hD ⊢
  have hA : ∀ q : Nat, s.heap.size ≤ q → A q := fun q h => by rw [← hAe]; exact Or.inr h
  have hS : va_S A s.heap s.heap [] := va_S.rf
  have hP : va_P (dC, dI) vwCl [(h, .inr (5, [.null, .null, .null]))] s.heap := hP
  have hl := lv_entry ([.ref h]) (n := 1) (Nat.le_of_ble_eq_true rfl)
  rw [lg_entry_eq]
  generalize (lg_sl ([.ref h]) ++ List.replicate (1 - (lg_sl ([.ref h])).length) Slot.unset).toArray = ls at hl ⊢
  have hl : lv_has ls 1 [(0, .ref h)] := hl
  refine lv_aload_n hx hb dX5_init_0 rfl (lv_at hl 0 rfl) ?_
  refine W.objInit hx hb hown (hts _ mx_X5_init_1) (hts _ mx_X5_init_2) (hts _ (List.mem_of_getElem? (l := wsX5_init) (i := 3) rfl)) rfl (by rw [hml]; exact hl.1) rfl dX5_init_1 (Nat.le_of_ble_eq_true rfl) (Nat.le_of_ble_eq_true rfl) ?_
  refine W.eq (g2 := F0 m 4 ls []) rfl ?_
  refine lv_aload_n hx hb dX5_init_4 rfl (lv_at hl 0 rfl) ?_
  refine lv_bipush (v := 8) hx hb dX5_init_5 (by decide) ?_
  refine lv_bipush (v := 40) hx hb dX5_init_7 (by decide) ?_
  refine nw_mn (t0 := 0) (t3 := 3) (own := RX5) rfl rfl hx hb hown (hts _ mx_X5_init_4) hN.2.1 hK hP hD hS hA (Nat.le_of_ble_eq_true rfl) (Nat.le_of_ble_eq_true rfl) dX5_init_9 (fun q_1 H locs hP hD hS => ?_)
  have hP : va_P (dC, dI) vwCl [(h, .inr (5, [.null, .null, .null])), (xJ q_1 cJ 8 (fun i => if i < 8 then some (q_1 + 1 + i) else none)), (xI (q_1 + 1 + 0) cI 40 (fun _ => 0)), (xI (q_1 + 1 + 1) cI 40 (fun _ => 0)), (xI (q_1 + 1 + 2) cI 40 (fun _ => 0)), (xI (q_1 + 1 + 3) cI 40 (fun _ => 0)), (xI (q_1 + 1 + 4) cI 40 (fun _ => 0)), (xI (q_1 + 1 + 5) cI 40 (fun _ => 0)), (xI (q_1 + 1 + 6) cI 40 (fun _ => 0)), (xI (q_1 + 1 + 7) cI 40 (fun _ => 0))] H := hP
  have hD := dto hP hD
  refine W.widen (k := 9) (n := 328) (Nat.le_of_ble_eq_true rfl) (Nat.le_of_ble_eq_true rfl) ?_
  refine va_putF (D := (dC, dI)) (ci := 5) (v := .ref q_1) (ty := (tyX5 0)) (C := RX5) (T := TX5) (N := 3) hx hb hts i_X5_init_X5 tyX5 tyX5_ok nmX5 hown hK hP hD hS 0 rfl rfl 0 (by decide) (hts _ mx_X5_init_6) (fun _ h9 => h9) rfl hin rfl (by decide +kernel) rfl rfl (Nat.le_of_ble_eq_true rfl) dX5_init_13 (fun H locs hP hD hS => ?_)
  have hP : va_P (dC, dI) vwCl [(h, .inr (5, [.ref q_1, .null, .null])), (xJ q_1 cJ 8 (fun i => if i < 8 then some (q_1 + 1 + i) else none)), (xI (q_1 + 1 + 0) cI 40 (fun _ => 0)), (xI (q_1 + 1 + 1) cI 40 (fun _ => 0)), (xI (q_1 + 1 + 2) cI 40 (fun _ => 0)), (xI (q_1 + 1 + 3) cI 40 (fun _ => 0)), (xI (q_1 + 1 + 4) cI 40 (fun _ => 0)), (xI (q_1 + 1 + 5) cI 40 (fun _ => 0)), (xI (q_1 + 1 + 6) cI 40 (fun _ => 0)), (xI (q_1 + 1 + 7) cI 40 (fun _ => 0))] H := hP
  have hD := dto hP hD
  refine lv_aload_n hx hb dX5_init_16 rfl (lv_at hl 0 rfl) ?_
  refine lv_bipush (v := 8) hx hb dX5_init_17 (by decide) ?_
  refine nw_newI (t0 := 0) (N' := 8) rfl hx hb (hts _ mx_X5_init_5) hK hP hD hS hA (by decide) (by decide) (by decide) (Nat.le_of_ble_eq_true rfl) (Nat.le_of_ble_eq_true rfl) dX5_init_19 (fun q_2 H hP hD hS => ?_)
  have hP : va_P (dC, dI) vwCl [(h, .inr (5, [.ref q_1, .null, .null])), (xJ q_1 cJ 8 (fun i => if i < 8 then some (q_1 + 1 + i) else none)), (xI (q_1 + 1 + 0) cI 40 (fun _ => 0)), (xI (q_1 + 1 + 1) cI 40 (fun _ => 0)), (xI (q_1 + 1 + 2) cI 40 (fun _ => 0)), (xI (q_1 + 1 + 3) cI 40 (fun _ => 0)), (xI (q_1 + 1 + 4) cI 40 (fun _ => 0)), (xI (q_1 + 1 + 5) cI 40 (fun _ => 0)), (xI (q_1 + 1 + 6) cI 40 (fun _ => 0)), (xI (q_1 + 1 + 7) cI 40 (fun _ => 0)), (xI q_2 cI 8 (fun _ => 0))] H := hP
  have hD := dto hP hD
  refine W.widen (k := 10) (n := 336) (Nat.le_of_ble_eq_true rfl) (Nat.le_of_ble_eq_true rfl) ?_
  refine va_putF (D := (dC, dI)) (ci := 5) (v := .ref q_2) (ty := (tyX5 1)) (C := RX5) (T := TX5) (N := 3) hx hb hts i_X5_init_X5 tyX5 tyX5_ok nmX5 hown hK hP hD hS 0 rfl rfl 1 (by decide) (hts _ mx_X5_init_7) (fun _ h9 => h9) rfl hin rfl (by decide +kernel) rfl rfl (Nat.le_of_ble_eq_true rfl) dX5_init_21 (fun H locs hP hD hS => ?_)
  have hP : va_P (dC, dI) vwCl [(h, .inr (5, [.ref q_1, .ref q_2, .null])), (xJ q_1 cJ 8 (fun i => if i < 8 then some (q_1 + 1 + i) else none)), (xI (q_1 + 1 + 0) cI 40 (fun _ => 0)), (xI (q_1 + 1 + 1) cI 40 (fun _ => 0)), (xI (q_1 + 1 + 2) cI 40 (fun _ => 0)), (xI (q_1 + 1 + 3) cI 40 (fun _ => 0)), (xI (q_1 + 1 + 4) cI 40 (fun _ => 0)), (xI (q_1 + 1 + 5) cI 40 (fun _ => 0)), (xI (q_1 + 1 + 6) cI 40 (fun _ => 0)), (xI (q_1 + 1 + 7) cI 40 (fun _ => 0)), (xI q_2 cI 8 (fun _ => 0))] H := hP
  have hD := dto hP hD
  refine lv_aload_n hx hb dX5_init_24 rfl (lv_at hl 0 rfl) ?_
  refine lv_bipush (v := 8) hx hb dX5_init_25 (by decide) ?_
  refine nw_newI (t0 := 0) (N' := 8) rfl hx hb (hts _ mx_X5_init_5) hK hP hD hS hA (by decide) (by decide) (by decide) (Nat.le_of_ble_eq_true rfl) (Nat.le_of_ble_eq_true rfl) dX5_init_27 (fun q_3 H hP hD hS => ?_)
  have hP : va_P (dC, dI) vwCl [(h, .inr (5, [.ref q_1, .ref q_2, .null])), (xJ q_1 cJ 8 (fun i => if i < 8 then some (q_1 + 1 + i) else none)), (xI (q_1 + 1 + 0) cI 40 (fun _ => 0)), (xI (q_1 + 1 + 1) cI 40 (fun _ => 0)), (xI (q_1 + 1 + 2) cI 40 (fun _ => 0)), (xI (q_1 + 1 + 3) cI 40 (fun _ => 0)), (xI (q_1 + 1 + 4) cI 40 (fun _ => 0)), (xI (q_1 + 1 + 5) cI 40 (fun _ => 0)), (xI (q_1 + 1 + 6) cI 40 (fun _ => 0)), (xI (q_1 + 1 + 7) cI 40 (fun _ => 0)), (xI q_2 cI 8 (fun _ => 0)), (xI q_3 cI 8 (fun _ => 0))] H := hP
  have hD := dto hP hD
  refine W.widen (k := 11) (n := 344) (Nat.le_of_ble_eq_true rfl) (Nat.le_of_ble_eq_true rfl) ?_
  refine va_putF (D := (dC, dI)) (ci := 5) (v := .ref q_3) (ty := (tyX5 2)) (C := RX5) (T := TX5) (N := 3) hx hb hts i_X5_init_X5 tyX5 tyX5_ok nmX5 hown hK hP hD hS 0 rfl rfl 2 (by decide) (hts _ mx_X5_init_8) (fun _ h9 => h9) rfl hin rfl (by decide +kernel) rfl rfl (Nat.le_of_ble_eq_true rfl) dX5_init_29 (fun H locs hP hD hS => ?_)
  have hP : va_P (dC, dI) vwCl [(xo_5_rrr h q_1 q_2 q_3), (xJ q_1 cJ 8 (fun i => if i < 8 then some (q_1 + 1 + i) else none)), (xI (q_1 + 1 + 0) cI 40 (fun _ => 0)), (xI (q_1 + 1 + 1) cI 40 (fun _ => 0)), (xI (q_1 + 1 + 2) cI 40 (fun _ => 0)), (xI (q_1 + 1 + 3) cI 40 (fun _ => 0)), (xI (q_1 + 1 + 4) cI 40 (fun _ => 0)), (xI (q_1 + 1 + 5) cI 40 (fun _ => 0)), (xI (q_1 + 1 + 6) cI 40 (fun _ => 0)), (xI (q_1 + 1 + 7) cI 40 (fun _ => 0)), (xI q_2 cI 8 (fun _ => 0)), (xI q_3 cI 8 (fun _ => 0))] H := hP
  have hD := dto hP hD
  refine lv_aload_n hx hb dX5_init_32 rfl (lv_at hl 0 rfl) ?_
  refine va_get (D := (dC, dI)) (ci := 5) (v := .ref q_2) (C := RX5) (T := TX5) (N := 3) hx hb hts i_X5_init_X5 hown hK hP 0 rfl rfl 1 (by decide) (hts _ mx_X5_init_7) (fun _ h9 => h9) rfl dX5_init_33 ?_
  refine lv_iconst (v := (-1)) hx hb dX5_init_36 (by decide) ?_
  have hc_4 := cutW (wc := [(xI q_2 cI 8 (fun _ => 0))]) hP hD hS hA [10] (by decide +kernel) rfl
  refine va_callv (va_runS (As := [.ref q_2, .int (-1)]) (rest := []) ⟨hx, hb, hml, hown, hts⟩ (r_J7_fill l dC dI cI cZ cL cJ H.size q_2 8 (fun _ => 0) (-1) (by decide)) (va_cwS 2 hts gX5_init_J7_fill_53178 rfl rfl rfl (by decide +kernel) ⟨Nat.le_of_ble_eq_true rfl, Nat.le_of_ble_eq_true rfl⟩) (psW hK hc_4) rfl rfl hl.1 rfl (lv_room (Nat.le_of_ble_eq_true rfl)) dX5_init_37 ⟨Nat.le_of_ble_eq_true rfl, Nat.le_of_ble_eq_true rfl⟩) hS (fun q _ h => hc_4.2.2 q h) hc_4.2.2 (fun u_4 t_4 H1 locs ht hvm h_4 hB hz1 hk1 hS => ?_)
  refine xl_1_3 hB (fun g_4 hP1 hD1 hF_4_0 => ?_)
  clear hB
  rw [ht] at hP1
  obtain ⟨hP, hD⟩ := va_join (wr := [(xo_5_rrr h q_1 q_2 q_3), (xJ q_1 cJ 8 (fun i => if i < 8 then some (q_1 + 1 + i) else none)), (xI (q_1 + 1 + 0) cI 40 (fun _ => 0)), (xI (q_1 + 1 + 1) cI 40 (fun _ => 0)), (xI (q_1 + 1 + 2) cI 40 (fun _ => 0)), (xI (q_1 + 1 + 3) cI 40 (fun _ => 0)), (xI (q_1 + 1 + 4) cI 40 (fun _ => 0)), (xI (q_1 + 1 + 5) cI 40 (fun _ => 0)), (xI (q_1 + 1 + 6) cI 40 (fun _ => 0)), (xI (q_1 + 1 + 7) cI 40 (fun _ => 0)), (xI q_3 cI 8 (fun _ => 0))]) (w1 := [(xI q_2 cI 8 g_4)]) hP hD [10] [0, 1, 2, 3, 4, 5, 6, 7, 8, 9, 11] rfl rfl (by decide +kernel) (by decide +kernel) hk1 hc_4.2.2 hP1 hD1
  generalize H1 = H at hP hS ⊢
  have hP : va_P (dC, dI) vwCl [(xo_5_rrr h q_1 q_2 q_3), (xJ q_1 cJ 8 (fun i => if i < 8 then some (q_1 + 1 + i) else none)), (xI (q_1 + 1 + 0) cI 40 (fun _ => 0)), (xI (q_1 + 1 + 1) cI 40 (fun _ => 0)), (xI (q_1 + 1 + 2) cI 40 (fun _ => 0)), (xI (q_1 + 1 + 3) cI 40 (fun _ => 0)), (xI (q_1 + 1 + 4) cI 40 (fun _ => 0)), (xI (q_1 + 1 + 5) cI 40 (fun _ => 0)), (xI (q_1 + 1 + 6) cI 40 (fun _ => 0)), (xI (q_1 + 1 + 7) cI 40 (fun _ => 0)), (xI q_3 cI 8 (fun _ => 0)), (xI q_2 cI 8 g_4)] H := hP
  have hD := dto hP hD
  have hX9 := cut2 (wc := [(xo_5_rrr h q_1 q_2 q_3), (xI q_2 cI 8 g_4), (xI q_3 cI 8 (fun _ => 0)), (xJ q_1 cJ 8 (fun i => if i < 8 then some (q_1 + 1 + i) else none)), (xI (q_1 + 1 + 0) cI 40 (fun _ => 0)), (xI (q_1 + 1 + 1) cI 40 (fun _ => 0)), (xI (q_1 + 1 + 2) cI 40 (fun _ => 0)), (xI (q_1 + 1 + 3) cI 40 (fun _ => 0)), (xI (q_1 + 1 + 4) cI 40 (fun _ => 0)), (xI (q_1 + 1 + 5) cI 40 (fun _ => 0)), (xI (q_1 + 1 + 6) cI 40 (fun _ => 0)), (xI (q_1 + 1 + 7) cI 40 (fun _ => 0))]) hP hD [0, 11, 10, 1, 2, 3, 4, 5, 6, 7, 8, 9] (by decide +kernel) rfl
  exact W.vret hx hb hr (fun t ht hW => ⟨⟨(), rfl, trivial, ⟨q_1, q_2, q_3, g_4, va_Ht ht hX9.1, hX9.2, hF_4_0⟩⟩, hS.F ht⟩) hS.2.2 dX5_init_40
set_option maxHeartbeats 4000000 in
set_option maxRecDepth 100000 in
theorem n_X0_init (l : Launch) (dC : Nat → ClassId) (dI : Nat → Nat → Nat) (cI cZ cL cJ : ClassId) (sz : Nat) (h : Nat)  : Met l yX0_init wsX0_init ({ frames := 2, cells := 145, slots := 1056, locals := 40 }) (va_Pc [.ref h] (fun U => U.heap.size = sz ∧ va_P (dC, dI) vwCl [(h, .inr (0, [.null, .int 0, .int 0]))] U.heap ∧ va_K (dC, dI) vwCl [(cI, .int), (cZ, .boolean), (cL, .object RX3), (cJ, .array .int)] U ∧ va_D (fun _ => True) [(h, .inr (0, [.null, .int 0, .int 0]))] ∧ nw_ok cI cJ U)) (va_Qv (fun (_ : Unit) => True) (fun (_ : Unit) t => ∃ (be : Nat) (fb : Nat → Option Nat) (ad : Nat → Nat) (bd : Nat → Nat → Nat), va_P (dC, dI) vwCl (([(xo_0_rii h be 0 0), (xJ be cL 24 fb)] : va_W) ++ lvs cI 24 ad bd (fun _ _ => 0) (fun _ _ _ => 0)) t.heap ∧ va_D (va_A [(h, .inr (0, [.null, .int 0, .int 0]))] sz) (([(xo_0_rii h be 0 0), (xJ be cL 24 fb)] : va_W) ++ lvs cI 24 ad bd (fun _ _ => 0) (fun _ _ _ => 0)) ∧ (∀ i : Nat, i < 24 → fb i = some (ad i))) (va_A [(h, .inr (0, [.null, .int 0, .int 0]))] sz)) 145 1056 (va_A [(h, .inr (0, [.null, .int 0, .int 0]))] sz) := by
  refine Met.ofW (cc := cX0_init) (maxL := 2) (ret := none) (by decide) rfl ?_
  intro p e s m args below meth c s₁ B hml hv
  obtain ⟨rfl, hsz, hP, hK, hD0, hN⟩ := hv
  have hx := B.exec
  have hb := B.bytes
  have hr := B.returns
  have hts := atoms_spec (ws := wsX0_init) B.pre
  have hown : s.vm.findClass RX0 = some m.cls := findClass_of_methodNamed B.named
  have hlocks := B.notSynchronized
  have hin : meth.name = "<init>" := (name_of_methodNamed B.named B.method).1
  subst hsz
  have hD := hD0.self (sz := s.heap.size)
  generalize hAe : va_A [(h, .inr (0, [.null, .int 0, .int 0]))] s.heap.size = A at hD ⊢
  have hA : ∀ q : Nat, s.heap.size ≤ q → A q := fun q h => by rw [← hAe]; exact Or.inr h
  have hS : va_S A s.heap s.heap [] := va_S.rf
  have hP : va_P (dC, dI) vwCl [(h, .inr (0, [.null, .int 0, .int 0]))] s.heap := hP
  have hl := lv_entry ([.ref h]) (n := 2) (Nat.le_of_ble_eq_true rfl)
  rw [lg_entry_eq]
  generalize (lg_sl ([.ref h]) ++ List.replicate (2 - (lg_sl ([.ref h])).length) Slot.unset).toArray = ls at hl ⊢
  have hl : lv_has ls 2 [(0, .ref h)] := hl
  refine lv_aload_n hx hb dX0_init_0 rfl (lv_at hl 0 rfl) ?_
  refine W.objInit hx hb hown (hts _ mx_X0_init_1) (hts _ mx_X0_init_2) (hts _ (List.mem_of_getElem? (l := wsX0_init) (i := 3) rfl)) rfl (by rw [hml]; exact hl.1) rfl dX0_init_1 (Nat.le_of_ble_eq_true rfl) (Nat.le_of_ble_eq_true rfl) ?_
  refine W.eq (g2 := F0 m 4 ls []) rfl ?_
  refine lv_aload_n hx hb dX0_init_4 rfl (lv_at hl 0 rfl) ?_
  refine lv_bipush (v := 24) hx hb dX0_init_5 (by decide) ?_
  refine nw_newL (t0 := 2) (N' := 24) rfl hx hb hown (hts _ mx_X0_init_4) hN.1 hK hP hD hS hA (by decide) (by decide) (by decide) (Nat.le_of_ble_eq_true rfl) (Nat.le_of_ble_eq_true rfl) dX0_init_7 (fun q_1 H hP hD hS => ?_)
  have hP : va_P (dC, dI) vwCl [(h, .inr (0, [.null, .int 0, .int 0])), (xJ q_1 cL 24 (fun _ => none))] H := hP
  have hD := dto hP hD
  refine W.widen (k := 1) (n := 24) (Nat.le_of_ble_eq_true rfl) (Nat.le_of_ble_eq_true rfl) ?_
  refine va_putF (D := (dC, dI)) (ci := 0) (v := .ref q_1) (ty := (tyX0 0)) (C := RX0) (T := TX0) (N := 3) hx hb hts i_X0_init_X0 tyX0 tyX0_ok nmX0 hown hK hP hD hS 0 rfl rfl 0 (by decide) (hts _ mx_X0_init_5) (fun _ h9 => h9) rfl hin rfl (by decide +kernel) rfl rfl (Nat.le_of_ble_eq_true rfl) dX0_init_10 (fun H locs hP hD hS => ?_)
  have hP : va_P (dC, dI) vwCl [(xo_0_rii h q_1 0 0), (xJ q_1 cL 24 (fun _ => none))] H := hP
  have hD := dto hP hD
  refine lv_iconst (v := 0) hx hb dX0_init_13 (by decide) ?_
  refine lv_istore_n (lv' := [(1, .int 0), (0, .ref h)]) hx hb dX0_init_14 rfl hl (by decide) rfl (fun ls hl => ?_)
  have hP := hP.sub (ws' := [(xo_0_rii h q_1 0 0), (xJ q_1 cL 24 (fun _ => none))]) [0, 1] rfl
  have hD := hD.sub (ws' := [(xo_0_rii h q_1 0 0), (xJ q_1 cL 24 (fun _ => none))]) [0, 1] (by decide +kernel) rfl
  refine W.widen (k := 1 + 6 * 0) (n := 24 + 43 * 0) (Nat.le_of_ble_eq_true rfl) (Nat.le_of_ble_eq_true rfl) ?_
  refine lp_goC (σ := (Nat → Option Nat) × (Nat → Nat) × (Nat → Nat → Nat)) (fun i => 1 + 6 * i) (fun i => 24 + 43 * i) (fun i (st : (Nat → Option Nat) × (Nat → Nat) × (Nat → Nat → Nat)) H locs ls => match st with | (ff, ad, bd) => va_P (dC, dI) vwCl (([(xo_0_rii h q_1 0 0), (xJ q_1 cL 24 ff)] : va_W) ++ lvs cI i ad bd (fun _ _ => 0) (fun _ _ _ => 0)) H ∧ va_D A (([(xo_0_rii h q_1 0 0), (xJ q_1 cL 24 ff)] : va_W) ++ lvs cI i ad bd (fun _ _ => 0) (fun _ _ _ => 0)) ∧ va_S A s.heap H locs ∧ lv_has ls 2 [(1, .int (nI i)), (0, .ref h)] ∧ (∀ j : Nat, j < i → ff j = some (ad j))) 24 ?_ ?_ 0 (Nat.zero_le _) (fun _ => none, fun _ => 0, fun _ _ => 0) ⟨lv0P hP, lv0D hD, hS, hl, fun j h => absurd h (Nat.not_lt_zero j)⟩
  · rintro i ⟨ff, ad, bd⟩ H locs ls hi ⟨hP, hD, hS, hl, hff⟩ ih
    refine W.widen (k := 1 + 6 * i) (n := 24 + 43 * i) (Nat.le_refl _) (Nat.le_refl _) ?_
    have hP : va_P (dC, dI) vwCl (([(xo_0_rii h q_1 0 0), (xJ q_1 cL 24 ff)] : va_W) ++ lvs cI i ad bd (fun _ _ => 0) (fun _ _ _ => 0)) H := hP
    have hD : va_D A (([(xo_0_rii h q_1 0 0), (xJ q_1 cL 24 ff)] : va_W) ++ lvs cI i ad bd (fun _ _ => 0) (fun _ _ _ => 0)) := hD
    refine lv_iload_n hx hb dX0_init_15 rfl (lv_at hl 0 rfl) ?_
    refine lv_bipush (v := 24) hx hb dX0_init_16 (by decide) ?_
    refine lv_icmp_ge (tgt := 40) hx hb dX0_init_18 (by decide) (fun c_ => absurd c_ (fun q_ => absurd ((nI_leI (a := 24) (b := i) (by omega) (by omega)).mp q_) (by omega))) (fun _ => ?_)
    refine lv_aload_n hx hb dX0_init_21 rfl (lv_at hl 1 rfl) ?_
    refine va_get (D := (dC, dI)) (ci := 0) (v := .ref q_1) (C := RX0) (T := TX0) (N := 3) hx hb hts i_X0_init_X0 hown hK hP 0 rfl rfl 0 (by decide) (hts _ mx_X0_init_5) (fun _ h9 => h9) rfl dX0_init_22 ?_
    refine lv_iload_n hx hb dX0_init_25 rfl (lv_at hl 0 rfl) ?_
    refine va_new (ci := 3) (fs := [.int 0, .int 0, .int 0, .int 0, .int 0, .int 0, .int 0, .int 0, .null, .null, .null, .null, .null]) (C := RX3) (T := TX3) (N := 13) hx hb hts i_X0_init_X3 tyX3 tyX3_ok hown (hts _ mx_X0_init_4) (hts _ mx_X0_init_6) (hts _ mx_X0_init_7) hK hP hD hS hA rfl (fun j hj => by rcases (show j = 0 ∨ j = 1 ∨ j = 2 ∨ j = 3 ∨ j = 4 ∨ j = 5 ∨ j = 6 ∨ j = 7 ∨ j = 8 ∨ j = 9 ∨ j = 10 ∨ j = 11 ∨ j = 12 by omega) with rfl | rfl | rfl | rfl | rfl | rfl | rfl | rfl | rfl | rfl | rfl | rfl | rfl <;> rfl) (by show 1 + 6 * i + 1 ≤ 145; omega) (by show 24 + 43 * i + 13 ≤ 1056; omega) dX0_init_26 (fun q_3 H hP hD hS => ?_)
    have hP := va_P.swap hP
    have hD := va_D.swap hD
    have hP : va_P (dC, dI) vwCl (([(xo_0_rii h q_1 0 0), (xJ q_1 cL 24 ff), (q_3, .inr (3, [.int 0, .int 0, .int 0, .int 0, .int 0, .int 0, .int 0, .int 0, .null, .null, .null, .null, .null]))] : va_W) ++ lvs cI i ad bd (fun _ _ => 0) (fun _ _ _ => 0)) H := hP
    have hD := dto hP hD
    refine lv_dup hx hb dX0_init_29 rfl ?_
    have hc_4 := cutX (wc := [(q_3, .inr (3, [.int 0, .int 0, .int 0, .int 0, .int 0, .int 0, .int 0, .int 0, .null, .null, .null, .null, .null]))]) hP hD hS hA [2] (by decide +kernel) rfl
    refine va_callv (va_runIN (As := []) (rest := [.ref q_3, .int (nI i), .ref q_1]) ⟨hx, hb, hml, hown, hts⟩ (n_X3_init l dC dI cI cZ cL cJ H.size q_3 ) ⟨va_cnB (host := "MillTalk") 0 hts gX0_init_X3_init_n15 rfl rfl rfl (nw_X0_15 hN) (hts _ mx_X0_init_7) (by decide +kernel) ⟨Nat.le_of_ble_eq_true rfl, Nat.le_of_ble_eq_true rfl⟩, rfl, (hts _ mx_X0_init_8)⟩ ⟨fun a U g mk q => by obtain ⟨q0, q1, qP, qK, qD⟩ := q; exact ⟨q0, q1, qP, va_K.moved (u := U) (U := U.calling g mk a) (Vm.Alike.refl U.vm) qK, qD⟩, fun U hU hW => ⟨rfl, by rw [hU], by rw [hU]; exact hc_4.1, va_K.moved hW.alike hK, hc_4.2.1.weaken (fun _ _ _ _ => trivial)⟩⟩ rfl rfl hl.1 rfl (lv_room (Nat.le_of_ble_eq_true rfl)) dX0_init_30 ⟨by show 1 + 6 * i + 1 + 5 ≤ 145; omega, by show 24 + 43 * i + 13 + 30 ≤ 1056; omega⟩) hS (fun q _ h => hc_4.2.2 q h) hc_4.2.2 (fun u_4 t_4 H1 locs ht hvm h_4 hB hz1 hk1 hS => ?_)
    refine xl_5_2 hB (fun b1_4 b2_4 b3_4 b4_4 b5_4 hP1 hD1 => ?_)
    clear hB
    rw [ht] at hP1
    obtain ⟨hP, hD⟩ := va_joinQ (wr := [(xo_0_rii h q_1 0 0), (xJ q_1 cL 24 ff)]) (w1 := [(xo_3_iiiiiiiirrrrr q_3 0 0 0 0 0 0 0 0 b1_4 b2_4 b3_4 b4_4 b5_4), (xI b1_4 cI 6 (fun _ => 0)), (xI b2_4 cI 6 (fun _ => 0)), (xI b3_4 cI 6 (fun _ => 0)), (xI b4_4 cI 6 (fun _ => 0)), (xI b5_4 cI 6 (fun _ => 0))]) hP hD [2] [0, 1] rfl rfl (by decide +kernel) (by decide +kernel) hk1 hc_4.2.2 hP1 hD1
    generalize H1 = H at hP hS ⊢
    have hP : va_P (dC, dI) vwCl (([(xo_0_rii h q_1 0 0), (xJ q_1 cL 24 ff), (xo_3_iiiiiiiirrrrr q_3 0 0 0 0 0 0 0 0 b1_4 b2_4 b3_4 b4_4 b5_4), (xI b1_4 cI 6 (fun _ => 0)), (xI b2_4 cI 6 (fun _ => 0)), (xI b3_4 cI 6 (fun _ => 0)), (xI b4_4 cI 6 (fun _ => 0)), (xI b5_4 cI 6 (fun _ => 0))] : va_W) ++ lvs cI i ad bd (fun _ _ => 0) (fun _ _ _ => 0)) H := hP
    have hD := dto hP hD
    refine va_astq hx hb hK hP hD hS 1 2 2 3 rfl rfl rfl rfl (vp_in_nI (by omega) (by omega)) dX0_init_33 (fun H locs hP hD hS => ?_)
    generalize hg_5 : va_up ff ((nI i) : Int32).toNatClampNeg (some q_3) = g_5 at hP hD
    have hP : va_P (dC, dI) vwCl (([(xo_0_rii h q_1 0 0), (xJ q_1 cL 24 g_5), (xo_3_iiiiiiiirrrrr q_3 0 0 0 0 0 0 0 0 b1_4 b2_4 b3_4 b4_4 b5_4), (xI b1_4 cI 6 (fun _ => 0)), (xI b2_4 cI 6 (fun _ => 0)), (xI b3_4 cI 6 (fun _ => 0)), (xI b4_4 cI 6 (fun _ => 0)), (xI b5_4 cI 6 (fun _ => 0))] : va_W) ++ lvs cI i ad bd (fun _ _ => 0) (fun _ _ _ => 0)) H := hP
    have hD := dto hP hD
    refine lv_iinc (v := (nI (i + 1))) (lv' := [(1, .int (nI (i + 1))), (0, .ref h)]) hx hb dX0_init_34 hl (k := 0) rfl (nI_add i 1) (by decide) rfl (fun ls hl => ?_)
    refine lv_goto (tgt := 15) hx hb dX0_init_37 (by decide) ?_
    have hP := blk_pushP (X := [(xo_0_rii h q_1 0 0), (xJ q_1 cL 24 g_5)]) (q := q_3) (b := (fun k => [b1_4, b2_4, b3_4, b4_4, b5_4].getD k 0)) (hP.part (cx := [(xo_0_rii h q_1 0 0), (xJ q_1 cL 24 g_5), (xo_3_iiiiiiiirrrrr q_3 0 0 0 0 0 0 0 0 b1_4 b2_4 b3_4 b4_4 b5_4), (xI b1_4 cI 6 (fun _ => 0)), (xI b2_4 cI 6 (fun _ => 0)), (xI b3_4 cI 6 (fun _ => 0)), (xI b4_4 cI 6 (fun _ => 0)), (xI b5_4 cI 6 (fun _ => 0))]) [0, 1, 2, 3, 4, 5, 6, 7] rfl)
    have hD := blk_pushD (X := [(xo_0_rii h q_1 0 0), (xJ q_1 cL 24 g_5)]) (q := q_3) (b := (fun k => [b1_4, b2_4, b3_4, b4_4, b5_4].getD k 0)) (hD.part (cx := [(xo_0_rii h q_1 0 0), (xJ q_1 cL 24 g_5), (xo_3_iiiiiiiirrrrr q_3 0 0 0 0 0 0 0 0 b1_4 b2_4 b3_4 b4_4 b5_4), (xI b1_4 cI 6 (fun _ => 0)), (xI b2_4 cI 6 (fun _ => 0)), (xI b3_4 cI 6 (fun _ => 0)), (xI b4_4 cI 6 (fun _ => 0)), (xI b5_4 cI 6 (fun _ => 0))]) [0, 1, 2, 3, 4, 5, 6, 7] (by decide +kernel) rfl)
    have hff2 := ff_push (q := q_3) hff (by omega) hg_5
    refine W.widen (k := 1 + 6 * (i + 1)) (n := 24 + 43 * (i + 1)) (by omega) (by omega) ?_
    exact ih (g_5, va_up ad i q_3, va_up bd i (fun k => [b1_4, b2_4, b3_4, b4_4, b5_4].getD k 0)) H locs ls ⟨hP, hD, hS, lv_sub hl [0, 1] rfl, hff2⟩
  · rintro ⟨ff, ad, bd⟩ H locs ls ⟨hP, hD, hS, hl, hff⟩
    refine W.widen (k := 145) (n := 1056) (Nat.le_of_ble_eq_true rfl) (Nat.le_of_ble_eq_true rfl) ?_
    have hP : va_P (dC, dI) vwCl (([(xo_0_rii h q_1 0 0), (xJ q_1 cL 24 ff)] : va_W) ++ lvs cI 24 ad bd (fun _ _ => 0) (fun _ _ _ => 0)) H := hP
    have hD : va_D A (([(xo_0_rii h q_1 0 0), (xJ q_1 cL 24 ff)] : va_W) ++ lvs cI 24 ad bd (fun _ _ => 0) (fun _ _ _ => 0)) := hD
    have hl : lv_has ls 2 [(1, .int (nI 24)), (0, .ref h)] := hl
    refine lv_iload_n hx hb dX0_init_15 rfl (lv_at hl 0 rfl) ?_
    refine lv_bipush (v := 24) hx hb dX0_init_16 (by decide) ?_
    refine lv_icmp_ge (tgt := 40) hx hb dX0_init_18 (by decide) (fun _ => ?_) (fun c_ => absurd ((nI_leI (a := 24) (b := 24) (by omega) (by omega)).mpr (by omega)) c_)
    have hX9 := cut2P (cx := [(xo_0_rii h q_1 0 0), (xJ q_1 cL 24 ff)]) hP hD [0, 1] (by decide +kernel) rfl
    exact W.vret hx hb hr (fun t ht hW => ⟨⟨(), rfl, trivial, ⟨q_1, ff, ad, bd, va_Ht ht hX9.1, hX9.2, hff⟩⟩, hS.F ht⟩) hS.2.2 dX0_init_40
set_option maxHeartbeats 4000000 in
set_option maxRecDepth 100000 in
theorem n_X2_init (l : Launch) (dC : Nat → ClassId) (dI : Nat → Nat → Nat) (cI cZ cL cJ : ClassId) (sz : Nat) (h : Nat)  : Met l yX2_init wsX2_init ({ frames := 2, cells := 55, slots := 396, locals := 40 }) (va_Pc [.ref h] (fun U => U.heap.size = sz ∧ va_P (dC, dI) vwCl [(h, .inr (2, [.null, .int 0, .int 0, .int 0, .int 0, .int 0]))] U.heap ∧ va_K (dC, dI) vwCl [(cI, .int), (cZ, .boolean), (cL, .object RX3), (cJ, .array .int)] U ∧ va_D (fun _ => True) [(h, .inr (2, [.null, .int 0, .int 0, .int 0, .int 0, .int 0]))] ∧ nw_ok cI cJ U)) (va_Qv (fun (_ : Unit) => True) (fun (_ : Unit) t => ∃ (be : Nat) (fb : Nat → Option Nat) (ad : Nat → Nat) (bd : Nat → Nat → Nat), va_P (dC, dI) vwCl (([(xo_2_riiiii h be 0 0 0 0 0), (xJ be cL 9 fb)] : va_W) ++ lvs cI 9 ad bd (fun _ _ => 0) (fun _ _ _ => 0)) t.heap ∧ va_D (va_A [(h, .inr (2, [.null, .int 0, .int 0, .int 0, .int 0, .int 0]))] sz) (([(xo_2_riiiii h be 0 0 0 0 0), (xJ be cL 9 fb)] : va_W) ++ lvs cI 9 ad bd (fun _ _ => 0) (fun _ _ _ => 0)) ∧ (∀ i : Nat, i < 9 → fb i = some (ad i))) (va_A [(h, .inr (2, [.null, .int 0, .int 0, .int 0, .int 0, .int 0]))] sz)) 55 396 (va_A [(h, .inr (2, [.null, .int 0, .int 0, .int 0, .int 0, .int 0]))] sz) := by
  refine Met.ofW (cc := cX2_init) (maxL := 2) (ret := none) (by decide) rfl ?_
  intro p e s m args below meth c s₁ B hml hv
  obtain ⟨rfl, hsz, hP, hK, hD0, hN⟩ := hv
  have hx := B.exec
  have hb := B.bytes
  have hr := B.returns
  have hts := atoms_spec (ws := wsX2_init) B.pre
  have hown : s.vm.findClass RX2 = some m.cls := findClass_of_methodNamed B.named
  have hlocks := B.notSynchronized
  have hin : meth.name = "<init>" := (name_of_methodNamed B.named B.method).1
  subst hsz
  have hD := hD0.self (sz := s.heap.size)
  generalize hAe : va_A [(h, .inr (2, [.null, .int 0, .int 0, .int 0, .int 0, .int 0]))] s.heap.size = A at hD ⊢
  have hA : ∀ q : Nat, s.heap.size ≤ q → A q := fun q h => by rw [← hAe]; exact Or.inr h
  have hS : va_S A s.heap s.heap [] := va_S.rf
  have hP : va_P (dC, dI) vwCl [(h, .inr (2, [.null, .int 0, .int 0, .int 0, .int 0, .int 0]))] s.heap := hP
  have hl := lv_entry ([.ref h]) (n := 2) (Nat.le_of_ble_eq_true rfl)
  rw [lg_entry_eq]
  generalize (lg_sl ([.ref h]) ++ List.replicate (2 - (lg_sl ([.ref h])).length) Slot.unset).toArray = ls at hl ⊢
  have hl : lv_has ls 2 [(0, .ref h)] := hl
  refine lv_aload_n hx hb dX2_init_0 rfl (lv_at hl 0 rfl) ?_
  refine W.objInit hx hb hown (hts _ mx_X2_init_1) (hts _ mx_X2_init_2) (hts _ (List.mem_of_getElem? (l := wsX2_init) (i := 3) rfl)) rfl (by rw [hml]; exact hl.1) rfl dX2_init_1 (Nat.le_of_ble_eq_true rfl) (Nat.le_of_ble_eq_true rfl) ?_
  refine W.eq (g2 := F0 m 4 ls []) rfl ?_
  refine lv_aload_n hx hb dX2_init_4 rfl (lv_at hl 0 rfl) ?_
  refine lv_bipush (v := 9) hx hb dX2_init_5 (by decide) ?_
  refine nw_newL (t0 := 2) (N' := 9) rfl hx hb hown (hts _ mx_X2_init_4) hN.1 hK hP hD hS hA (by decide) (by decide) (by decide) (Nat.le_of_ble_eq_true rfl) (Nat.le_of_ble_eq_true rfl) dX2_init_7 (fun q_1 H hP hD hS => ?_)
  have hP : va_P (dC, dI) vwCl [(h, .inr (2, [.null, .int 0, .int 0, .int 0, .int 0, .int 0])), (xJ q_1 cL 9 (fun _ => none))] H := hP
  have hD := dto hP hD
  refine W.widen (k := 1) (n := 9) (Nat.le_of_ble_eq_true rfl) (Nat.le_of_ble_eq_true rfl) ?_
  refine va_putF (D := (dC, dI)) (ci := 2) (v := .ref q_1) (ty := (tyX2 0)) (C := RX2) (T := TX2) (N := 6) hx hb hts i_X2_init_X2 tyX2 tyX2_ok nmX2 hown hK hP hD hS 0 rfl rfl 0 (by decide) (hts _ mx_X2_init_5) (fun _ h9 => h9) rfl hin rfl (by decide +kernel) rfl rfl (Nat.le_of_ble_eq_true rfl) dX2_init_10 (fun H locs hP hD hS => ?_)
  have hP : va_P (dC, dI) vwCl [(xo_2_riiiii h q_1 0 0 0 0 0), (xJ q_1 cL 9 (fun _ => none))] H := hP
  have hD := dto hP hD
  refine lv_iconst (v := 0) hx hb dX2_init_13 (by decide) ?_
  refine lv_istore_n (lv' := [(1, .int 0), (0, .ref h)]) hx hb dX2_init_14 rfl hl (by decide) rfl (fun ls hl => ?_)
  have hP := hP.sub (ws' := [(xo_2_riiiii h q_1 0 0 0 0 0), (xJ q_1 cL 9 (fun _ => none))]) [0, 1] rfl
  have hD := hD.sub (ws' := [(xo_2_riiiii h q_1 0 0 0 0 0), (xJ q_1 cL 9 (fun _ => none))]) [0, 1] (by decide +kernel) rfl
  refine W.widen (k := 1 + 6 * 0) (n := 9 + 43 * 0) (Nat.le_of_ble_eq_true rfl) (Nat.le_of_ble_eq_true rfl) ?_
  refine lp_goC (σ := (Nat → Option Nat) × (Nat → Nat) × (Nat → Nat → Nat)) (fun i => 1 + 6 * i) (fun i => 9 + 43 * i) (fun i (st : (Nat → Option Nat) × (Nat → Nat) × (Nat → Nat → Nat)) H locs ls => match st with | (ff, ad, bd) => va_P (dC, dI) vwCl (([(xo_2_riiiii h q_1 0 0 0 0 0), (xJ q_1 cL 9 ff)] : va_W) ++ lvs cI i ad bd (fun _ _ => 0) (fun _ _ _ => 0)) H ∧ va_D A (([(xo_2_riiiii h q_1 0 0 0 0 0), (xJ q_1 cL 9 ff)] : va_W) ++ lvs cI i ad bd (fun _ _ => 0) (fun _ _ _ => 0)) ∧ va_S A s.heap H locs ∧ lv_has ls 2 [(1, .int (nI i)), (0, .ref h)] ∧ (∀ j : Nat, j < i → ff j = some (ad j))) 9 ?_ ?_ 0 (Nat.zero_le _) (fun _ => none, fun _ => 0, fun _ _ => 0) ⟨lv0P hP, lv0D hD, hS, hl, fun j h => absurd h (Nat.not_lt_zero j)⟩
  · rintro i ⟨ff, ad, bd⟩ H locs ls hi ⟨hP, hD, hS, hl, hff⟩ ih
    refine W.widen (k := 1 + 6 * i) (n := 9 + 43 * i) (Nat.le_refl _) (Nat.le_refl _) ?_
    have hP : va_P (dC, dI) vwCl (([(xo_2_riiiii h q_1 0 0 0 0 0), (xJ q_1 cL 9 ff)] : va_W) ++ lvs cI i ad bd (fun _ _ => 0) (fun _ _ _ => 0)) H := hP
    have hD : va_D A (([(xo_2_riiiii h q_1 0 0 0 0 0), (xJ q_1 cL 9 ff)] : va_W) ++ lvs cI i ad bd (fun _ _ => 0) (fun _ _ _ => 0)) := hD
    refine lv_iload_n hx hb dX2_init_15 rfl (lv_at hl 0 rfl) ?_
    refine lv_bipush (v := 8) hx hb dX2_init_16 (by decide) ?_
    refine lv_icmp_gt (tgt := 40) hx hb dX2_init_18 (by decide) (fun c_ => absurd c_ (fun q_ => absurd ((nI_ltI (a := 8) (b := i) (by omega) (by omega)).mp q_) (by omega))) (fun _ => ?_)
    refine lv_aload_n hx hb dX2_init_21 rfl (lv_at hl 1 rfl) ?_
    refine va_get (D := (dC, dI)) (ci := 2) (v := .ref q_1) (C := RX2) (T := TX2) (N := 6) hx hb hts i_X2_init_X2 hown hK hP 0 rfl rfl 0 (by decide) (hts _ mx_X2_init_5) (fun _ h9 => h9) rfl dX2_init_22 ?_
    refine lv_iload_n hx hb dX2_init_25 rfl (lv_at hl 0 rfl) ?_
    refine va_new (ci := 3) (fs := [.int 0, .int 0, .int 0, .int 0, .int 0, .int 0, .int 0, .int 0, .null, .null, .null, .null, .null]) (C := RX3) (T := TX3) (N := 13) hx hb hts i_X2_init_X3 tyX3 tyX3_ok hown (hts _ mx_X2_init_4) (hts _ mx_X2_init_6) (hts _ mx_X2_init_7) hK hP hD hS hA rfl (fun j hj => by rcases (show j = 0 ∨ j = 1 ∨ j = 2 ∨ j = 3 ∨ j = 4 ∨ j = 5 ∨ j = 6 ∨ j = 7 ∨ j = 8 ∨ j = 9 ∨ j = 10 ∨ j = 11 ∨ j = 12 by omega) with rfl | rfl | rfl | rfl | rfl | rfl | rfl | rfl | rfl | rfl | rfl | rfl | rfl <;> rfl) (by show 1 + 6 * i + 1 ≤ 55; omega) (by show 9 + 43 * i + 13 ≤ 396; omega) dX2_init_26 (fun q_3 H hP hD hS => ?_)
    have hP := va_P.swap hP
    have hD := va_D.swap hD
    have hP : va_P (dC, dI) vwCl (([(xo_2_riiiii h q_1 0 0 0 0 0), (xJ q_1 cL 9 ff), (q_3, .inr (3, [.int 0, .int 0, .int 0, .int 0, .int 0, .int 0, .int 0, .int 0, .null, .null, .null, .null, .null]))] : va_W) ++ lvs cI i ad bd (fun _ _ => 0) (fun _ _ _ => 0)) H := hP
    have hD := dto hP hD
    refine lv_dup hx hb dX2_init_29 rfl ?_
    have hc_4 := cutX (wc := [(q_3, .inr (3, [.int 0, .int 0, .int 0, .int 0, .int 0, .int 0, .int 0, .int 0, .null, .null, .null, .null, .null]))]) hP hD hS hA [2] (by decide +kernel) rfl
    refine va_callv (va_runIN (As := []) (rest := [.ref q_3, .int (nI i), .ref q_1]) ⟨hx, hb, hml, hown, hts⟩ (n_X3_init l dC dI cI cZ cL cJ H.size q_3 ) ⟨va_cnB (host := "MillTalk") 0 hts gX2_init_X3_init_n17 rfl rfl rfl (nw_X2_17 hN) (hts _ mx_X2_init_7) (by decide +kernel) ⟨Nat.le_of_ble_eq_true rfl, Nat.le_of_ble_eq_true rfl⟩, rfl, (hts _ mx_X2_init_8)⟩ ⟨fun a U g mk q => by obtain ⟨q0, q1, qP, qK, qD⟩ := q; exact ⟨q0, q1, qP, va_K.moved (u := U) (U := U.calling g mk a) (Vm.Alike.refl U.vm) qK, qD⟩, fun U hU hW => ⟨rfl, by rw [hU], by rw [hU]; exact hc_4.1, va_K.moved hW.alike hK, hc_4.2.1.weaken (fun _ _ _ _ => trivial)⟩⟩ rfl rfl hl.1 rfl (lv_room (Nat.le_of_ble_eq_true rfl)) dX2_init_30 ⟨by show 1 + 6 * i + 1 + 5 ≤ 55; omega, by show 9 + 43 * i + 13 + 30 ≤ 396; omega⟩) hS (fun q _ h => hc_4.2.2 q h) hc_4.2.2 (fun u_4 t_4 H1 locs ht hvm h_4 hB hz1 hk1 hS => ?_)
    refine xl_5_2 hB (fun b1_4 b2_4 b3_4 b4_4 b5_4 hP1 hD1 => ?_)
    clear hB
    rw [ht] at hP1
    obtain ⟨hP, hD⟩ := va_joinQ (wr := [(xo_2_riiiii h q_1 0 0 0 0 0), (xJ q_1 cL 9 ff)]) (w1 := [(xo_3_iiiiiiiirrrrr q_3 0 0 0 0 0 0 0 0 b1_4 b2_4 b3_4 b4_4 b5_4), (xI b1_4 cI 6 (fun _ => 0)), (xI b2_4 cI 6 (fun _ => 0)), (xI b3_4 cI 6 (fun _ => 0)), (xI b4_4 cI 6 (fun _ => 0)), (xI b5_4 cI 6 (fun _ => 0))]) hP hD [2] [0, 1] rfl rfl (by decide +kernel) (by decide +kernel) hk1 hc_4.2.2 hP1 hD1
    generalize H1 = H at hP hS ⊢
    have hP : va_P (dC, dI) vwCl (([(xo_2_riiiii h q_1 0 0 0 0 0), (xJ q_1 cL 9 ff), (xo_3_iiiiiiiirrrrr q_3 0 0 0 0 0 0 0 0 b1_4 b2_4 b3_4 b4_4 b5_4), (xI b1_4 cI 6 (fun _ => 0)), (xI b2_4 cI 6 (fun _ => 0)), (xI b3_4 cI 6 (fun _ => 0)), (xI b4_4 cI 6 (fun _ => 0)), (xI b5_4 cI 6 (fun _ => 0))] : va_W) ++ lvs cI i ad bd (fun _ _ => 0) (fun _ _ _ => 0)) H := hP
    have hD := dto hP hD
    refine va_astq hx hb hK hP hD hS 1 2 2 3 rfl rfl rfl rfl (vp_in_nI (by omega) (by omega)) dX2_init_33 (fun H locs hP hD hS => ?_)
    generalize hg_5 : va_up ff ((nI i) : Int32).toNatClampNeg (some q_3) = g_5 at hP hD
    have hP : va_P (dC, dI) vwCl (([(xo_2_riiiii h q_1 0 0 0 0 0), (xJ q_1 cL 9 g_5), (xo_3_iiiiiiiirrrrr q_3 0 0 0 0 0 0 0 0 b1_4 b2_4 b3_4 b4_4 b5_4), (xI b1_4 cI 6 (fun _ => 0)), (xI b2_4 cI 6 (fun _ => 0)), (xI b3_4 cI 6 (fun _ => 0)), (xI b4_4 cI 6 (fun _ => 0)), (xI b5_4 cI 6 (fun _ => 0))] : va_W) ++ lvs cI i ad bd (fun _ _ => 0) (fun _ _ _ => 0)) H := hP
    have hD := dto hP hD
    refine lv_iinc (v := (nI (i + 1))) (lv' := [(1, .int (nI (i + 1))), (0, .ref h)]) hx hb dX2_init_34 hl (k := 0) rfl (nI_add i 1) (by decide) rfl (fun ls hl => ?_)
    refine lv_goto (tgt := 15) hx hb dX2_init_37 (by decide) ?_
    have hP := blk_pushP (X := [(xo_2_riiiii h q_1 0 0 0 0 0), (xJ q_1 cL 9 g_5)]) (q := q_3) (b := (fun k => [b1_4, b2_4, b3_4, b4_4, b5_4].getD k 0)) (hP.part (cx := [(xo_2_riiiii h q_1 0 0 0 0 0), (xJ q_1 cL 9 g_5), (xo_3_iiiiiiiirrrrr q_3 0 0 0 0 0 0 0 0 b1_4 b2_4 b3_4 b4_4 b5_4), (xI b1_4 cI 6 (fun _ => 0)), (xI b2_4 cI 6 (fun _ => 0)), (xI b3_4 cI 6 (fun _ => 0)), (xI b4_4 cI 6 (fun _ => 0)), (xI b5_4 cI 6 (fun _ => 0))]) [0, 1, 2, 3, 4, 5, 6, 7] rfl)
    have hD := blk_pushD (X := [(xo_2_riiiii h q_1 0 0 0 0 0), (xJ q_1 cL 9 g_5)]) (q := q_3) (b := (fun k => [b1_4, b2_4, b3_4, b4_4, b5_4].getD k 0)) (hD.part (cx := [(xo_2_riiiii h q_1 0 0 0 0 0), (xJ q_1 cL 9 g_5), (xo_3_iiiiiiiirrrrr q_3 0 0 0 0 0 0 0 0 b1_4 b2_4 b3_4 b4_4 b5_4), (xI b1_4 cI 6 (fun _ => 0)), (xI b2_4 cI 6 (fun _ => 0)), (xI b3_4 cI 6 (fun _ => 0)), (xI b4_4 cI 6 (fun _ => 0)), (xI b5_4 cI 6 (fun _ => 0))]) [0, 1, 2, 3, 4, 5, 6, 7] (by decide +kernel) rfl)
    have hff2 := ff_push (q := q_3) hff (by omega) hg_5
    refine W.widen (k := 1 + 6 * (i + 1)) (n := 9 + 43 * (i + 1)) (by omega) (by omega) ?_
    exact ih (g_5, va_up ad i q_3, va_up bd i (fun k => [b1_4, b2_4, b3_4, b4_4, b5_4].getD k 0)) H locs ls ⟨hP, hD, hS, lv_sub hl [0, 1] rfl, hff2⟩
  · rintro ⟨ff, ad, bd⟩ H locs ls ⟨hP, hD, hS, hl, hff⟩
    refine W.widen (k := 55) (n := 396) (Nat.le_of_ble_eq_true rfl) (Nat.le_of_ble_eq_true rfl) ?_
    have hP : va_P (dC, dI) vwCl (([(xo_2_riiiii h q_1 0 0 0 0 0), (xJ q_1 cL 9 ff)] : va_W) ++ lvs cI 9 ad bd (fun _ _ => 0) (fun _ _ _ => 0)) H := hP
    have hD : va_D A (([(xo_2_riiiii h q_1 0 0 0 0 0), (xJ q_1 cL 9 ff)] : va_W) ++ lvs cI 9 ad bd (fun _ _ => 0) (fun _ _ _ => 0)) := hD
    have hl : lv_has ls 2 [(1, .int (nI 9)), (0, .ref h)] := hl
    refine lv_iload_n hx hb dX2_init_15 rfl (lv_at hl 0 rfl) ?_
    refine lv_bipush (v := 8) hx hb dX2_init_16 (by decide) ?_
    refine lv_icmp_gt (tgt := 40) hx hb dX2_init_18 (by decide) (fun _ => ?_) (fun c_ => absurd ((nI_ltI (a := 8) (b := 9) (by omega) (by omega)).mpr (by omega)) c_)
    have hX9 := cut2P (cx := [(xo_2_riiiii h q_1 0 0 0 0 0), (xJ q_1 cL 9 ff)]) hP hD [0, 1] (by decide +kernel) rfl
    exact W.vret hx hb hr (fun t ht hW => ⟨⟨(), rfl, trivial, ⟨q_1, ff, ad, bd, va_Ht ht hX9.1, hX9.2, hff⟩⟩, hS.F ht⟩) hS.2.2 dX2_init_40
