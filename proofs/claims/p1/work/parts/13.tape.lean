set_option maxHeartbeats 4000000 in
set_option maxRecDepth 100000 in
theorem c_X6_init (l : Launch) (dC : Nat → ClassId) (dI : Nat → Nat → Nat) (cI cZ cL cJ : ClassId) (sz : Nat) (h : Nat)  : Met l yX6_init wsX6_init ({ frames := 2, cells := 7, slots := 163, locals := 40 }) (va_Pc [.ref h] (fun U => U.heap.size = sz ∧ va_P (dC, dI) vwCl [(h, .inr (6, [.null, .int 0, .null, .int 0, .int 0, .int 0]))] U.heap ∧ va_K (dC, dI) vwCl [(cI, .int), (cZ, .boolean), (cL, .object RX3), (cJ, .array .int)] U ∧ va_D (fun _ => True) [(h, .inr (6, [.null, .int 0, .null, .int 0, .int 0, .int 0]))] ∧ nw_ok cI cJ U)) (va_Qv (fun (_ : Unit) => True) (fun (_ : Unit) t => ∃ (bs : Nat) (td : Nat) (t1 : Nat) (t2 : Nat) (t3 : Nat) (t4 : Nat) (t5 : Nat), va_P (dC, dI) vwCl [(h, .inr (6, [.ref bs, .int 0, .ref td, .int 0, .int 0, .int 0])), (bs, .inl (cI, 120, .inl (fun _ => 0))), (td, .inr (3, [.int 0, .int 0, .int 0, .int 0, .int 0, .int 0, .int 0, .int 0, .ref t1, .ref t2, .ref t3, .ref t4, .ref t5]))] t.heap ∧ va_D (va_A [(h, .inr (6, [.null, .int 0, .null, .int 0, .int 0, .int 0]))] sz) [(h, .inr (6, [.ref bs, .int 0, .ref td, .int 0, .int 0, .int 0])), (bs, .inl (cI, 120, .inl (fun _ => 0))), (td, .inr (3, [.int 0, .int 0, .int 0, .int 0, .int 0, .int 0, .int 0, .int 0, .ref t1, .ref t2, .ref t3, .ref t4, .ref t5]))]) (va_A [(h, .inr (6, [.null, .int 0, .null, .int 0, .int 0, .int 0]))] sz)) 7 163 (va_A [(h, .inr (6, [.null, .int 0, .null, .int 0, .int 0, .int 0]))] sz) := by
  refine Met.ofW (cc := cX6_init) (maxL := 1) (ret := none) (by decide) rfl ?_
  intro p e s m args below meth c s₁ B hml hv
  obtain ⟨rfl, hsz, hP, hK, hD0, hN⟩ := hv
  have hx := B.exec
  have hb := B.bytes
  have hr := B.returns
  have hts := atoms_spec (ws := wsX6_init) B.pre
  have hown : s.vm.findClass RX6 = some m.cls := findClass_of_methodNamed B.named
  have hlocks := B.notSynchronized
  have hin : meth.name = "<init>" := (name_of_methodNamed B.named B.method).1
  subst hsz
  have hD := hD0.self (sz := s.heap.size)
  generalize hAe : va_A [(h, .inr (6, [.null, .int 0, .null, .int 0, .int 0, .int 0]))] s.heap.size = A at hD ⊢
  have hA : ∀ q : Nat, s.heap.size ≤ q → A q := fun q h => by rw [← hAe]; exact Or.inr h
  have hS : va_S A s.heap s.heap [] := va_S.rf
  have hP : va_P (dC, dI) vwCl [(h, .inr (6, [.null, .int 0, .null, .int 0, .int 0, .int 0]))] s.heap := hP
  have hl := lv_entry ([.ref h]) (n := 1) (Nat.le_of_ble_eq_true rfl)
  rw [lg_entry_eq]
  generalize (lg_sl ([.ref h]) ++ List.replicate (1 - (lg_sl ([.ref h])).length) Slot.unset).toArray = ls at hl ⊢
  have hl : lv_has ls 1 [(0, .ref h)] := hl
  refine lv_aload_n hx hb dX6_init_0 rfl (lv_at hl 0 rfl) ?_
  refine W.objInit hx hb hown (hts (.methodLink RX6 3 objectInit) (by decide +kernel)) (hts (.instanceMethod objectInit) (by decide +kernel)) (hts _ (List.mem_of_getElem? (l := wsX6_init) (i := 3) rfl)) rfl (by rw [hml]; exact hl.1) rfl dX6_init_1 (Nat.le_of_ble_eq_true rfl) (Nat.le_of_ble_eq_true rfl) ?_
  refine W.eq (g2 := F0 m 4 ls []) rfl ?_
  refine lv_aload_n hx hb dX6_init_4 rfl (lv_at hl 0 rfl) ?_
  refine lv_bipush (v := 120) hx hb dX6_init_5 (by decide) ?_
  refine nw_newI (t0 := 0) (N' := 120) rfl hx hb (hts (.arrayClass .int) (by decide +kernel)) hK hP hD hS hA (by decide) (by decide) (by decide) (Nat.le_of_ble_eq_true rfl) (Nat.le_of_ble_eq_true rfl) dX6_init_7 (fun q_1 H hP hD hS => ?_)
  have hP : va_P (dC, dI) vwCl [(h, .inr (6, [.null, .int 0, .null, .int 0, .int 0, .int 0])), (q_1, .inl (cI, 120, .inl (fun _ => 0)))] H := hP
  have hD : va_D A [(h, .inr (6, [.null, .int 0, .null, .int 0, .int 0, .int 0])), (q_1, .inl (cI, 120, .inl (fun _ => 0)))] := hD
  refine W.widen (k := 1) (n := 120) (Nat.le_of_ble_eq_true rfl) (Nat.le_of_ble_eq_true rfl) ?_
  refine va_putF (D := (dC, dI)) (ci := 6) (v := .ref q_1) (ty := (tyX6 0)) (C := RX6) (T := TX6) (N := 6) hx hb hts i_X6_init_X6 tyX6 tyX6_ok nmX6 hown hK hP hD hS 0 rfl rfl 0 (by decide) (hts (.fieldLink RX6 11 "MillTalk$Tape" "bytes" "[I") (by decide +kernel)) (fun _ h9 => h9) rfl hin rfl (by decide +kernel) rfl rfl (Nat.le_of_ble_eq_true rfl) dX6_init_9 (fun H locs hP hD hS => ?_)
  have hP : va_P (dC, dI) vwCl [(h, .inr (6, [.ref q_1, .int 0, .null, .int 0, .int 0, .int 0])), (q_1, .inl (cI, 120, .inl (fun _ => 0)))] H := hP
  have hD : va_D A [(h, .inr (6, [.ref q_1, .int 0, .null, .int 0, .int 0, .int 0])), (q_1, .inl (cI, 120, .inl (fun _ => 0)))] := hD
  refine lv_aload_n hx hb dX6_init_12 rfl (lv_at hl 0 rfl) ?_
  refine va_new (ci := 3) (fs := [.int 0, .int 0, .int 0, .int 0, .int 0, .int 0, .int 0, .int 0, .null, .null, .null, .null, .null]) (C := RX3) (T := TX3) (N := 13) hx hb hts i_X6_init_X3 tyX3 tyX3_ok hown (hts (.classLink RX6 15 RX3) (by decide +kernel)) (hts (.instantiable RX3 13) (by decide +kernel)) (hts (.initialized RX3) (by decide +kernel)) hK hP hD hS hA rfl (fun j hj => by rcases (show j = 0 ∨ j = 1 ∨ j = 2 ∨ j = 3 ∨ j = 4 ∨ j = 5 ∨ j = 6 ∨ j = 7 ∨ j = 8 ∨ j = 9 ∨ j = 10 ∨ j = 11 ∨ j = 12 by omega) with rfl | rfl | rfl | rfl | rfl | rfl | rfl | rfl | rfl | rfl | rfl | rfl | rfl <;> rfl) (Nat.le_of_ble_eq_true rfl) (Nat.le_of_ble_eq_true rfl) dX6_init_13 (fun q_2 H hP hD hS => ?_)
  have hP : va_P (dC, dI) vwCl [(h, .inr (6, [.ref q_1, .int 0, .null, .int 0, .int 0, .int 0])), (q_1, .inl (cI, 120, .inl (fun _ => 0))), (q_2, .inr (3, [.int 0, .int 0, .int 0, .int 0, .int 0, .int 0, .int 0, .int 0, .null, .null, .null, .null, .null]))] H := hP
  have hD : va_D A [(h, .inr (6, [.ref q_1, .int 0, .null, .int 0, .int 0, .int 0])), (q_1, .inl (cI, 120, .inl (fun _ => 0))), (q_2, .inr (3, [.int 0, .int 0, .int 0, .int 0, .int 0, .int 0, .int 0, .int 0, .null, .null, .null, .null, .null]))] := hD
  refine W.widen (k := 2) (n := 133) (Nat.le_of_ble_eq_true rfl) (Nat.le_of_ble_eq_true rfl) ?_
  refine lv_dup hx hb dX6_init_16 rfl ?_
  have hPc_3 := hP.sub (ws' := [(q_2, .inr (3, [.int 0, .int 0, .int 0, .int 0, .int 0, .int 0, .int 0, .int 0, .null, .null, .null, .null, .null]))]) [2] rfl
  have hDc_3 := hD.sub (ws' := [(q_2, .inr (3, [.int 0, .int 0, .int 0, .int 0, .int 0, .int 0, .int 0, .int 0, .null, .null, .null, .null, .null]))]) [2] (by decide) rfl
  have hFc_3 := va_free (wc := [(q_2, .inr (3, [.int 0, .int 0, .int 0, .int 0, .int 0, .int 0, .int 0, .int 0, .null, .null, .null, .null, .null]))]) hD hS hA [2] rfl
  refine va_callv (va_runIN (As := []) (rest := [.ref q_2, .ref h]) ⟨hx, hb, hml, hown, hts⟩ (c_X3_init l dC dI cI cZ cL cJ H.size q_2 ) ⟨va_cnB (host := "MillTalk") 0 hts gX6_init_X3_init_n17 rfl rfl rfl (nw_X6_17 hN) (hts (.initialized RX3) (by decide +kernel)) (by decide +kernel) ⟨Nat.le_of_ble_eq_true rfl, Nat.le_of_ble_eq_true rfl⟩, rfl, (hts (.instanceMethod yX3_init) (by decide +kernel))⟩ ⟨fun a U g mk q => by obtain ⟨q0, q1, qP, qK, qD⟩ := q; exact ⟨q0, q1, qP, va_K.moved (u := U) (U := U.calling g mk a) (Vm.Alike.refl U.vm) qK, qD⟩, fun U hU hW => ⟨rfl, by rw [hU], by rw [hU]; exact hPc_3, va_K.moved hW.alike hK, hDc_3.weaken (fun _ _ _ _ => trivial)⟩⟩ rfl rfl hl.1 rfl (lv_room (Nat.le_of_ble_eq_true rfl)) dX6_init_17 ⟨Nat.le_of_ble_eq_true rfl, Nat.le_of_ble_eq_true rfl⟩) hS (fun q _ h => hFc_3 q h) hFc_3 (fun u_3 t_3 H1 locs ht hvm h_3 hB hz1 hk1 hS => ?_)
  obtain ⟨b1_3, b2_3, b3_3, b4_3, b5_3, hP1, hD1⟩ := hB
  rw [ht] at hP1
  obtain ⟨hP, hD⟩ := va_join (wr := [(h, .inr (6, [.ref q_1, .int 0, .null, .int 0, .int 0, .int 0])), (q_1, .inl (cI, 120, .inl (fun _ => 0)))]) (w1 := [(q_2, .inr (3, [.int 0, .int 0, .int 0, .int 0, .int 0, .int 0, .int 0, .int 0, .ref b1_3, .ref b2_3, .ref b3_3, .ref b4_3, .ref b5_3]))]) hP hD [2] [0, 1] rfl rfl (by decide) (by decide) hk1 hFc_3 hP1 hD1
  generalize H1 = H at hP hS ⊢
  have hP : va_P (dC, dI) vwCl [(h, .inr (6, [.ref q_1, .int 0, .null, .int 0, .int 0, .int 0])), (q_1, .inl (cI, 120, .inl (fun _ => 0))), (q_2, .inr (3, [.int 0, .int 0, .int 0, .int 0, .int 0, .int 0, .int 0, .int 0, .ref b1_3, .ref b2_3, .ref b3_3, .ref b4_3, .ref b5_3]))] H := hP
  have hD : va_D A [(h, .inr (6, [.ref q_1, .int 0, .null, .int 0, .int 0, .int 0])), (q_1, .inl (cI, 120, .inl (fun _ => 0))), (q_2, .inr (3, [.int 0, .int 0, .int 0, .int 0, .int 0, .int 0, .int 0, .int 0, .ref b1_3, .ref b2_3, .ref b3_3, .ref b4_3, .ref b5_3]))] := hD
  refine W.widen (k := 7) (n := 163) (Nat.le_of_ble_eq_true rfl) (Nat.le_of_ble_eq_true rfl) ?_
  refine va_putF (D := (dC, dI)) (ci := 6) (v := .ref q_2) (ty := (tyX6 2)) (C := RX6) (T := TX6) (N := 6) hx hb hts i_X6_init_X6 tyX6 tyX6_ok nmX6 hown hK hP hD hS 0 rfl rfl 2 (by decide) (hts (.fieldLink RX6 18 "MillTalk$Tape" "told" "LMillTalk$Level;") (by decide +kernel)) (fun _ h9 => h9) rfl hin rfl (by decide +kernel) rfl rfl (Nat.le_of_ble_eq_true rfl) dX6_init_20 (fun H locs hP hD hS => ?_)
  have hP : va_P (dC, dI) vwCl [(h, .inr (6, [.ref q_1, .int 0, .ref q_2, .int 0, .int 0, .int 0])), (q_1, .inl (cI, 120, .inl (fun _ => 0))), (q_2, .inr (3, [.int 0, .int 0, .int 0, .int 0, .int 0, .int 0, .int 0, .int 0, .ref b1_3, .ref b2_3, .ref b3_3, .ref b4_3, .ref b5_3]))] H := hP
  have hD : va_D A [(h, .inr (6, [.ref q_1, .int 0, .ref q_2, .int 0, .int 0, .int 0])), (q_1, .inl (cI, 120, .inl (fun _ => 0))), (q_2, .inr (3, [.int 0, .int 0, .int 0, .int 0, .int 0, .int 0, .int 0, .int 0, .ref b1_3, .ref b2_3, .ref b3_3, .ref b4_3, .ref b5_3]))] := hD
  have hP9 := hP.sub (ws' := [(h, .inr (6, [.ref q_1, .int 0, .ref q_2, .int 0, .int 0, .int 0])), (q_1, .inl (cI, 120, .inl (fun _ => 0))), (q_2, .inr (3, [.int 0, .int 0, .int 0, .int 0, .int 0, .int 0, .int 0, .int 0, .ref b1_3, .ref b2_3, .ref b3_3, .ref b4_3, .ref b5_3]))]) [0, 1, 2] rfl
  have hD9 := hD.sub (ws' := [(h, .inr (6, [.ref q_1, .int 0, .ref q_2, .int 0, .int 0, .int 0])), (q_1, .inl (cI, 120, .inl (fun _ => 0))), (q_2, .inr (3, [.int 0, .int 0, .int 0, .int 0, .int 0, .int 0, .int 0, .int 0, .ref b1_3, .ref b2_3, .ref b3_3, .ref b4_3, .ref b5_3]))]) [0, 1, 2] (by decide) rfl
  exact W.vret hx hb hr (fun t ht hW => ⟨⟨(), rfl, trivial, ⟨q_1, q_2, b1_3, b2_3, b3_3, b4_3, b5_3, by rw [ht]; exact hP9, hD9⟩⟩, hS.F ht⟩) hS.2.2 dX6_init_23
set_option maxHeartbeats 4000000 in
set_option maxRecDepth 100000 in
theorem c_X6_isFull (l : Launch) (dC : Nat → ClassId) (dI : Nat → Nat → Nat) (cI cZ cL cJ : ClassId) (h : Nat) (bs : Nat) (td : Nat) (fp : Int32) (f : Int32) (k : Int32)  : Met l yX6_isFull wsX6_isFull ({ frames := 0, cells := 0, slots := 0, locals := 0 }) (va_Pc [.ref h] (fun U => va_P (dC, dI) vwCl [(h, .inr (6, [.ref bs, .int 0, .ref td, .int fp, .int f, .int k]))] U.heap ∧ va_K (dC, dI) vwCl [(cI, .int), (cZ, .boolean), (cL, .object RX3), (cJ, .array .int)] U)) (vp_Si (fun r => r = 0)) 0 0 (fun _ => False) := by
  refine Met.ofW (cc := cX6_isFull) (maxL := 1) (ret := (some .boolean)) (by decide) rfl ?_
  intro p e s m args below meth c s₁ B hml hv
  obtain ⟨rfl, hP, hK⟩ := hv
  have hx := B.exec
  have hb := B.bytes
  have hr := B.returns
  have hts := atoms_spec (ws := wsX6_isFull) B.pre
  have hown : s.vm.findClass RX6 = some m.cls := findClass_of_methodNamed B.named
  have hlocks := B.notSynchronized
  have hP : va_P (dC, dI) vwCl [(h, .inr (6, [.ref bs, .int 0, .ref td, .int fp, .int f, .int k]))] s.heap := hP
  have hl := lv_entry ([.ref h]) (n := 1) (Nat.le_of_ble_eq_true rfl)
  rw [lg_entry_eq]
  generalize (lg_sl ([.ref h]) ++ List.replicate (1 - (lg_sl ([.ref h])).length) Slot.unset).toArray = ls at hl ⊢
  have hl : lv_has ls 1 [(0, .ref h)] := hl
  refine lv_aload_n hx hb dX6_isFull_0 rfl (lv_at hl 0 rfl) ?_
  refine va_get (D := (dC, dI)) (ci := 6) (v := .int 0) (C := RX6) (T := TX6) (N := 6) hx hb hts i_X6_isFull_X6 hown hK hP 0 rfl rfl 1 (by decide) (hts (.fieldLink RX6 22 "MillTalk$Tape" "size" "I") (by decide +kernel)) (fun _ h9 => h9) rfl dX6_isFull_1 ?_
  refine lv_bipush (v := 120) hx hb dX6_isFull_4 (by decide) ?_
  refine lv_icmp_lt (tgt := 13) hx hb dX6_isFull_6 (by decide) (fun _ => ?_) (fun c_ => absurd (by decide) c_)
  refine lv_iconst (v := 0) hx hb dX6_isFull_13 (by decide) ?_
  exact W.zret (v := 0) hx hb hr (by decide) (fun t ht hW => ⟨0, rfl, rfl, ht⟩) (fun _ h => by cases h) dX6_isFull_14
set_option maxHeartbeats 4000000 in
set_option maxRecDepth 100000 in
theorem c_X6_append (l : Launch) (dC : Nat → ClassId) (dI : Nat → Nat → Nat) (cI cZ cL cJ : ClassId) (sz : Nat) (h : Nat) (bs : Nat) (td : Nat) (fp : Int32) (f : Int32) (k : Int32) (x : Int32)  : Met l yX6_append wsX6_append ({ frames := 1, cells := 0, slots := 0, locals := 20 }) (va_Pc [.ref h, .int x] (fun U => U.heap.size = sz ∧ va_P (dC, dI) vwCl [(h, .inr (6, [.ref bs, .int 0, .ref td, .int fp, .int f, .int k])), (bs, .inl (cI, 120, .inl (fun _ => 0)))] U.heap ∧ va_K (dC, dI) vwCl [(cI, .int), (cZ, .boolean), (cL, .object RX3), (cJ, .array .int)] U ∧ va_D (fun _ => True) [(h, .inr (6, [.ref bs, .int 0, .ref td, .int fp, .int f, .int k])), (bs, .inl (cI, 120, .inl (fun _ => 0)))])) (va_Qi (fun r (_ : Unit) => r = 1) (fun (_ : Unit) t => True) (va_A [(h, .inr (6, [.ref bs, .int 0, .ref td, .int fp, .int f, .int k])), (bs, .inl (cI, 120, .inl (fun _ => 0)))] sz)) 0 0 (va_A [(h, .inr (6, [.ref bs, .int 0, .ref td, .int fp, .int f, .int k])), (bs, .inl (cI, 120, .inl (fun _ => 0)))] sz) := by
  refine Met.ofW (cc := cX6_append) (maxL := 2) (ret := (some .int)) (by decide) rfl ?_
  intro p e s m args below meth c s₁ B hml hv
  obtain ⟨rfl, hsz, hP, hK, hD0⟩ := hv
  have hx := B.exec
  have hb := B.bytes
  have hr := B.returns
  have hts := atoms_spec (ws := wsX6_append) B.pre
  have hown : s.vm.findClass RX6 = some m.cls := findClass_of_methodNamed B.named
  have hlocks := B.notSynchronized
  subst hsz
  have hD := hD0.self (sz := s.heap.size)
  generalize hAe : va_A [(h, .inr (6, [.ref bs, .int 0, .ref td, .int fp, .int f, .int k])), (bs, .inl (cI, 120, .inl (fun _ => 0)))] s.heap.size = A at hD ⊢
  have hA : ∀ q : Nat, s.heap.size ≤ q → A q := fun q h => by rw [← hAe]; exact Or.inr h
  have hS : va_S A s.heap s.heap [] := va_S.rf
  have hP : va_P (dC, dI) vwCl [(h, .inr (6, [.ref bs, .int 0, .ref td, .int fp, .int f, .int k])), (bs, .inl (cI, 120, .inl (fun _ => 0)))] s.heap := hP
  have hl := lv_entry ([.ref h, .int x]) (n := 2) (Nat.le_of_ble_eq_true rfl)
  rw [lg_entry_eq]
  generalize (lg_sl ([.ref h, .int x]) ++ List.replicate (2 - (lg_sl ([.ref h, .int x])).length) Slot.unset).toArray = ls at hl ⊢
  have hl : lv_has ls 2 [(0, .ref h), (1, .int x)] := hl
  refine lv_aload_n hx hb dX6_append_0 rfl (lv_at hl 0 rfl) ?_
  have hPc_1 := hP.sub (ws' := [(h, .inr (6, [.ref bs, .int 0, .ref td, .int fp, .int f, .int k]))]) [0] rfl
  refine vp_callSi (W.runV (As := []) (rest := []) ⟨hx, hb, hml, hown, hts⟩ (c_X6_isFull l dC dI cI cZ cL cJ h bs td fp f k ) (cwV 0 hts gX6_append_X6_isFull rfl rfl rfl (by decide +kernel) ⟨Nat.le_of_ble_eq_true rfl, Nat.le_of_ble_eq_true rfl⟩) ⟨fun a U g mk q => by obtain ⟨q0, qP, qK⟩ := q; exact ⟨q0, qP, va_K.moved (u := U) (U := U.calling g mk a) (Vm.Alike.refl U.vm) qK⟩, va_recv hK hP (ci := 6) (q0 := 0) rfl rfl, fun U hU hW => ⟨rfl, by rw [hU]; exact hPc_1, va_K.moved hW.alike hK⟩⟩ rfl rfl hl.1 rfl (lv_room (Nat.le_of_ble_eq_true rfl)) dX6_append_1 ⟨Nat.le_of_ble_eq_true rfl, Nat.le_of_ble_eq_true rfl⟩) (fun r_1 h_1 => ?_)
  subst h_1
  refine lv_if_ne (tgt := 27) hx hb dX6_append_4 (by decide) (fun c_ => absurd (by decide) c_) (fun _ => ?_)
  refine lv_aload_n hx hb dX6_append_7 rfl (lv_at hl 0 rfl) ?_
  refine va_get (D := (dC, dI)) (ci := 6) (v := .ref bs) (C := RX6) (T := TX6) (N := 6) hx hb hts i_X6_append_X6 hown hK hP 0 rfl rfl 0 (by decide) (hts (.fieldLink RX6 11 "MillTalk$Tape" "bytes" "[I") (by decide +kernel)) (fun _ h9 => h9) rfl dX6_append_8 ?_
  refine lv_aload_n hx hb dX6_append_11 rfl (lv_at hl 0 rfl) ?_
  refine va_get (D := (dC, dI)) (ci := 6) (v := .int 0) (C := RX6) (T := TX6) (N := 6) hx hb hts i_X6_append_X6 hown hK hP 0 rfl rfl 1 (by decide) (hts (.fieldLink RX6 22 "MillTalk$Tape" "size" "I") (by decide +kernel)) (fun _ h9 => h9) rfl dX6_append_12 ?_
  refine lv_iload_n hx hb dX6_append_15 rfl (lv_at hl 1 rfl) ?_
  refine va_iast hx hb hK hP hD hS 1 0 rfl rfl (by unfold vp_in; decide) dX6_append_16 (fun H locs hP hD hS => ?_)
  generalize hg_3 : upd (fun _ => 0) (0 : Int32).toNatClampNeg x = g_3 at hP hD
  have hP : va_P (dC, dI) vwCl [(h, .inr (6, [.ref bs, .int 0, .ref td, .int fp, .int f, .int k])), (bs, .inl (cI, 120, .inl g_3))] H := hP
  have hD : va_D A [(h, .inr (6, [.ref bs, .int 0, .ref td, .int fp, .int f, .int k])), (bs, .inl (cI, 120, .inl g_3))] := hD
  refine lv_aload_n hx hb dX6_append_17 rfl (lv_at hl 0 rfl) ?_
  refine lv_dup hx hb dX6_append_18 rfl ?_
  refine va_get (D := (dC, dI)) (ci := 6) (v := .int 0) (C := RX6) (T := TX6) (N := 6) hx hb hts i_X6_append_X6 hown hK hP 0 rfl rfl 1 (by decide) (hts (.fieldLink RX6 22 "MillTalk$Tape" "size" "I") (by decide +kernel)) (fun _ h9 => h9) rfl dX6_append_19 ?_
  refine lv_iconst (v := 1) hx hb dX6_append_22 (by decide) ?_
  refine lv_iadd hx hb dX6_append_23 ?_
  refine lv_topi (fun v_4 e_4 => ?_)
  obtain rfl : v_4 = 1 := (e_4).trans (by decide)
  refine va_put (D := (dC, dI)) (ci := 6) (v := .int 1) (ty := .int) (C := RX6) (T := TX6) (N := 6) hx hb hts i_X6_append_X6 tyX6 tyX6_ok nmX6 hown hK hP hD hS 0 rfl rfl 1 (by decide) (hts (.fieldLink RX6 22 "MillTalk$Tape" "size" "I") (by decide +kernel)) (fun _ h9 => h9) rfl (by decide +kernel) rfl rfl (Nat.le_of_ble_eq_true rfl) dX6_append_24 (fun H locs hP hD hS => ?_)
  have hP : va_P (dC, dI) vwCl [(h, .inr (6, [.ref bs, .int 1, .ref td, .int fp, .int f, .int k])), (bs, .inl (cI, 120, .inl g_3))] H := hP
  have hD : va_D A [(h, .inr (6, [.ref bs, .int 1, .ref td, .int fp, .int f, .int k])), (bs, .inl (cI, 120, .inl g_3))] := hD
  refine lv_aload_n hx hb dX6_append_27 rfl (lv_at hl 0 rfl) ?_
  refine va_get (D := (dC, dI)) (ci := 6) (v := .int 1) (C := RX6) (T := TX6) (N := 6) hx hb hts i_X6_append_X6 hown hK hP 0 rfl rfl 1 (by decide) (hts (.fieldLink RX6 22 "MillTalk$Tape" "size" "I") (by decide +kernel)) (fun _ h9 => h9) rfl dX6_append_28 ?_
  exact W.iret (v := 1) hx hb hr (fun t ht hW => ⟨⟨1, (), rfl, rfl, trivial⟩, hS.F ht⟩) hS.2.2 dX6_append_31
set_option maxHeartbeats 4000000 in
set_option maxRecDepth 100000 in
theorem c_X6_byteAt (l : Launch) (dC : Nat → ClassId) (dI : Nat → Nat → Nat) (cI cZ cL cJ : ClassId) (h : Nat) (bs : Nat) (td : Nat) (fp : Int32) (f : Int32) (k : Int32) (i : Int32)  : Met l yX6_byteAt wsX6_byteAt ({ frames := 0, cells := 0, slots := 0, locals := 0 }) (va_Pc [.ref h, .int i] (fun U => va_P (dC, dI) vwCl [(h, .inr (6, [.ref bs, .int 0, .ref td, .int fp, .int f, .int k]))] U.heap ∧ va_K (dC, dI) vwCl [(cI, .int), (cZ, .boolean), (cL, .object RX3), (cJ, .array .int)] U)) (vp_Si (fun r => r = (-1))) 0 0 (fun _ => False) := by
  refine Met.ofW (cc := cX6_byteAt) (maxL := 2) (ret := (some .int)) (by decide) rfl ?_
  intro p e s m args below meth c s₁ B hml hv
  obtain ⟨rfl, hP, hK⟩ := hv
  have hx := B.exec
  have hb := B.bytes
  have hr := B.returns
  have hts := atoms_spec (ws := wsX6_byteAt) B.pre
  have hown : s.vm.findClass RX6 = some m.cls := findClass_of_methodNamed B.named
  have hlocks := B.notSynchronized
  have hP : va_P (dC, dI) vwCl [(h, .inr (6, [.ref bs, .int 0, .ref td, .int fp, .int f, .int k]))] s.heap := hP
  have hl := lv_entry ([.ref h, .int i]) (n := 2) (Nat.le_of_ble_eq_true rfl)
  rw [lg_entry_eq]
  generalize (lg_sl ([.ref h, .int i]) ++ List.replicate (2 - (lg_sl ([.ref h, .int i])).length) Slot.unset).toArray = ls at hl ⊢
  have hl : lv_has ls 2 [(0, .ref h), (1, .int i)] := hl
  refine lv_iload_n hx hb dX6_byteAt_0 rfl (lv_at hl 1 rfl) ?_
  refine lv_if_lt (tgt := 21) hx hb dX6_byteAt_1 (by decide) (fun c_1 => ?_) (fun c_1 => ?_)
  · skip
    refine lv_iconst (v := (-1)) hx hb dX6_byteAt_21 (by decide) ?_
    exact W.iret (v := (-1)) hx hb hr (fun t ht hW => ⟨(-1), rfl, rfl, ht⟩) (fun _ h => by cases h) dX6_byteAt_22
  · skip
    refine lv_iload_n hx hb dX6_byteAt_4 rfl (lv_at hl 1 rfl) ?_
    refine lv_aload_n hx hb dX6_byteAt_5 rfl (lv_at hl 0 rfl) ?_
    refine va_get (D := (dC, dI)) (ci := 6) (v := .int 0) (C := RX6) (T := TX6) (N := 6) hx hb hts i_X6_byteAt_X6 hown hK hP 0 rfl rfl 1 (by decide) (hts (.fieldLink RX6 22 "MillTalk$Tape" "size" "I") (by decide +kernel)) (fun _ h9 => h9) rfl dX6_byteAt_6 ?_
    refine lv_icmp_ge (tgt := 21) hx hb dX6_byteAt_9 (by decide) (fun c_2 => ?_) (fun c_2 => ?_)
    · skip
      refine lv_iconst (v := (-1)) hx hb dX6_byteAt_21 (by decide) ?_
      exact W.iret (v := (-1)) hx hb hr (fun t ht hW => ⟨(-1), rfl, rfl, ht⟩) (fun _ h => by cases h) dX6_byteAt_22
    · skip
      exact absurd (i_nlt.mp ‹¬ i < 0›) ‹¬ (0 : Int32) ≤ i›
set_option maxHeartbeats 4000000 in
set_option maxRecDepth 100000 in
theorem c_X6_isFigure (l : Launch) (dC : Nat → ClassId) (dI : Nat → Nat → Nat) (cI cZ cL cJ : ClassId)   : Met l yX6_isFigure wsX6_isFigure ({ frames := 0, cells := 0, slots := 0, locals := 0 }) (va_Pc [.int (-1)] (fun U => va_P (dC, dI) vwCl [] U.heap ∧ va_K (dC, dI) vwCl [(cI, .int), (cZ, .boolean), (cL, .object RX3), (cJ, .array .int)] U)) (vp_Si (fun r => r = 0)) 0 0 (fun _ => False) := by
  refine Met.ofW (cc := cX6_isFigure) (maxL := 1) (ret := (some .boolean)) (by decide) rfl ?_
  intro p e s m args below meth c s₁ B hml hv
  obtain ⟨rfl, hP, hK⟩ := hv
  have hx := B.exec
  have hb := B.bytes
  have hr := B.returns
  have hts := atoms_spec (ws := wsX6_isFigure) B.pre
  have hown : s.vm.findClass RX6 = some m.cls := findClass_of_methodNamed B.named
  have hlocks := B.notSynchronized
  have hP : va_P (dC, dI) vwCl [] s.heap := hP
  have hl := lv_entry ([.int (-1)]) (n := 1) (Nat.le_of_ble_eq_true rfl)
  rw [lg_entry_eq]
  generalize (lg_sl ([.int (-1)]) ++ List.replicate (1 - (lg_sl ([.int (-1)])).length) Slot.unset).toArray = ls at hl ⊢
  have hl : lv_has ls 1 [(0, .int (-1))] := hl
  refine lv_iload_n hx hb dX6_isFigure_0 rfl (lv_at hl 0 rfl) ?_
  refine lv_bipush (v := 48) hx hb dX6_isFigure_1 (by decide) ?_
  refine lv_icmp_lt (tgt := 16) hx hb dX6_isFigure_3 (by decide) (fun _ => ?_) (fun c_ => absurd (by decide) c_)
  refine lv_iconst (v := 0) hx hb dX6_isFigure_16 (by decide) ?_
  exact W.zret (v := 0) hx hb hr (by decide) (fun t ht hW => ⟨0, rfl, rfl, ht⟩) (fun _ h => by cases h) dX6_isFigure_17
set_option maxHeartbeats 4000000 in
set_option maxRecDepth 100000 in
theorem c_X6_figuresHere (l : Launch) (dC : Nat → ClassId) (dI : Nat → Nat → Nat) (cI cZ cL cJ : ClassId) (h : Nat) (bs : Nat) (td : Nat) (fp : Int32) (f : Int32) (k : Int32)  : Met l yX6_figuresHere wsX6_figuresHere ({ frames := 1, cells := 0, slots := 0, locals := 21 }) (va_Pc [.ref h] (fun U => va_P (dC, dI) vwCl [(h, .inr (6, [.ref bs, .int 0, .ref td, .int fp, .int f, .int k]))] U.heap ∧ va_K (dC, dI) vwCl [(cI, .int), (cZ, .boolean), (cL, .object RX3), (cJ, .array .int)] U)) (vp_Si (fun r => r = 0)) 0 0 (fun _ => False) := by
  refine Met.ofW (cc := cX6_figuresHere) (maxL := 2) (ret := (some .int)) (by decide) rfl ?_
  intro p e s m args below meth c s₁ B hml hv
  obtain ⟨rfl, hP, hK⟩ := hv
  have hx := B.exec
  have hb := B.bytes
  have hr := B.returns
  have hts := atoms_spec (ws := wsX6_figuresHere) B.pre
  have hown : s.vm.findClass RX6 = some m.cls := findClass_of_methodNamed B.named
  have hlocks := B.notSynchronized
  have hP : va_P (dC, dI) vwCl [(h, .inr (6, [.ref bs, .int 0, .ref td, .int fp, .int f, .int k]))] s.heap := hP
  have hl := lv_entry ([.ref h]) (n := 2) (Nat.le_of_ble_eq_true rfl)
  rw [lg_entry_eq]
  generalize (lg_sl ([.ref h]) ++ List.replicate (2 - (lg_sl ([.ref h])).length) Slot.unset).toArray = ls at hl ⊢
  have hl : lv_has ls 2 [(0, .ref h)] := hl
  refine lv_iconst (v := 0) hx hb dX6_figuresHere_0 (by decide) ?_
  refine lv_istore_n (lv' := [(1, .int 0), (0, .ref h)]) hx hb dX6_figuresHere_1 rfl hl (by decide) rfl (fun ls hl => ?_)
  refine lv_iload_n hx hb dX6_figuresHere_2 rfl (lv_at hl 0 rfl) ?_
  refine lv_bipush (v := 120) hx hb dX6_figuresHere_3 (by decide) ?_
  refine lv_icmp_ge (tgt := 30) hx hb dX6_figuresHere_5 (by decide) (fun c_ => absurd c_ (by decide)) (fun _ => ?_)
  refine lv_aload_n hx hb dX6_figuresHere_8 rfl (lv_at hl 1 rfl) ?_
  refine lv_aload_n hx hb dX6_figuresHere_9 rfl (lv_at hl 1 rfl) ?_
  refine va_get (D := (dC, dI)) (ci := 6) (v := .int k) (C := RX6) (T := TX6) (N := 6) hx hb hts i_X6_figuresHere_X6 hown hK hP 0 rfl rfl 5 (by decide) (hts (.fieldLink RX6 36 "MillTalk$Tape" "place" "I") (by decide +kernel)) (fun _ h9 => h9) rfl dX6_figuresHere_10 ?_
  refine lv_iload_n hx hb dX6_figuresHere_13 rfl (lv_at hl 0 rfl) ?_
  refine lv_iadd hx hb dX6_figuresHere_14 ?_
  refine lv_topi (fun v_2 e_2 => ?_)
  have hPc_3 := hP.sub (ws' := [(h, .inr (6, [.ref bs, .int 0, .ref td, .int fp, .int f, .int k]))]) [0] rfl
  refine vp_callSi (W.runV (As := [.int v_2]) (rest := []) ⟨hx, hb, hml, hown, hts⟩ (c_X6_byteAt l dC dI cI cZ cL cJ h bs td fp f k v_2 ) (cwV 1 hts gX6_figuresHere_X6_byteAt rfl rfl rfl (by decide +kernel) ⟨Nat.le_of_ble_eq_true rfl, Nat.le_of_ble_eq_true rfl⟩) ⟨fun a U g mk q => by obtain ⟨q0, qP, qK⟩ := q; exact ⟨q0, qP, va_K.moved (u := U) (U := U.calling g mk a) (Vm.Alike.refl U.vm) qK⟩, va_recv hK hP (ci := 6) (q0 := 0) rfl rfl, fun U hU hW => ⟨rfl, by rw [hU]; exact hPc_3, va_K.moved hW.alike hK⟩⟩ rfl rfl hl.1 rfl (lv_room (Nat.le_of_ble_eq_true rfl)) dX6_figuresHere_15 ⟨Nat.le_of_ble_eq_true rfl, Nat.le_of_ble_eq_true rfl⟩) (fun r_3 h_3 => ?_)
  subst h_3
  have hPc_4 := hP.sub (ws' := []) [] rfl
  refine vp_callSi (W.runS (As := [.int (-1)]) (rest := []) ⟨hx, hb, hml, hown, hts⟩ (c_X6_isFigure l dC dI cI cZ cL cJ  ) (va_cwS 1 hts gX6_figuresHere_X6_isFigure rfl rfl rfl (by decide +kernel) ⟨Nat.le_of_ble_eq_true rfl, Nat.le_of_ble_eq_true rfl⟩) ⟨fun a U g mk q => by obtain ⟨q0, qP, qK⟩ := q; exact ⟨q0, qP, va_K.moved (u := U) (U := U.calling g mk a) (Vm.Alike.refl U.vm) qK⟩, fun U hU hW => ⟨rfl, by rw [hU]; exact hPc_4, va_K.moved hW.alike hK⟩⟩ rfl rfl hl.1 rfl (lv_room (Nat.le_of_ble_eq_true rfl)) dX6_figuresHere_18 ⟨Nat.le_of_ble_eq_true rfl, Nat.le_of_ble_eq_true rfl⟩) (fun r_4 h_4 => ?_)
  subst h_4
  refine lv_if_eq (tgt := 30) hx hb dX6_figuresHere_21 (by decide) (fun _ => ?_) (fun c_ => absurd (by decide) c_)
  refine lv_iload_n hx hb dX6_figuresHere_30 rfl (lv_at hl 0 rfl) ?_
  exact W.iret (v := 0) hx hb hr (fun t ht hW => ⟨0, rfl, rfl, ht⟩) (fun _ h => by cases h) dX6_figuresHere_31
set_option maxHeartbeats 4000000 in
set_option maxRecDepth 100000 in
theorem c_X6_kindOf (l : Launch) (dC : Nat → ClassId) (dI : Nat → Nat → Nat) (cI cZ cL cJ : ClassId)   : Met l yX6_kindOf wsX6_kindOf ({ frames := 0, cells := 0, slots := 0, locals := 0 }) (va_Pc [.int (-1)] (fun U => va_P (dC, dI) vwCl [] U.heap ∧ va_K (dC, dI) vwCl [(cI, .int), (cZ, .boolean), (cL, .object RX3), (cJ, .array .int)] U)) (vp_Si (fun r => r = 0)) 0 0 (fun _ => False) := by
  refine Met.ofW (cc := cX6_kindOf) (maxL := 1) (ret := (some .int)) (by decide) rfl ?_
  intro p e s m args below meth c s₁ B hml hv
  obtain ⟨rfl, hP, hK⟩ := hv
  have hx := B.exec
  have hb := B.bytes
  have hr := B.returns
  have hts := atoms_spec (ws := wsX6_kindOf) B.pre
  have hown : s.vm.findClass RX6 = some m.cls := findClass_of_methodNamed B.named
  have hlocks := B.notSynchronized
  have hP : va_P (dC, dI) vwCl [] s.heap := hP
  have hl := lv_entry ([.int (-1)]) (n := 1) (Nat.le_of_ble_eq_true rfl)
  rw [lg_entry_eq]
  generalize (lg_sl ([.int (-1)]) ++ List.replicate (1 - (lg_sl ([.int (-1)])).length) Slot.unset).toArray = ls at hl ⊢
  have hl : lv_has ls 1 [(0, .int (-1))] := hl
  refine lv_iload_n hx hb dX6_kindOf_0 rfl (lv_at hl 0 rfl) ?_
  refine lv_lookup (off := 61) (tgt := 62) hx hb dX6_kindOf_1 (by decide) (by decide) (by decide) ?_
  refine lv_iconst (v := 0) hx hb dX6_kindOf_62 (by decide) ?_
  exact W.iret (v := 0) hx hb hr (fun t ht hW => ⟨0, rfl, rfl, ht⟩) (fun _ h => by cases h) dX6_kindOf_63
set_option maxHeartbeats 4000000 in
set_option maxRecDepth 100000 in
theorem c_X6_fail1 (l : Launch) (dC : Nat → ClassId) (dI : Nat → Nat → Nat) (cI cZ cL cJ : ClassId) (h : Nat) (bs : Nat) (td : Nat) (fp : Int32) (k : Int32) (x : Int32)  : Met l yX6_fail wsX6_fail ({ frames := 0, cells := 0, slots := 0, locals := 0 }) (va_Pc [.ref h, .int x] (fun U => va_P (dC, dI) vwCl [(h, .inr (6, [.ref bs, .int 0, .ref td, .int fp, .int 1, .int k]))] U.heap ∧ va_K (dC, dI) vwCl [(cI, .int), (cZ, .boolean), (cL, .object RX3), (cJ, .array .int)] U)) (va_Sv (fun _ => True)) 0 0 (fun _ => False) := by
  refine Met.ofW (cc := cX6_fail) (maxL := 2) (ret := none) (by decide) rfl ?_
  intro p e s m args below meth c s₁ B hml hv
  obtain ⟨rfl, hP, hK⟩ := hv
  have hx := B.exec
  have hb := B.bytes
  have hr := B.returns
  have hts := atoms_spec (ws := wsX6_fail) B.pre
  have hown : s.vm.findClass RX6 = some m.cls := findClass_of_methodNamed B.named
  have hlocks := B.notSynchronized
  have hP : va_P (dC, dI) vwCl [(h, .inr (6, [.ref bs, .int 0, .ref td, .int fp, .int 1, .int k]))] s.heap := hP
  have hl := lv_entry ([.ref h, .int x]) (n := 2) (Nat.le_of_ble_eq_true rfl)
  rw [lg_entry_eq]
  generalize (lg_sl ([.ref h, .int x]) ++ List.replicate (2 - (lg_sl ([.ref h, .int x])).length) Slot.unset).toArray = ls at hl ⊢
  have hl : lv_has ls 2 [(0, .ref h), (1, .int x)] := hl
  refine lv_aload_n hx hb dX6_fail_0 rfl (lv_at hl 0 rfl) ?_
  refine va_get (D := (dC, dI)) (ci := 6) (v := .int 1) (C := RX6) (T := TX6) (N := 6) hx hb hts i_X6_fail_X6 hown hK hP 0 rfl rfl 4 (by decide) (hts (.fieldLink RX6 30 "MillTalk$Tape" "fault" "I") (by decide +kernel)) (fun _ h9 => h9) rfl dX6_fail_1 ?_
  refine lv_if_ne (tgt := 20) hx hb dX6_fail_4 (by decide) (fun _ => ?_) (fun c_ => absurd c_ (by decide))
  exact W.vret hx hb hr (fun t ht hW => ⟨rfl, trivial, ht⟩) (fun _ h => by cases h) dX6_fail_20
set_option maxHeartbeats 4000000 in
set_option maxRecDepth 100000 in
theorem c_X6_fail0 (l : Launch) (dC : Nat → ClassId) (dI : Nat → Nat → Nat) (cI cZ cL cJ : ClassId) (sz : Nat) (h : Nat) (bs : Nat) (td : Nat) (fp : Int32) (k : Int32) (x : Int32)  : Met l yX6_fail wsX6_fail ({ frames := 0, cells := 0, slots := 0, locals := 0 }) (va_Pc [.ref h, .int x] (fun U => U.heap.size = sz ∧ va_P (dC, dI) vwCl [(h, .inr (6, [.ref bs, .int 0, .ref td, .int fp, .int 0, .int k]))] U.heap ∧ va_K (dC, dI) vwCl [(cI, .int), (cZ, .boolean), (cL, .object RX3), (cJ, .array .int)] U ∧ va_D (fun _ => True) [(h, .inr (6, [.ref bs, .int 0, .ref td, .int fp, .int 0, .int k]))])) (va_Qv (fun (_ : Unit) => True) (fun (_ : Unit) t => va_P (dC, dI) vwCl [(h, .inr (6, [.ref bs, .int 0, .ref td, .int k, .int x, .int k]))] t.heap ∧ va_D (va_A [(h, .inr (6, [.ref bs, .int 0, .ref td, .int fp, .int 0, .int k]))] sz) [(h, .inr (6, [.ref bs, .int 0, .ref td, .int k, .int x, .int k]))]) (va_A [(h, .inr (6, [.ref bs, .int 0, .ref td, .int fp, .int 0, .int k]))] sz)) 0 0 (va_A [(h, .inr (6, [.ref bs, .int 0, .ref td, .int fp, .int 0, .int k]))] sz) := by
  refine Met.ofW (cc := cX6_fail) (maxL := 2) (ret := none) (by decide) rfl ?_
  intro p e s m args below meth c s₁ B hml hv
  obtain ⟨rfl, hsz, hP, hK, hD0⟩ := hv
  have hx := B.exec
  have hb := B.bytes
  have hr := B.returns
  have hts := atoms_spec (ws := wsX6_fail) B.pre
  have hown : s.vm.findClass RX6 = some m.cls := findClass_of_methodNamed B.named
  have hlocks := B.notSynchronized
  subst hsz
  have hD := hD0.self (sz := s.heap.size)
  generalize hAe : va_A [(h, .inr (6, [.ref bs, .int 0, .ref td, .int fp, .int 0, .int k]))] s.heap.size = A at hD ⊢
  have hA : ∀ q : Nat, s.heap.size ≤ q → A q := fun q h => by rw [← hAe]; exact Or.inr h
  have hS : va_S A s.heap s.heap [] := va_S.rf
  have hP : va_P (dC, dI) vwCl [(h, .inr (6, [.ref bs, .int 0, .ref td, .int fp, .int 0, .int k]))] s.heap := hP
  have hl := lv_entry ([.ref h, .int x]) (n := 2) (Nat.le_of_ble_eq_true rfl)
  rw [lg_entry_eq]
  generalize (lg_sl ([.ref h, .int x]) ++ List.replicate (2 - (lg_sl ([.ref h, .int x])).length) Slot.unset).toArray = ls at hl ⊢
  have hl : lv_has ls 2 [(0, .ref h), (1, .int x)] := hl
  refine lv_aload_n hx hb dX6_fail_0 rfl (lv_at hl 0 rfl) ?_
  refine va_get (D := (dC, dI)) (ci := 6) (v := .int 0) (C := RX6) (T := TX6) (N := 6) hx hb hts i_X6_fail_X6 hown hK hP 0 rfl rfl 4 (by decide) (hts (.fieldLink RX6 30 "MillTalk$Tape" "fault" "I") (by decide +kernel)) (fun _ h9 => h9) rfl dX6_fail_1 ?_
  refine lv_if_ne (tgt := 20) hx hb dX6_fail_4 (by decide) (fun c_ => absurd (by decide) c_) (fun _ => ?_)
  refine lv_aload_n hx hb dX6_fail_7 rfl (lv_at hl 0 rfl) ?_
  refine lv_iload_n hx hb dX6_fail_8 rfl (lv_at hl 1 rfl) ?_
  refine va_put (D := (dC, dI)) (ci := 6) (v := .int x) (ty := .int) (C := RX6) (T := TX6) (N := 6) hx hb hts i_X6_fail_X6 tyX6 tyX6_ok nmX6 hown hK hP hD hS 0 rfl rfl 4 (by decide) (hts (.fieldLink RX6 30 "MillTalk$Tape" "fault" "I") (by decide +kernel)) (fun _ h9 => h9) rfl (by decide +kernel) rfl rfl (Nat.le_of_ble_eq_true rfl) dX6_fail_9 (fun H locs hP hD hS => ?_)
  have hP : va_P (dC, dI) vwCl [(h, .inr (6, [.ref bs, .int 0, .ref td, .int fp, .int x, .int k]))] H := hP
  have hD : va_D A [(h, .inr (6, [.ref bs, .int 0, .ref td, .int fp, .int x, .int k]))] := hD
  refine lv_aload_n hx hb dX6_fail_12 rfl (lv_at hl 0 rfl) ?_
  refine lv_aload_n hx hb dX6_fail_13 rfl (lv_at hl 0 rfl) ?_
  refine va_get (D := (dC, dI)) (ci := 6) (v := .int k) (C := RX6) (T := TX6) (N := 6) hx hb hts i_X6_fail_X6 hown hK hP 0 rfl rfl 5 (by decide) (hts (.fieldLink RX6 36 "MillTalk$Tape" "place" "I") (by decide +kernel)) (fun _ h9 => h9) rfl dX6_fail_14 ?_
  refine va_put (D := (dC, dI)) (ci := 6) (v := .int k) (ty := .int) (C := RX6) (T := TX6) (N := 6) hx hb hts i_X6_fail_X6 tyX6 tyX6_ok nmX6 hown hK hP hD hS 0 rfl rfl 3 (by decide) (hts (.fieldLink RX6 33 "MillTalk$Tape" "faultPlace" "I") (by decide +kernel)) (fun _ h9 => h9) rfl (by decide +kernel) rfl rfl (Nat.le_of_ble_eq_true rfl) dX6_fail_17 (fun H locs hP hD hS => ?_)
  have hP : va_P (dC, dI) vwCl [(h, .inr (6, [.ref bs, .int 0, .ref td, .int k, .int x, .int k]))] H := hP
  have hD : va_D A [(h, .inr (6, [.ref bs, .int 0, .ref td, .int k, .int x, .int k]))] := hD
  have hP9 := hP.sub (ws' := [(h, .inr (6, [.ref bs, .int 0, .ref td, .int k, .int x, .int k]))]) [0] rfl
  have hD9 := hD.sub (ws' := [(h, .inr (6, [.ref bs, .int 0, .ref td, .int k, .int x, .int k]))]) [0] (by decide) rfl
  exact W.vret hx hb hr (fun t ht hW => ⟨⟨(), rfl, trivial, ⟨by rw [ht]; exact hP9, hD9⟩⟩, hS.F ht⟩) hS.2.2 dX6_fail_20
set_option maxHeartbeats 4000000 in
set_option maxRecDepth 100000 in
theorem c_X6_readByte1 (l : Launch) (dC : Nat → ClassId) (dI : Nat → Nat → Nat) (cI cZ cL cJ : ClassId) (h : Nat) (bs : Nat) (td : Nat) (fp : Int32) (k : Int32) (x : Int32) (hw : ¬ (-1 : Int32) = x) : Met l yX6_readByte wsX6_readByte ({ frames := 1, cells := 0, slots := 0, locals := 21 }) (va_Pc [.ref h, .int x] (fun U => va_P (dC, dI) vwCl [(h, .inr (6, [.ref bs, .int 0, .ref td, .int fp, .int 1, .int k]))] U.heap ∧ va_K (dC, dI) vwCl [(cI, .int), (cZ, .boolean), (cL, .object RX3), (cJ, .array .int)] U)) (va_Sv (fun _ => True)) 0 0 (fun _ => False) := by
  refine Met.ofW (cc := cX6_readByte) (maxL := 2) (ret := none) (by decide) rfl ?_
  intro p e s m args below meth c s₁ B hml hv
  obtain ⟨rfl, hP, hK⟩ := hv
  have hx := B.exec
  have hb := B.bytes
  have hr := B.returns
  have hts := atoms_spec (ws := wsX6_readByte) B.pre
  have hown : s.vm.findClass RX6 = some m.cls := findClass_of_methodNamed B.named
  have hlocks := B.notSynchronized
  have hP : va_P (dC, dI) vwCl [(h, .inr (6, [.ref bs, .int 0, .ref td, .int fp, .int 1, .int k]))] s.heap := hP
  have hl := lv_entry ([.ref h, .int x]) (n := 2) (Nat.le_of_ble_eq_true rfl)
  rw [lg_entry_eq]
  generalize (lg_sl ([.ref h, .int x]) ++ List.replicate (2 - (lg_sl ([.ref h, .int x])).length) Slot.unset).toArray = ls at hl ⊢
  have hl : lv_has ls 2 [(0, .ref h), (1, .int x)] := hl
  refine lv_aload_n hx hb dX6_readByte_0 rfl (lv_at hl 0 rfl) ?_
  refine lv_aload_n hx hb dX6_readByte_1 rfl (lv_at hl 0 rfl) ?_
  refine va_get (D := (dC, dI)) (ci := 6) (v := .int k) (C := RX6) (T := TX6) (N := 6) hx hb hts i_X6_readByte_X6 hown hK hP 0 rfl rfl 5 (by decide) (hts (.fieldLink RX6 36 "MillTalk$Tape" "place" "I") (by decide +kernel)) (fun _ h9 => h9) rfl dX6_readByte_2 ?_
  have hPc_1 := hP.sub (ws' := [(h, .inr (6, [.ref bs, .int 0, .ref td, .int fp, .int 1, .int k]))]) [0] rfl
  refine vp_callSi (W.runV (As := [.int k]) (rest := []) ⟨hx, hb, hml, hown, hts⟩ (c_X6_byteAt l dC dI cI cZ cL cJ h bs td fp 1 k k ) (cwV 1 hts gX6_readByte_X6_byteAt rfl rfl rfl (by decide +kernel) ⟨Nat.le_of_ble_eq_true rfl, Nat.le_of_ble_eq_true rfl⟩) ⟨fun a U g mk q => by obtain ⟨q0, qP, qK⟩ := q; exact ⟨q0, qP, va_K.moved (u := U) (U := U.calling g mk a) (Vm.Alike.refl U.vm) qK⟩, va_recv hK hP (ci := 6) (q0 := 0) rfl rfl, fun U hU hW => ⟨rfl, by rw [hU]; exact hPc_1, va_K.moved hW.alike hK⟩⟩ rfl rfl hl.1 rfl (lv_room (Nat.le_of_ble_eq_true rfl)) dX6_readByte_5 ⟨Nat.le_of_ble_eq_true rfl, Nat.le_of_ble_eq_true rfl⟩) (fun r_1 h_1 => ?_)
  subst h_1
  refine lv_iload_n hx hb dX6_readByte_8 rfl (lv_at hl 1 rfl) ?_
  refine lv_icmp_ne (tgt := 25) hx hb dX6_readByte_9 (by decide) (fun _ => ?_) (fun c_ => absurd c_ hw)
  refine lv_aload_n hx hb dX6_readByte_25 rfl (lv_at hl 0 rfl) ?_
  refine lv_iconst (v := 1) hx hb dX6_readByte_26 (by decide) ?_
  have hPc_3 := hP.sub (ws' := [(h, .inr (6, [.ref bs, .int 0, .ref td, .int fp, .int 1, .int k]))]) [0] rfl
  refine va_csv (W.runV (As := [.int 1]) (rest := []) ⟨hx, hb, hml, hown, hts⟩ (c_X6_fail1 l dC dI cI cZ cL cJ h bs td fp k 1 ) (cwV 1 hts gX6_readByte_X6_fail rfl rfl rfl (by decide +kernel) ⟨Nat.le_of_ble_eq_true rfl, Nat.le_of_ble_eq_true rfl⟩) ⟨fun a U g mk q => by obtain ⟨q0, qP, qK⟩ := q; exact ⟨q0, qP, va_K.moved (u := U) (U := U.calling g mk a) (Vm.Alike.refl U.vm) qK⟩, va_recv hK hP (ci := 6) (q0 := 0) rfl rfl, fun U hU hW => ⟨rfl, by rw [hU]; exact hPc_3, va_K.moved hW.alike hK⟩⟩ rfl rfl hl.1 rfl (lv_room (Nat.le_of_ble_eq_true rfl)) dX6_readByte_27 ⟨Nat.le_of_ble_eq_true rfl, Nat.le_of_ble_eq_true rfl⟩) (fun _ => ?_)
  exact W.vret hx hb hr (fun t ht hW => ⟨rfl, trivial, ht⟩) (fun _ h => by cases h) dX6_readByte_30
set_option maxHeartbeats 4000000 in
set_option maxRecDepth 100000 in
theorem c_X6_readByte0 (l : Launch) (dC : Nat → ClassId) (dI : Nat → Nat → Nat) (cI cZ cL cJ : ClassId) (sz : Nat) (h : Nat) (bs : Nat) (td : Nat) (fp : Int32) (k : Int32) (x : Int32) (hw : ¬ (-1 : Int32) = x) : Met l yX6_readByte wsX6_readByte ({ frames := 1, cells := 0, slots := 0, locals := 21 }) (va_Pc [.ref h, .int x] (fun U => U.heap.size = sz ∧ va_P (dC, dI) vwCl [(h, .inr (6, [.ref bs, .int 0, .ref td, .int fp, .int 0, .int k]))] U.heap ∧ va_K (dC, dI) vwCl [(cI, .int), (cZ, .boolean), (cL, .object RX3), (cJ, .array .int)] U ∧ va_D (fun _ => True) [(h, .inr (6, [.ref bs, .int 0, .ref td, .int fp, .int 0, .int k]))])) (va_Qv (fun (_ : Unit) => True) (fun (_ : Unit) t => va_P (dC, dI) vwCl [(h, .inr (6, [.ref bs, .int 0, .ref td, .int k, .int 1, .int k]))] t.heap ∧ va_D (va_A [(h, .inr (6, [.ref bs, .int 0, .ref td, .int fp, .int 0, .int k]))] sz) [(h, .inr (6, [.ref bs, .int 0, .ref td, .int k, .int 1, .int k]))]) (va_A [(h, .inr (6, [.ref bs, .int 0, .ref td, .int fp, .int 0, .int k]))] sz)) 0 0 (va_A [(h, .inr (6, [.ref bs, .int 0, .ref td, .int fp, .int 0, .int k]))] sz) := by
  refine Met.ofW (cc := cX6_readByte) (maxL := 2) (ret := none) (by decide) rfl ?_
  intro p e s m args below meth c s₁ B hml hv
  obtain ⟨rfl, hsz, hP, hK, hD0⟩ := hv
  have hx := B.exec
  have hb := B.bytes
  have hr := B.returns
  have hts := atoms_spec (ws := wsX6_readByte) B.pre
  have hown : s.vm.findClass RX6 = some m.cls := findClass_of_methodNamed B.named
  have hlocks := B.notSynchronized
  subst hsz
  have hD := hD0.self (sz := s.heap.size)
  generalize hAe : va_A [(h, .inr (6, [.ref bs, .int 0, .ref td, .int fp, .int 0, .int k]))] s.heap.size = A at hD ⊢
  have hA : ∀ q : Nat, s.heap.size ≤ q → A q := fun q h => by rw [← hAe]; exact Or.inr h
  have hS : va_S A s.heap s.heap [] := va_S.rf
  have hP : va_P (dC, dI) vwCl [(h, .inr (6, [.ref bs, .int 0, .ref td, .int fp, .int 0, .int k]))] s.heap := hP
  have hl := lv_entry ([.ref h, .int x]) (n := 2) (Nat.le_of_ble_eq_true rfl)
  rw [lg_entry_eq]
  generalize (lg_sl ([.ref h, .int x]) ++ List.replicate (2 - (lg_sl ([.ref h, .int x])).length) Slot.unset).toArray = ls at hl ⊢
  have hl : lv_has ls 2 [(0, .ref h), (1, .int x)] := hl
  refine lv_aload_n hx hb dX6_readByte_0 rfl (lv_at hl 0 rfl) ?_
  refine lv_aload_n hx hb dX6_readByte_1 rfl (lv_at hl 0 rfl) ?_
  refine va_get (D := (dC, dI)) (ci := 6) (v := .int k) (C := RX6) (T := TX6) (N := 6) hx hb hts i_X6_readByte_X6 hown hK hP 0 rfl rfl 5 (by decide) (hts (.fieldLink RX6 36 "MillTalk$Tape" "place" "I") (by decide +kernel)) (fun _ h9 => h9) rfl dX6_readByte_2 ?_
  have hPc_1 := hP.sub (ws' := [(h, .inr (6, [.ref bs, .int 0, .ref td, .int fp, .int 0, .int k]))]) [0] rfl
  refine vp_callSi (W.runV (As := [.int k]) (rest := []) ⟨hx, hb, hml, hown, hts⟩ (c_X6_byteAt l dC dI cI cZ cL cJ h bs td fp 0 k k ) (cwV 1 hts gX6_readByte_X6_byteAt rfl rfl rfl (by decide +kernel) ⟨Nat.le_of_ble_eq_true rfl, Nat.le_of_ble_eq_true rfl⟩) ⟨fun a U g mk q => by obtain ⟨q0, qP, qK⟩ := q; exact ⟨q0, qP, va_K.moved (u := U) (U := U.calling g mk a) (Vm.Alike.refl U.vm) qK⟩, va_recv hK hP (ci := 6) (q0 := 0) rfl rfl, fun U hU hW => ⟨rfl, by rw [hU]; exact hPc_1, va_K.moved hW.alike hK⟩⟩ rfl rfl hl.1 rfl (lv_room (Nat.le_of_ble_eq_true rfl)) dX6_readByte_5 ⟨Nat.le_of_ble_eq_true rfl, Nat.le_of_ble_eq_true rfl⟩) (fun r_1 h_1 => ?_)
  subst h_1
  refine lv_iload_n hx hb dX6_readByte_8 rfl (lv_at hl 1 rfl) ?_
  refine lv_icmp_ne (tgt := 25) hx hb dX6_readByte_9 (by decide) (fun _ => ?_) (fun c_ => absurd c_ hw)
  refine lv_aload_n hx hb dX6_readByte_25 rfl (lv_at hl 0 rfl) ?_
  refine lv_iconst (v := 1) hx hb dX6_readByte_26 (by decide) ?_
  have hPc_3 := hP.sub (ws' := [(h, .inr (6, [.ref bs, .int 0, .ref td, .int fp, .int 0, .int k]))]) [0] rfl
  have hDc_3 := hD.sub (ws' := [(h, .inr (6, [.ref bs, .int 0, .ref td, .int fp, .int 0, .int k]))]) [0] (by decide) rfl
  have hFc_3 := va_free (wc := [(h, .inr (6, [.ref bs, .int 0, .ref td, .int fp, .int 0, .int k]))]) hD hS hA [0] rfl
  refine va_callv (va_runV (As := [.int 1]) (rest := []) ⟨hx, hb, hml, hown, hts⟩ (c_X6_fail0 l dC dI cI cZ cL cJ s.heap.size h bs td fp k 1 ) (cwV 1 hts gX6_readByte_X6_fail rfl rfl rfl (by decide +kernel) ⟨Nat.le_of_ble_eq_true rfl, Nat.le_of_ble_eq_true rfl⟩) ⟨fun a U g mk q => by obtain ⟨q0, q1, qP, qK, qD⟩ := q; exact ⟨q0, q1, qP, va_K.moved (u := U) (U := U.calling g mk a) (Vm.Alike.refl U.vm) qK, qD⟩, va_recv hK hP (ci := 6) (q0 := 0) rfl rfl, fun U hU hW => ⟨rfl, by rw [hU], by rw [hU]; exact hPc_3, va_K.moved hW.alike hK, hDc_3.weaken (fun _ _ _ _ => trivial)⟩⟩ rfl rfl hl.1 rfl (lv_room (Nat.le_of_ble_eq_true rfl)) dX6_readByte_27 ⟨Nat.le_of_ble_eq_true rfl, Nat.le_of_ble_eq_true rfl⟩) hS (fun q _ h => hFc_3 q h) hFc_3 (fun u_3 t_3 H1 locs ht hvm h_3 hB hz1 hk1 hS => ?_)
  obtain ⟨hP1, hD1⟩ := hB
  rw [ht] at hP1
  obtain ⟨hP, hD⟩ := va_join (wr := []) (w1 := [(h, .inr (6, [.ref bs, .int 0, .ref td, .int k, .int 1, .int k]))]) hP hD [0] [] rfl rfl (by decide) (by decide) hk1 hFc_3 hP1 hD1
  generalize H1 = H at hP hS ⊢
  have hP : va_P (dC, dI) vwCl [(h, .inr (6, [.ref bs, .int 0, .ref td, .int k, .int 1, .int k]))] H := hP
  have hD : va_D A [(h, .inr (6, [.ref bs, .int 0, .ref td, .int k, .int 1, .int k]))] := hD
  have hP9 := hP.sub (ws' := [(h, .inr (6, [.ref bs, .int 0, .ref td, .int k, .int 1, .int k]))]) [0] rfl
  have hD9 := hD.sub (ws' := [(h, .inr (6, [.ref bs, .int 0, .ref td, .int k, .int 1, .int k]))]) [0] (by decide) rfl
  exact W.vret hx hb hr (fun t ht hW => ⟨⟨(), rfl, trivial, ⟨by rw [ht]; exact hP9, hD9⟩⟩, hS.F ht⟩) hS.2.2 dX6_readByte_30
set_option maxHeartbeats 4000000 in
set_option maxRecDepth 100000 in
theorem c_X6_readNumber1 (l : Launch) (dC : Nat → ClassId) (dI : Nat → Nat → Nat) (cI cZ cL cJ : ClassId) (h : Nat) (bs : Nat) (td : Nat) (fp : Int32) (k : Int32) (x : Int32) (y : Int32)  : Met l yX6_readNumber wsX6_readNumber ({ frames := 2, cells := 0, slots := 0, locals := 42 }) (va_Pc [.ref h, .int x, .int y] (fun U => va_P (dC, dI) vwCl [(h, .inr (6, [.ref bs, .int 0, .ref td, .int fp, .int 1, .int k]))] U.heap ∧ va_K (dC, dI) vwCl [(cI, .int), (cZ, .boolean), (cL, .object RX3), (cJ, .array .int)] U)) (vp_Si (fun r => r = 0)) 0 0 (fun _ => False) := by
  refine Met.ofW (cc := cX6_readNumber) (maxL := 6) (ret := (some .int)) (by decide) rfl ?_
  intro p e s m args below meth c s₁ B hml hv
  obtain ⟨rfl, hP, hK⟩ := hv
  have hx := B.exec
  have hb := B.bytes
  have hr := B.returns
  have hts := atoms_spec (ws := wsX6_readNumber) B.pre
  have hown : s.vm.findClass RX6 = some m.cls := findClass_of_methodNamed B.named
  have hlocks := B.notSynchronized
  have hP : va_P (dC, dI) vwCl [(h, .inr (6, [.ref bs, .int 0, .ref td, .int fp, .int 1, .int k]))] s.heap := hP
  have hl := lv_entry ([.ref h, .int x, .int y]) (n := 6) (Nat.le_of_ble_eq_true rfl)
  rw [lg_entry_eq]
  generalize (lg_sl ([.ref h, .int x, .int y]) ++ List.replicate (6 - (lg_sl ([.ref h, .int x, .int y])).length) Slot.unset).toArray = ls at hl ⊢
  have hl : lv_has ls 6 [(0, .ref h), (1, .int x), (2, .int y)] := hl
  refine lv_aload_n hx hb dX6_readNumber_0 rfl (lv_at hl 0 rfl) ?_
  have hPc_1 := hP.sub (ws' := [(h, .inr (6, [.ref bs, .int 0, .ref td, .int fp, .int 1, .int k]))]) [0] rfl
  refine vp_callSi (W.runV (As := []) (rest := []) ⟨hx, hb, hml, hown, hts⟩ (c_X6_figuresHere l dC dI cI cZ cL cJ h bs td fp 1 k ) (cwV 0 hts gX6_readNumber_X6_figuresHere rfl rfl rfl (by decide +kernel) ⟨Nat.le_of_ble_eq_true rfl, Nat.le_of_ble_eq_true rfl⟩) ⟨fun a U g mk q => by obtain ⟨q0, qP, qK⟩ := q; exact ⟨q0, qP, va_K.moved (u := U) (U := U.calling g mk a) (Vm.Alike.refl U.vm) qK⟩, va_recv hK hP (ci := 6) (q0 := 0) rfl rfl, fun U hU hW => ⟨rfl, by rw [hU]; exact hPc_1, va_K.moved hW.alike hK⟩⟩ rfl rfl hl.1 rfl (lv_room (Nat.le_of_ble_eq_true rfl)) dX6_readNumber_1 ⟨Nat.le_of_ble_eq_true rfl, Nat.le_of_ble_eq_true rfl⟩) (fun r_1 h_1 => ?_)
  subst h_1
  refine lv_istore_n (lv' := [(3, .int 0), (0, .ref h), (1, .int x), (2, .int y)]) hx hb dX6_readNumber_4 rfl hl (by decide) rfl (fun ls hl => ?_)
  refine lv_iload_n hx hb dX6_readNumber_5 rfl (lv_at hl 0 rfl) ?_
  refine lv_iconst (v := 1) hx hb dX6_readNumber_6 (by decide) ?_
  refine lv_icmp_lt (tgt := 15) hx hb dX6_readNumber_7 (by decide) (fun _ => ?_) (fun c_ => absurd (by decide) c_)
  refine lv_aload_n hx hb dX6_readNumber_15 rfl (lv_at hl 1 rfl) ?_
  refine lv_iconst (v := 1) hx hb dX6_readNumber_16 (by decide) ?_
  have hPc_3 := hP.sub (ws' := [(h, .inr (6, [.ref bs, .int 0, .ref td, .int fp, .int 1, .int k]))]) [0] rfl
  refine va_csv (W.runV (As := [.int 1]) (rest := []) ⟨hx, hb, hml, hown, hts⟩ (c_X6_fail1 l dC dI cI cZ cL cJ h bs td fp k 1 ) (cwV 1 hts gX6_readNumber_X6_fail rfl rfl rfl (by decide +kernel) ⟨Nat.le_of_ble_eq_true rfl, Nat.le_of_ble_eq_true rfl⟩) ⟨fun a U g mk q => by obtain ⟨q0, qP, qK⟩ := q; exact ⟨q0, qP, va_K.moved (u := U) (U := U.calling g mk a) (Vm.Alike.refl U.vm) qK⟩, va_recv hK hP (ci := 6) (q0 := 0) rfl rfl, fun U hU hW => ⟨rfl, by rw [hU]; exact hPc_3, va_K.moved hW.alike hK⟩⟩ rfl rfl hl.1 rfl (lv_room (Nat.le_of_ble_eq_true rfl)) dX6_readNumber_17 ⟨Nat.le_of_ble_eq_true rfl, Nat.le_of_ble_eq_true rfl⟩) (fun _ => ?_)
  refine lv_iconst (v := 0) hx hb dX6_readNumber_20 (by decide) ?_
  exact W.iret (v := 0) hx hb hr (fun t ht hW => ⟨0, rfl, rfl, ht⟩) (fun _ h => by cases h) dX6_readNumber_21
set_option maxHeartbeats 4000000 in
set_option maxRecDepth 100000 in
theorem c_X6_readLaw (l : Launch) (dC : Nat → ClassId) (dI : Nat → Nat → Nat) (cI cZ cL cJ : ClassId) (sz : Nat) (h : Nat) (bs : Nat) (td : Nat) (fp : Int32) (k : Int32) (a0 : Int32) (a1 : Int32) (a2 : Int32) (a3 : Int32) (a4 : Int32) (a5 : Int32) (a6 : Int32) (a7 : Int32) (t1 : Nat) (t2 : Nat) (t3 : Nat) (t4 : Nat) (t5 : Nat)  : Met l yX6_readLaw wsX6_readLaw ({ frames := 3, cells := 0, slots := 0, locals := 67 }) (va_Pc [.ref h] (fun U => U.heap.size = sz ∧ va_P (dC, dI) vwCl [(h, .inr (6, [.ref bs, .int 0, .ref td, .int fp, .int 0, .int k])), (td, .inr (3, [.int a0, .int a1, .int a2, .int a3, .int a4, .int a5, .int a6, .int a7, .ref t1, .ref t2, .ref t3, .ref t4, .ref t5]))] U.heap ∧ va_K (dC, dI) vwCl [(cI, .int), (cZ, .boolean), (cL, .object RX3), (cJ, .array .int)] U ∧ va_D (fun _ => True) [(h, .inr (6, [.ref bs, .int 0, .ref td, .int fp, .int 0, .int k])), (td, .inr (3, [.int a0, .int a1, .int a2, .int a3, .int a4, .int a5, .int a6, .int a7, .ref t1, .ref t2, .ref t3, .ref t4, .ref t5]))])) (va_Qv (fun (_ : Unit) => True) (fun (_ : Unit) t => va_P (dC, dI) vwCl [(h, .inr (6, [.ref bs, .int 0, .ref td, .int k, .int 1, .int k])), (td, .inr (3, [.int 0, .int 0, .int 0, .int a3, .int a4, .int a5, .int a6, .int a7, .ref t1, .ref t2, .ref t3, .ref t4, .ref t5]))] t.heap ∧ va_D (va_A [(h, .inr (6, [.ref bs, .int 0, .ref td, .int fp, .int 0, .int k])), (td, .inr (3, [.int a0, .int a1, .int a2, .int a3, .int a4, .int a5, .int a6, .int a7, .ref t1, .ref t2, .ref t3, .ref t4, .ref t5]))] sz) [(h, .inr (6, [.ref bs, .int 0, .ref td, .int k, .int 1, .int k])), (td, .inr (3, [.int 0, .int 0, .int 0, .int a3, .int a4, .int a5, .int a6, .int a7, .ref t1, .ref t2, .ref t3, .ref t4, .ref t5]))]) (va_A [(h, .inr (6, [.ref bs, .int 0, .ref td, .int fp, .int 0, .int k])), (td, .inr (3, [.int a0, .int a1, .int a2, .int a3, .int a4, .int a5, .int a6, .int a7, .ref t1, .ref t2, .ref t3, .ref t4, .ref t5]))] sz)) 0 0 (va_A [(h, .inr (6, [.ref bs, .int 0, .ref td, .int fp, .int 0, .int k])), (td, .inr (3, [.int a0, .int a1, .int a2, .int a3, .int a4, .int a5, .int a6, .int a7, .ref t1, .ref t2, .ref t3, .ref t4, .ref t5]))] sz) := by
  refine Met.ofW (cc := cX6_readLaw) (maxL := 1) (ret := none) (by decide) rfl ?_
  intro p e s m args below meth c s₁ B hml hv
  obtain ⟨rfl, hsz, hP, hK, hD0⟩ := hv
  have hx := B.exec
  have hb := B.bytes
  have hr := B.returns
  have hts := atoms_spec (ws := wsX6_readLaw) B.pre
  have hown : s.vm.findClass RX6 = some m.cls := findClass_of_methodNamed B.named
  have hlocks := B.notSynchronized
  subst hsz
  have hD := hD0.self (sz := s.heap.size)
  generalize hAe : va_A [(h, .inr (6, [.ref bs, .int 0, .ref td, .int fp, .int 0, .int k])), (td, .inr (3, [.int a0, .int a1, .int a2, .int a3, .int a4, .int a5, .int a6, .int a7, .ref t1, .ref t2, .ref t3, .ref t4, .ref t5]))] s.heap.size = A at hD ⊢
  have hA : ∀ q : Nat, s.heap.size ≤ q → A q := fun q h => by rw [← hAe]; exact Or.inr h
  have hS : va_S A s.heap s.heap [] := va_S.rf
  have hP : va_P (dC, dI) vwCl [(h, .inr (6, [.ref bs, .int 0, .ref td, .int fp, .int 0, .int k])), (td, .inr (3, [.int a0, .int a1, .int a2, .int a3, .int a4, .int a5, .int a6, .int a7, .ref t1, .ref t2, .ref t3, .ref t4, .ref t5]))] s.heap := hP
  have hl := lv_entry ([.ref h]) (n := 1) (Nat.le_of_ble_eq_true rfl)
  rw [lg_entry_eq]
  generalize (lg_sl ([.ref h]) ++ List.replicate (1 - (lg_sl ([.ref h])).length) Slot.unset).toArray = ls at hl ⊢
  have hl : lv_has ls 1 [(0, .ref h)] := hl
  refine lv_aload_n hx hb dX6_readLaw_0 rfl (lv_at hl 0 rfl) ?_
  refine lv_bipush (v := 109) hx hb dX6_readLaw_1 (by decide) ?_
  have hPc_1 := hP.sub (ws' := [(h, .inr (6, [.ref bs, .int 0, .ref td, .int fp, .int 0, .int k]))]) [0] rfl
  have hDc_1 := hD.sub (ws' := [(h, .inr (6, [.ref bs, .int 0, .ref td, .int fp, .int 0, .int k]))]) [0] (by decide) rfl
  have hFc_1 := va_free (wc := [(h, .inr (6, [.ref bs, .int 0, .ref td, .int fp, .int 0, .int k]))]) hD hS hA [0] rfl
  refine va_callv (va_runV (As := [.int 109]) (rest := []) ⟨hx, hb, hml, hown, hts⟩ (c_X6_readByte0 l dC dI cI cZ cL cJ s.heap.size h bs td fp k 109 (by decide)) (cwV 1 hts gX6_readLaw_X6_readByte rfl rfl rfl (by decide +kernel) ⟨Nat.le_of_ble_eq_true rfl, Nat.le_of_ble_eq_true rfl⟩) ⟨fun a U g mk q => by obtain ⟨q0, q1, qP, qK, qD⟩ := q; exact ⟨q0, q1, qP, va_K.moved (u := U) (U := U.calling g mk a) (Vm.Alike.refl U.vm) qK, qD⟩, va_recv hK hP (ci := 6) (q0 := 0) rfl rfl, fun U hU hW => ⟨rfl, by rw [hU], by rw [hU]; exact hPc_1, va_K.moved hW.alike hK, hDc_1.weaken (fun _ _ _ _ => trivial)⟩⟩ rfl rfl hl.1 rfl (lv_room (Nat.le_of_ble_eq_true rfl)) dX6_readLaw_3 ⟨Nat.le_of_ble_eq_true rfl, Nat.le_of_ble_eq_true rfl⟩) hS (fun q _ h => hFc_1 q h) hFc_1 (fun u_1 t_1 H1 locs ht hvm h_1 hB hz1 hk1 hS => ?_)
  obtain ⟨hP1, hD1⟩ := hB
  rw [ht] at hP1
  obtain ⟨hP, hD⟩ := va_join (wr := [(td, .inr (3, [.int a0, .int a1, .int a2, .int a3, .int a4, .int a5, .int a6, .int a7, .ref t1, .ref t2, .ref t3, .ref t4, .ref t5]))]) (w1 := [(h, .inr (6, [.ref bs, .int 0, .ref td, .int k, .int 1, .int k]))]) hP hD [0] [1] rfl rfl (by decide) (by decide) hk1 hFc_1 hP1 hD1
  generalize H1 = H at hP hS ⊢
  have hP : va_P (dC, dI) vwCl [(td, .inr (3, [.int a0, .int a1, .int a2, .int a3, .int a4, .int a5, .int a6, .int a7, .ref t1, .ref t2, .ref t3, .ref t4, .ref t5])), (h, .inr (6, [.ref bs, .int 0, .ref td, .int k, .int 1, .int k]))] H := hP
  have hD : va_D A [(td, .inr (3, [.int a0, .int a1, .int a2, .int a3, .int a4, .int a5, .int a6, .int a7, .ref t1, .ref t2, .ref t3, .ref t4, .ref t5])), (h, .inr (6, [.ref bs, .int 0, .ref td, .int k, .int 1, .int k]))] := hD
  refine lv_aload_n hx hb dX6_readLaw_6 rfl (lv_at hl 0 rfl) ?_
  refine va_get (D := (dC, dI)) (ci := 6) (v := .ref td) (C := RX6) (T := TX6) (N := 6) hx hb hts i_X6_readLaw_X6 hown hK hP 1 rfl rfl 2 (by decide) (hts (.fieldLink RX6 18 "MillTalk$Tape" "told" "LMillTalk$Level;") (by decide +kernel)) (fun _ h9 => h9) rfl dX6_readLaw_7 ?_
  refine lv_aload_n hx hb dX6_readLaw_10 rfl (lv_at hl 0 rfl) ?_
  refine lv_iconst (v := 5) hx hb dX6_readLaw_11 (by decide) ?_
  refine lv_bipush (v := 15) hx hb dX6_readLaw_12 (by decide) ?_
  have hPc_2 := hP.sub (ws' := [(h, .inr (6, [.ref bs, .int 0, .ref td, .int k, .int 1, .int k]))]) [1] rfl
  refine vp_callSi (W.runV (As := [.int 5, .int 15]) (rest := [.ref td]) ⟨hx, hb, hml, hown, hts⟩ (c_X6_readNumber1 l dC dI cI cZ cL cJ h bs td k k 5 15 ) (cwV 2 hts gX6_readLaw_X6_readNumber rfl rfl rfl (by decide +kernel) ⟨Nat.le_of_ble_eq_true rfl, Nat.le_of_ble_eq_true rfl⟩) ⟨fun a U g mk q => by obtain ⟨q0, qP, qK⟩ := q; exact ⟨q0, qP, va_K.moved (u := U) (U := U.calling g mk a) (Vm.Alike.refl U.vm) qK⟩, va_recv hK hP (ci := 6) (q0 := 1) rfl rfl, fun U hU hW => ⟨rfl, by rw [hU]; exact hPc_2, va_K.moved hW.alike hK⟩⟩ rfl rfl hl.1 rfl (lv_room (Nat.le_of_ble_eq_true rfl)) dX6_readLaw_14 ⟨Nat.le_of_ble_eq_true rfl, Nat.le_of_ble_eq_true rfl⟩) (fun r_2 h_2 => ?_)
  subst h_2
  refine va_put (D := (dC, dI)) (ci := 3) (v := .int 0) (ty := .int) (C := RX3) (T := TX3) (N := 13) hx hb hts i_X6_readLaw_X3 tyX3 tyX3_ok nmX3 hown hK hP hD hS 0 rfl rfl 0 (by decide) (hts (.fieldLink RX6 59 "MillTalk$Level" "cells" "I") (by decide +kernel)) (fun _ h9 => h9) rfl (by decide +kernel) rfl rfl (Nat.le_of_ble_eq_true rfl) dX6_readLaw_17 (fun H locs hP hD hS => ?_)
  have hP : va_P (dC, dI) vwCl [(td, .inr (3, [.int 0, .int a1, .int a2, .int a3, .int a4, .int a5, .int a6, .int a7, .ref t1, .ref t2, .ref t3, .ref t4, .ref t5])), (h, .inr (6, [.ref bs, .int 0, .ref td, .int k, .int 1, .int k]))] H := hP
  have hD : va_D A [(td, .inr (3, [.int 0, .int a1, .int a2, .int a3, .int a4, .int a5, .int a6, .int a7, .ref t1, .ref t2, .ref t3, .ref t4, .ref t5])), (h, .inr (6, [.ref bs, .int 0, .ref td, .int k, .int 1, .int k]))] := hD
  refine lv_aload_n hx hb dX6_readLaw_20 rfl (lv_at hl 0 rfl) ?_
  refine lv_bipush (v := 44) hx hb dX6_readLaw_21 (by decide) ?_
  have hPc_3 := hP.sub (ws' := [(h, .inr (6, [.ref bs, .int 0, .ref td, .int k, .int 1, .int k]))]) [1] rfl
  refine va_csv (W.runV (As := [.int 44]) (rest := []) ⟨hx, hb, hml, hown, hts⟩ (c_X6_readByte1 l dC dI cI cZ cL cJ h bs td k k 44 (by decide)) (cwV 1 hts gX6_readLaw_X6_readByte rfl rfl rfl (by decide +kernel) ⟨Nat.le_of_ble_eq_true rfl, Nat.le_of_ble_eq_true rfl⟩) ⟨fun a U g mk q => by obtain ⟨q0, qP, qK⟩ := q; exact ⟨q0, qP, va_K.moved (u := U) (U := U.calling g mk a) (Vm.Alike.refl U.vm) qK⟩, va_recv hK hP (ci := 6) (q0 := 1) rfl rfl, fun U hU hW => ⟨rfl, by rw [hU]; exact hPc_3, va_K.moved hW.alike hK⟩⟩ rfl rfl hl.1 rfl (lv_room (Nat.le_of_ble_eq_true rfl)) dX6_readLaw_23 ⟨Nat.le_of_ble_eq_true rfl, Nat.le_of_ble_eq_true rfl⟩) (fun _ => ?_)
  refine lv_aload_n hx hb dX6_readLaw_26 rfl (lv_at hl 0 rfl) ?_
  refine va_get (D := (dC, dI)) (ci := 6) (v := .ref td) (C := RX6) (T := TX6) (N := 6) hx hb hts i_X6_readLaw_X6 hown hK hP 1 rfl rfl 2 (by decide) (hts (.fieldLink RX6 18 "MillTalk$Tape" "told" "LMillTalk$Level;") (by decide +kernel)) (fun _ h9 => h9) rfl dX6_readLaw_27 ?_
  refine lv_aload_n hx hb dX6_readLaw_30 rfl (lv_at hl 0 rfl) ?_
  refine lv_iconst (v := 0) hx hb dX6_readLaw_31 (by decide) ?_
  refine lv_aload_n hx hb dX6_readLaw_32 rfl (lv_at hl 0 rfl) ?_
  refine va_get (D := (dC, dI)) (ci := 6) (v := .ref td) (C := RX6) (T := TX6) (N := 6) hx hb hts i_X6_readLaw_X6 hown hK hP 1 rfl rfl 2 (by decide) (hts (.fieldLink RX6 18 "MillTalk$Tape" "told" "LMillTalk$Level;") (by decide +kernel)) (fun _ h9 => h9) rfl dX6_readLaw_33 ?_
  refine va_get (D := (dC, dI)) (ci := 3) (v := .int 0) (C := RX3) (T := TX3) (N := 13) hx hb hts i_X6_readLaw_X3 hown hK hP 0 rfl rfl 0 (by decide) (hts (.fieldLink RX6 59 "MillTalk$Level" "cells" "I") (by decide +kernel)) (fun _ h9 => h9) rfl dX6_readLaw_36 ?_
  refine lv_iconst (v := 1) hx hb dX6_readLaw_39 (by decide) ?_
  refine lv_isub hx hb dX6_readLaw_40 ?_
  refine lv_topi (fun v_4 e_4 => ?_)
  obtain rfl : v_4 = (-1) := (e_4).trans (by decide)
  have hPc_5 := hP.sub (ws' := [(h, .inr (6, [.ref bs, .int 0, .ref td, .int k, .int 1, .int k]))]) [1] rfl
  refine vp_callSi (W.runV (As := [.int 0, .int (-1)]) (rest := [.ref td]) ⟨hx, hb, hml, hown, hts⟩ (c_X6_readNumber1 l dC dI cI cZ cL cJ h bs td k k 0 (-1) ) (cwV 2 hts gX6_readLaw_X6_readNumber rfl rfl rfl (by decide +kernel) ⟨Nat.le_of_ble_eq_true rfl, Nat.le_of_ble_eq_true rfl⟩) ⟨fun a U g mk q => by obtain ⟨q0, qP, qK⟩ := q; exact ⟨q0, qP, va_K.moved (u := U) (U := U.calling g mk a) (Vm.Alike.refl U.vm) qK⟩, va_recv hK hP (ci := 6) (q0 := 1) rfl rfl, fun U hU hW => ⟨rfl, by rw [hU]; exact hPc_5, va_K.moved hW.alike hK⟩⟩ rfl rfl hl.1 rfl (lv_room (Nat.le_of_ble_eq_true rfl)) dX6_readLaw_41 ⟨Nat.le_of_ble_eq_true rfl, Nat.le_of_ble_eq_true rfl⟩) (fun r_5 h_5 => ?_)
  subst h_5
  refine va_put (D := (dC, dI)) (ci := 3) (v := .int 0) (ty := .int) (C := RX3) (T := TX3) (N := 13) hx hb hts i_X6_readLaw_X3 tyX3 tyX3_ok nmX3 hown hK hP hD hS 0 rfl rfl 1 (by decide) (hts (.fieldLink RX6 62 "MillTalk$Level" "mill" "I") (by decide +kernel)) (fun _ h9 => h9) rfl (by decide +kernel) rfl rfl (Nat.le_of_ble_eq_true rfl) dX6_readLaw_44 (fun H locs hP hD hS => ?_)
  have hP : va_P (dC, dI) vwCl [(td, .inr (3, [.int 0, .int 0, .int a2, .int a3, .int a4, .int a5, .int a6, .int a7, .ref t1, .ref t2, .ref t3, .ref t4, .ref t5])), (h, .inr (6, [.ref bs, .int 0, .ref td, .int k, .int 1, .int k]))] H := hP
  have hD : va_D A [(td, .inr (3, [.int 0, .int 0, .int a2, .int a3, .int a4, .int a5, .int a6, .int a7, .ref t1, .ref t2, .ref t3, .ref t4, .ref t5])), (h, .inr (6, [.ref bs, .int 0, .ref td, .int k, .int 1, .int k]))] := hD
  refine lv_aload_n hx hb dX6_readLaw_47 rfl (lv_at hl 0 rfl) ?_
  refine lv_bipush (v := 44) hx hb dX6_readLaw_48 (by decide) ?_
  have hPc_6 := hP.sub (ws' := [(h, .inr (6, [.ref bs, .int 0, .ref td, .int k, .int 1, .int k]))]) [1] rfl
  refine va_csv (W.runV (As := [.int 44]) (rest := []) ⟨hx, hb, hml, hown, hts⟩ (c_X6_readByte1 l dC dI cI cZ cL cJ h bs td k k 44 (by decide)) (cwV 1 hts gX6_readLaw_X6_readByte rfl rfl rfl (by decide +kernel) ⟨Nat.le_of_ble_eq_true rfl, Nat.le_of_ble_eq_true rfl⟩) ⟨fun a U g mk q => by obtain ⟨q0, qP, qK⟩ := q; exact ⟨q0, qP, va_K.moved (u := U) (U := U.calling g mk a) (Vm.Alike.refl U.vm) qK⟩, va_recv hK hP (ci := 6) (q0 := 1) rfl rfl, fun U hU hW => ⟨rfl, by rw [hU]; exact hPc_6, va_K.moved hW.alike hK⟩⟩ rfl rfl hl.1 rfl (lv_room (Nat.le_of_ble_eq_true rfl)) dX6_readLaw_50 ⟨Nat.le_of_ble_eq_true rfl, Nat.le_of_ble_eq_true rfl⟩) (fun _ => ?_)
  refine lv_aload_n hx hb dX6_readLaw_53 rfl (lv_at hl 0 rfl) ?_
  refine va_get (D := (dC, dI)) (ci := 6) (v := .ref td) (C := RX6) (T := TX6) (N := 6) hx hb hts i_X6_readLaw_X6 hown hK hP 1 rfl rfl 2 (by decide) (hts (.fieldLink RX6 18 "MillTalk$Tape" "told" "LMillTalk$Level;") (by decide +kernel)) (fun _ h9 => h9) rfl dX6_readLaw_54 ?_
  refine lv_aload_n hx hb dX6_readLaw_57 rfl (lv_at hl 0 rfl) ?_
  refine lv_iconst (v := 0) hx hb dX6_readLaw_58 (by decide) ?_
  refine lv_iconst (v := 4) hx hb dX6_readLaw_59 (by decide) ?_
  have hPc_7 := hP.sub (ws' := [(h, .inr (6, [.ref bs, .int 0, .ref td, .int k, .int 1, .int k]))]) [1] rfl
  refine vp_callSi (W.runV (As := [.int 0, .int 4]) (rest := [.ref td]) ⟨hx, hb, hml, hown, hts⟩ (c_X6_readNumber1 l dC dI cI cZ cL cJ h bs td k k 0 4 ) (cwV 2 hts gX6_readLaw_X6_readNumber rfl rfl rfl (by decide +kernel) ⟨Nat.le_of_ble_eq_true rfl, Nat.le_of_ble_eq_true rfl⟩) ⟨fun a U g mk q => by obtain ⟨q0, qP, qK⟩ := q; exact ⟨q0, qP, va_K.moved (u := U) (U := U.calling g mk a) (Vm.Alike.refl U.vm) qK⟩, va_recv hK hP (ci := 6) (q0 := 1) rfl rfl, fun U hU hW => ⟨rfl, by rw [hU]; exact hPc_7, va_K.moved hW.alike hK⟩⟩ rfl rfl hl.1 rfl (lv_room (Nat.le_of_ble_eq_true rfl)) dX6_readLaw_60 ⟨Nat.le_of_ble_eq_true rfl, Nat.le_of_ble_eq_true rfl⟩) (fun r_7 h_7 => ?_)
  subst h_7
  refine va_put (D := (dC, dI)) (ci := 3) (v := .int 0) (ty := .int) (C := RX3) (T := TX3) (N := 13) hx hb hts i_X6_readLaw_X3 tyX3 tyX3_ok nmX3 hown hK hP hD hS 0 rfl rfl 2 (by decide) (hts (.fieldLink RX6 65 "MillTalk$Level" "reach" "I") (by decide +kernel)) (fun _ h9 => h9) rfl (by decide +kernel) rfl rfl (Nat.le_of_ble_eq_true rfl) dX6_readLaw_63 (fun H locs hP hD hS => ?_)
  have hP : va_P (dC, dI) vwCl [(td, .inr (3, [.int 0, .int 0, .int 0, .int a3, .int a4, .int a5, .int a6, .int a7, .ref t1, .ref t2, .ref t3, .ref t4, .ref t5])), (h, .inr (6, [.ref bs, .int 0, .ref td, .int k, .int 1, .int k]))] H := hP
  have hD : va_D A [(td, .inr (3, [.int 0, .int 0, .int 0, .int a3, .int a4, .int a5, .int a6, .int a7, .ref t1, .ref t2, .ref t3, .ref t4, .ref t5])), (h, .inr (6, [.ref bs, .int 0, .ref td, .int k, .int 1, .int k]))] := hD
  refine lv_aload_n hx hb dX6_readLaw_66 rfl (lv_at hl 0 rfl) ?_
  refine lv_bipush (v := 59) hx hb dX6_readLaw_67 (by decide) ?_
  have hPc_8 := hP.sub (ws' := [(h, .inr (6, [.ref bs, .int 0, .ref td, .int k, .int 1, .int k]))]) [1] rfl
  refine va_csv (W.runV (As := [.int 59]) (rest := []) ⟨hx, hb, hml, hown, hts⟩ (c_X6_readByte1 l dC dI cI cZ cL cJ h bs td k k 59 (by decide)) (cwV 1 hts gX6_readLaw_X6_readByte rfl rfl rfl (by decide +kernel) ⟨Nat.le_of_ble_eq_true rfl, Nat.le_of_ble_eq_true rfl⟩) ⟨fun a U g mk q => by obtain ⟨q0, qP, qK⟩ := q; exact ⟨q0, qP, va_K.moved (u := U) (U := U.calling g mk a) (Vm.Alike.refl U.vm) qK⟩, va_recv hK hP (ci := 6) (q0 := 1) rfl rfl, fun U hU hW => ⟨rfl, by rw [hU]; exact hPc_8, va_K.moved hW.alike hK⟩⟩ rfl rfl hl.1 rfl (lv_room (Nat.le_of_ble_eq_true rfl)) dX6_readLaw_69 ⟨Nat.le_of_ble_eq_true rfl, Nat.le_of_ble_eq_true rfl⟩) (fun _ => ?_)
  have hP9 := hP.sub (ws' := [(h, .inr (6, [.ref bs, .int 0, .ref td, .int k, .int 1, .int k])), (td, .inr (3, [.int 0, .int 0, .int 0, .int a3, .int a4, .int a5, .int a6, .int a7, .ref t1, .ref t2, .ref t3, .ref t4, .ref t5]))]) [1, 0] rfl
  have hD9 := hD.sub (ws' := [(h, .inr (6, [.ref bs, .int 0, .ref td, .int k, .int 1, .int k])), (td, .inr (3, [.int 0, .int 0, .int 0, .int a3, .int a4, .int a5, .int a6, .int a7, .ref t1, .ref t2, .ref t3, .ref t4, .ref t5]))]) [1, 0] (by decide) rfl
  exact W.vret hx hb hr (fun t ht hW => ⟨⟨(), rfl, trivial, ⟨by rw [ht]; exact hP9, hD9⟩⟩, hS.F ht⟩) hS.2.2 dX6_readLaw_72
set_option maxHeartbeats 4000000 in
set_option maxRecDepth 100000 in
theorem c_X6_readWind1 (l : Launch) (dC : Nat → ClassId) (dI : Nat → Nat → Nat) (cI cZ cL cJ : ClassId) (h : Nat) (bs : Nat) (td : Nat) (fp : Int32) (k : Int32)  : Met l yX6_readWind wsX6_readWind ({ frames := 3, cells := 0, slots := 0, locals := 67 }) (va_Pc [.ref h] (fun U => va_P (dC, dI) vwCl [(h, .inr (6, [.ref bs, .int 0, .ref td, .int fp, .int 1, .int k]))] U.heap ∧ va_K (dC, dI) vwCl [(cI, .int), (cZ, .boolean), (cL, .object RX3), (cJ, .array .int)] U)) (va_Sv (fun _ => True)) 0 0 (fun _ => False) := by
  refine Met.ofW (cc := cX6_readWind) (maxL := 2) (ret := none) (by decide) rfl ?_
  intro p e s m args below meth c s₁ B hml hv
  obtain ⟨rfl, hP, hK⟩ := hv
  have hx := B.exec
  have hb := B.bytes
  have hr := B.returns
  have hts := atoms_spec (ws := wsX6_readWind) B.pre
  have hown : s.vm.findClass RX6 = some m.cls := findClass_of_methodNamed B.named
  have hlocks := B.notSynchronized
  have hP : va_P (dC, dI) vwCl [(h, .inr (6, [.ref bs, .int 0, .ref td, .int fp, .int 1, .int k]))] s.heap := hP
  have hl := lv_entry ([.ref h]) (n := 2) (Nat.le_of_ble_eq_true rfl)
  rw [lg_entry_eq]
  generalize (lg_sl ([.ref h]) ++ List.replicate (2 - (lg_sl ([.ref h])).length) Slot.unset).toArray = ls at hl ⊢
  have hl : lv_has ls 2 [(0, .ref h)] := hl
  refine lv_aload_n hx hb dX6_readWind_0 rfl (lv_at hl 0 rfl) ?_
  refine va_get (D := (dC, dI)) (ci := 6) (v := .int 1) (C := RX6) (T := TX6) (N := 6) hx hb hts i_X6_readWind_X6 hown hK hP 0 rfl rfl 4 (by decide) (hts (.fieldLink RX6 30 "MillTalk$Tape" "fault" "I") (by decide +kernel)) (fun _ h9 => h9) rfl dX6_readWind_1 ?_
  refine lv_if_ne (tgt := 37) hx hb dX6_readWind_4 (by decide) (fun _ => ?_) (fun c_ => absurd c_ (by decide))
  refine lv_aload_n hx hb dX6_readWind_37 rfl (lv_at hl 0 rfl) ?_
  refine lv_bipush (v := 119) hx hb dX6_readWind_38 (by decide) ?_
  have hPc_2 := hP.sub (ws' := [(h, .inr (6, [.ref bs, .int 0, .ref td, .int fp, .int 1, .int k]))]) [0] rfl
  refine va_csv (W.runV (As := [.int 119]) (rest := []) ⟨hx, hb, hml, hown, hts⟩ (c_X6_readByte1 l dC dI cI cZ cL cJ h bs td fp k 119 (by decide)) (cwV 1 hts gX6_readWind_X6_readByte rfl rfl rfl (by decide +kernel) ⟨Nat.le_of_ble_eq_true rfl, Nat.le_of_ble_eq_true rfl⟩) ⟨fun a U g mk q => by obtain ⟨q0, qP, qK⟩ := q; exact ⟨q0, qP, va_K.moved (u := U) (U := U.calling g mk a) (Vm.Alike.refl U.vm) qK⟩, va_recv hK hP (ci := 6) (q0 := 0) rfl rfl, fun U hU hW => ⟨rfl, by rw [hU]; exact hPc_2, va_K.moved hW.alike hK⟩⟩ rfl rfl hl.1 rfl (lv_room (Nat.le_of_ble_eq_true rfl)) dX6_readWind_40 ⟨Nat.le_of_ble_eq_true rfl, Nat.le_of_ble_eq_true rfl⟩) (fun _ => ?_)
  refine lv_aload_n hx hb dX6_readWind_43 rfl (lv_at hl 0 rfl) ?_
  refine lv_iconst (v := 0) hx hb dX6_readWind_44 (by decide) ?_
  refine lv_iconst (v := 4) hx hb dX6_readWind_45 (by decide) ?_
  have hPc_3 := hP.sub (ws' := [(h, .inr (6, [.ref bs, .int 0, .ref td, .int fp, .int 1, .int k]))]) [0] rfl
  refine vp_callSi (W.runV (As := [.int 0, .int 4]) (rest := []) ⟨hx, hb, hml, hown, hts⟩ (c_X6_readNumber1 l dC dI cI cZ cL cJ h bs td fp k 0 4 ) (cwV 2 hts gX6_readWind_X6_readNumber rfl rfl rfl (by decide +kernel) ⟨Nat.le_of_ble_eq_true rfl, Nat.le_of_ble_eq_true rfl⟩) ⟨fun a U g mk q => by obtain ⟨q0, qP, qK⟩ := q; exact ⟨q0, qP, va_K.moved (u := U) (U := U.calling g mk a) (Vm.Alike.refl U.vm) qK⟩, va_recv hK hP (ci := 6) (q0 := 0) rfl rfl, fun U hU hW => ⟨rfl, by rw [hU]; exact hPc_3, va_K.moved hW.alike hK⟩⟩ rfl rfl hl.1 rfl (lv_room (Nat.le_of_ble_eq_true rfl)) dX6_readWind_46 ⟨Nat.le_of_ble_eq_true rfl, Nat.le_of_ble_eq_true rfl⟩) (fun r_3 h_3 => ?_)
  subst h_3
  refine lv_istore_n (lv' := [(1, .int 0), (0, .ref h)]) hx hb dX6_readWind_49 rfl hl (by decide) rfl (fun ls hl => ?_)
  refine lv_aload_n hx hb dX6_readWind_50 rfl (lv_at hl 1 rfl) ?_
  refine lv_bipush (v := 59) hx hb dX6_readWind_51 (by decide) ?_
  have hPc_4 := hP.sub (ws' := [(h, .inr (6, [.ref bs, .int 0, .ref td, .int fp, .int 1, .int k]))]) [0] rfl
  refine va_csv (W.runV (As := [.int 59]) (rest := []) ⟨hx, hb, hml, hown, hts⟩ (c_X6_readByte1 l dC dI cI cZ cL cJ h bs td fp k 59 (by decide)) (cwV 1 hts gX6_readWind_X6_readByte rfl rfl rfl (by decide +kernel) ⟨Nat.le_of_ble_eq_true rfl, Nat.le_of_ble_eq_true rfl⟩) ⟨fun a U g mk q => by obtain ⟨q0, qP, qK⟩ := q; exact ⟨q0, qP, va_K.moved (u := U) (U := U.calling g mk a) (Vm.Alike.refl U.vm) qK⟩, va_recv hK hP (ci := 6) (q0 := 0) rfl rfl, fun U hU hW => ⟨rfl, by rw [hU]; exact hPc_4, va_K.moved hW.alike hK⟩⟩ rfl rfl hl.1 rfl (lv_room (Nat.le_of_ble_eq_true rfl)) dX6_readWind_53 ⟨Nat.le_of_ble_eq_true rfl, Nat.le_of_ble_eq_true rfl⟩) (fun _ => ?_)
  refine lv_aload_n hx hb dX6_readWind_56 rfl (lv_at hl 1 rfl) ?_
  refine va_get (D := (dC, dI)) (ci := 6) (v := .int 1) (C := RX6) (T := TX6) (N := 6) hx hb hts i_X6_readWind_X6 hown hK hP 0 rfl rfl 4 (by decide) (hts (.fieldLink RX6 30 "MillTalk$Tape" "fault" "I") (by decide +kernel)) (fun _ h9 => h9) rfl dX6_readWind_57 ?_
  refine lv_if_ne (tgt := 92) hx hb dX6_readWind_60 (by decide) (fun _ => ?_) (fun c_ => absurd c_ (by decide))
  exact W.vret hx hb hr (fun t ht hW => ⟨rfl, trivial, ht⟩) (fun _ h => by cases h) dX6_readWind_92
set_option maxHeartbeats 4000000 in
set_option maxRecDepth 100000 in
theorem c_X6_readWinds1 (l : Launch) (dC : Nat → ClassId) (dI : Nat → Nat → Nat) (cI cZ cL cJ : ClassId) (h : Nat) (bs : Nat) (td : Nat) (fp : Int32) (k : Int32)  : Met l yX6_readWinds wsX6_readWinds ({ frames := 4, cells := 0, slots := 0, locals := 88 }) (va_Pc [.ref h] (fun U => va_P (dC, dI) vwCl [(h, .inr (6, [.ref bs, .int 0, .ref td, .int fp, .int 1, .int k]))] U.heap ∧ va_K (dC, dI) vwCl [(cI, .int), (cZ, .boolean), (cL, .object RX3), (cJ, .array .int)] U)) (va_Sv (fun _ => True)) 0 0 (fun _ => False) := by
  refine Met.ofW (cc := cX6_readWinds) (maxL := 2) (ret := none) (by decide) rfl ?_
  intro p e s m args below meth c s₁ B hml hv
  obtain ⟨rfl, hP, hK⟩ := hv
  have hx := B.exec
  have hb := B.bytes
  have hr := B.returns
  have hts := atoms_spec (ws := wsX6_readWinds) B.pre
  have hown : s.vm.findClass RX6 = some m.cls := findClass_of_methodNamed B.named
  have hlocks := B.notSynchronized
  have hP : va_P (dC, dI) vwCl [(h, .inr (6, [.ref bs, .int 0, .ref td, .int fp, .int 1, .int k]))] s.heap := hP
  have hl := lv_entry ([.ref h]) (n := 2) (Nat.le_of_ble_eq_true rfl)
  rw [lg_entry_eq]
  generalize (lg_sl ([.ref h]) ++ List.replicate (2 - (lg_sl ([.ref h])).length) Slot.unset).toArray = ls at hl ⊢
  have hl : lv_has ls 2 [(0, .ref h)] := hl
  refine lv_aload_n hx hb dX6_readWinds_0 rfl (lv_at hl 0 rfl) ?_
  have hPc_1 := hP.sub (ws' := [(h, .inr (6, [.ref bs, .int 0, .ref td, .int fp, .int 1, .int k]))]) [0] rfl
  refine va_csv (W.runV (As := []) (rest := []) ⟨hx, hb, hml, hown, hts⟩ (c_X6_readWind1 l dC dI cI cZ cL cJ h bs td fp k ) (cwV 0 hts gX6_readWinds_X6_readWind rfl rfl rfl (by decide +kernel) ⟨Nat.le_of_ble_eq_true rfl, Nat.le_of_ble_eq_true rfl⟩) ⟨fun a U g mk q => by obtain ⟨q0, qP, qK⟩ := q; exact ⟨q0, qP, va_K.moved (u := U) (U := U.calling g mk a) (Vm.Alike.refl U.vm) qK⟩, va_recv hK hP (ci := 6) (q0 := 0) rfl rfl, fun U hU hW => ⟨rfl, by rw [hU]; exact hPc_1, va_K.moved hW.alike hK⟩⟩ rfl rfl hl.1 rfl (lv_room (Nat.le_of_ble_eq_true rfl)) dX6_readWinds_1 ⟨Nat.le_of_ble_eq_true rfl, Nat.le_of_ble_eq_true rfl⟩) (fun _ => ?_)
  refine lv_iconst (v := 0) hx hb dX6_readWinds_4 (by decide) ?_
  refine lv_istore_n (lv' := [(1, .int 0), (0, .ref h)]) hx hb dX6_readWinds_5 rfl hl (by decide) rfl (fun ls hl => ?_)
  refine lv_iload_n hx hb dX6_readWinds_6 rfl (lv_at hl 0 rfl) ?_
  refine lv_bipush (v := 6) hx hb dX6_readWinds_7 (by decide) ?_
  refine lv_icmp_ge (tgt := 42) hx hb dX6_readWinds_9 (by decide) (fun c_ => absurd c_ (by decide)) (fun _ => ?_)
  refine lv_aload_n hx hb dX6_readWinds_12 rfl (lv_at hl 1 rfl) ?_
  refine va_get (D := (dC, dI)) (ci := 6) (v := .int 1) (C := RX6) (T := TX6) (N := 6) hx hb hts i_X6_readWinds_X6 hown hK hP 0 rfl rfl 4 (by decide) (hts (.fieldLink RX6 30 "MillTalk$Tape" "fault" "I") (by decide +kernel)) (fun _ h9 => h9) rfl dX6_readWinds_13 ?_
  refine lv_if_ne (tgt := 42) hx hb dX6_readWinds_16 (by decide) (fun _ => ?_) (fun c_ => absurd c_ (by decide))
  exact W.vret hx hb hr (fun t ht hW => ⟨rfl, trivial, ht⟩) (fun _ h => by cases h) dX6_readWinds_42
set_option maxHeartbeats 4000000 in
set_option maxRecDepth 100000 in
theorem c_X6_readSound1 (l : Launch) (dC : Nat → ClassId) (dI : Nat → Nat → Nat) (cI cZ cL cJ : ClassId) (sz : Nat) (h : Nat) (bs : Nat) (td : Nat) (fp : Int32) (k : Int32) (a0 : Int32) (a1 : Int32) (a2 : Int32) (a3 : Int32) (a4 : Int32) (a5 : Int32) (a6 : Int32) (a7 : Int32) (t1 : Nat) (t2 : Nat) (t3 : Nat) (t4 : Nat) (t5 : Nat)  : Met l yX6_readSound wsX6_readSound ({ frames := 3, cells := 0, slots := 0, locals := 67 }) (va_Pc [.ref h] (fun U => U.heap.size = sz ∧ va_P (dC, dI) vwCl [(h, .inr (6, [.ref bs, .int 0, .ref td, .int fp, .int 1, .int k])), (td, .inr (3, [.int a0, .int a1, .int a2, .int a3, .int a4, .int a5, .int a6, .int a7, .ref t1, .ref t2, .ref t3, .ref t4, .ref t5]))] U.heap ∧ va_K (dC, dI) vwCl [(cI, .int), (cZ, .boolean), (cL, .object RX3), (cJ, .array .int)] U ∧ va_D (fun _ => True) [(h, .inr (6, [.ref bs, .int 0, .ref td, .int fp, .int 1, .int k])), (td, .inr (3, [.int a0, .int a1, .int a2, .int a3, .int a4, .int a5, .int a6, .int a7, .ref t1, .ref t2, .ref t3, .ref t4, .ref t5]))])) (va_Qv (fun (_ : Unit) => True) (fun (_ : Unit) t => ∃ (k2 : Int32), va_P (dC, dI) vwCl [(h, .inr (6, [.ref bs, .int 0, .ref td, .int fp, .int 1, .int k2])), (td, .inr (3, [.int a0, .int a1, .int a2, .int a3, .int a4, .int a5, .int a6, .int a7, .ref t1, .ref t2, .ref t3, .ref t4, .ref t5]))] t.heap ∧ va_D (va_A [(h, .inr (6, [.ref bs, .int 0, .ref td, .int fp, .int 1, .int k])), (td, .inr (3, [.int a0, .int a1, .int a2, .int a3, .int a4, .int a5, .int a6, .int a7, .ref t1, .ref t2, .ref t3, .ref t4, .ref t5]))] sz) [(h, .inr (6, [.ref bs, .int 0, .ref td, .int fp, .int 1, .int k2])), (td, .inr (3, [.int a0, .int a1, .int a2, .int a3, .int a4, .int a5, .int a6, .int a7, .ref t1, .ref t2, .ref t3, .ref t4, .ref t5]))]) (va_A [(h, .inr (6, [.ref bs, .int 0, .ref td, .int fp, .int 1, .int k])), (td, .inr (3, [.int a0, .int a1, .int a2, .int a3, .int a4, .int a5, .int a6, .int a7, .ref t1, .ref t2, .ref t3, .ref t4, .ref t5]))] sz)) 0 0 (va_A [(h, .inr (6, [.ref bs, .int 0, .ref td, .int fp, .int 1, .int k])), (td, .inr (3, [.int a0, .int a1, .int a2, .int a3, .int a4, .int a5, .int a6, .int a7, .ref t1, .ref t2, .ref t3, .ref t4, .ref t5]))] sz) := by
  refine Met.ofW (cc := cX6_readSound) (maxL := 4) (ret := none) (by decide) rfl ?_
  intro p e s m args below meth c s₁ B hml hv
  obtain ⟨rfl, hsz, hP, hK, hD0⟩ := hv
  have hx := B.exec
  have hb := B.bytes
  have hr := B.returns
  have hts := atoms_spec (ws := wsX6_readSound) B.pre
  have hown : s.vm.findClass RX6 = some m.cls := findClass_of_methodNamed B.named
  have hlocks := B.notSynchronized
  subst hsz
  have hD := hD0.self (sz := s.heap.size)
  generalize hAe : va_A [(h, .inr (6, [.ref bs, .int 0, .ref td, .int fp, .int 1, .int k])), (td, .inr (3, [.int a0, .int a1, .int a2, .int a3, .int a4, .int a5, .int a6, .int a7, .ref t1, .ref t2, .ref t3, .ref t4, .ref t5]))] s.heap.size = A at hD ⊢
  have hA : ∀ q : Nat, s.heap.size ≤ q → A q := fun q h => by rw [← hAe]; exact Or.inr h
  have hS : va_S A s.heap s.heap [] := va_S.rf
  have hP : va_P (dC, dI) vwCl [(h, .inr (6, [.ref bs, .int 0, .ref td, .int fp, .int 1, .int k])), (td, .inr (3, [.int a0, .int a1, .int a2, .int a3, .int a4, .int a5, .int a6, .int a7, .ref t1, .ref t2, .ref t3, .ref t4, .ref t5]))] s.heap := hP
  have hl := lv_entry ([.ref h]) (n := 4) (Nat.le_of_ble_eq_true rfl)
  rw [lg_entry_eq]
  generalize (lg_sl ([.ref h]) ++ List.replicate (4 - (lg_sl ([.ref h])).length) Slot.unset).toArray = ls at hl ⊢
  have hl : lv_has ls 4 [(0, .ref h)] := hl
  refine lv_aload_n hx hb dX6_readSound_0 rfl (lv_at hl 0 rfl) ?_
  refine lv_aload_n hx hb dX6_readSound_1 rfl (lv_at hl 0 rfl) ?_
  refine va_get (D := (dC, dI)) (ci := 6) (v := .int k) (C := RX6) (T := TX6) (N := 6) hx hb hts i_X6_readSound_X6 hown hK hP 0 rfl rfl 5 (by decide) (hts (.fieldLink RX6 36 "MillTalk$Tape" "place" "I") (by decide +kernel)) (fun _ h9 => h9) rfl dX6_readSound_2 ?_
  have hPc_1 := hP.sub (ws' := [(h, .inr (6, [.ref bs, .int 0, .ref td, .int fp, .int 1, .int k]))]) [0] rfl
  refine vp_callSi (W.runV (As := [.int k]) (rest := []) ⟨hx, hb, hml, hown, hts⟩ (c_X6_byteAt l dC dI cI cZ cL cJ h bs td fp 1 k k ) (cwV 1 hts gX6_readSound_X6_byteAt rfl rfl rfl (by decide +kernel) ⟨Nat.le_of_ble_eq_true rfl, Nat.le_of_ble_eq_true rfl⟩) ⟨fun a U g mk q => by obtain ⟨q0, qP, qK⟩ := q; exact ⟨q0, qP, va_K.moved (u := U) (U := U.calling g mk a) (Vm.Alike.refl U.vm) qK⟩, va_recv hK hP (ci := 6) (q0 := 0) rfl rfl, fun U hU hW => ⟨rfl, by rw [hU]; exact hPc_1, va_K.moved hW.alike hK⟩⟩ rfl rfl hl.1 rfl (lv_room (Nat.le_of_ble_eq_true rfl)) dX6_readSound_5 ⟨Nat.le_of_ble_eq_true rfl, Nat.le_of_ble_eq_true rfl⟩) (fun r_1 h_1 => ?_)
  subst h_1
  have hPc_2 := hP.sub (ws' := []) [] rfl
  refine vp_callSi (W.runS (As := [.int (-1)]) (rest := []) ⟨hx, hb, hml, hown, hts⟩ (c_X6_kindOf l dC dI cI cZ cL cJ  ) (va_cwS 1 hts gX6_readSound_X6_kindOf rfl rfl rfl (by decide +kernel) ⟨Nat.le_of_ble_eq_true rfl, Nat.le_of_ble_eq_true rfl⟩) ⟨fun a U g mk q => by obtain ⟨q0, qP, qK⟩ := q; exact ⟨q0, qP, va_K.moved (u := U) (U := U.calling g mk a) (Vm.Alike.refl U.vm) qK⟩, fun U hU hW => ⟨rfl, by rw [hU]; exact hPc_2, va_K.moved hW.alike hK⟩⟩ rfl rfl hl.1 rfl (lv_room (Nat.le_of_ble_eq_true rfl)) dX6_readSound_8 ⟨Nat.le_of_ble_eq_true rfl, Nat.le_of_ble_eq_true rfl⟩) (fun r_2 h_2 => ?_)
  subst h_2
  refine lv_istore_n (lv' := [(1, .int 0), (0, .ref h)]) hx hb dX6_readSound_11 rfl hl (by decide) rfl (fun ls hl => ?_)
  refine lv_iload_n hx hb dX6_readSound_12 rfl (lv_at hl 0 rfl) ?_
  refine lv_if_ne (tgt := 24) hx hb dX6_readSound_13 (by decide) (fun c_ => absurd (by decide) c_) (fun _ => ?_)
  refine lv_aload_n hx hb dX6_readSound_16 rfl (lv_at hl 1 rfl) ?_
  refine lv_iconst (v := 1) hx hb dX6_readSound_17 (by decide) ?_
  have hPc_4 := hP.sub (ws' := [(h, .inr (6, [.ref bs, .int 0, .ref td, .int fp, .int 1, .int k]))]) [0] rfl
  refine va_csv (W.runV (As := [.int 1]) (rest := []) ⟨hx, hb, hml, hown, hts⟩ (c_X6_fail1 l dC dI cI cZ cL cJ h bs td fp k 1 ) (cwV 1 hts gX6_readSound_X6_fail rfl rfl rfl (by decide +kernel) ⟨Nat.le_of_ble_eq_true rfl, Nat.le_of_ble_eq_true rfl⟩) ⟨fun a U g mk q => by obtain ⟨q0, qP, qK⟩ := q; exact ⟨q0, qP, va_K.moved (u := U) (U := U.calling g mk a) (Vm.Alike.refl U.vm) qK⟩, va_recv hK hP (ci := 6) (q0 := 0) rfl rfl, fun U hU hW => ⟨rfl, by rw [hU]; exact hPc_4, va_K.moved hW.alike hK⟩⟩ rfl rfl hl.1 rfl (lv_room (Nat.le_of_ble_eq_true rfl)) dX6_readSound_18 ⟨Nat.le_of_ble_eq_true rfl, Nat.le_of_ble_eq_true rfl⟩) (fun _ => ?_)
  refine lv_goto (tgt := 41) hx hb dX6_readSound_21 (by decide) ?_
  refine lv_aload_n hx hb dX6_readSound_41 rfl (lv_at hl 1 rfl) ?_
  refine lv_dup hx hb dX6_readSound_42 rfl ?_
  refine va_get (D := (dC, dI)) (ci := 6) (v := .int k) (C := RX6) (T := TX6) (N := 6) hx hb hts i_X6_readSound_X6 hown hK hP 0 rfl rfl 5 (by decide) (hts (.fieldLink RX6 36 "MillTalk$Tape" "place" "I") (by decide +kernel)) (fun _ h9 => h9) rfl dX6_readSound_43 ?_
  refine lv_iconst (v := 1) hx hb dX6_readSound_46 (by decide) ?_
  refine lv_iadd hx hb dX6_readSound_47 ?_
  refine lv_topi (fun v_5 e_5 => ?_)
  refine va_put (D := (dC, dI)) (ci := 6) (v := .int v_5) (ty := .int) (C := RX6) (T := TX6) (N := 6) hx hb hts i_X6_readSound_X6 tyX6 tyX6_ok nmX6 hown hK hP hD hS 0 rfl rfl 5 (by decide) (hts (.fieldLink RX6 36 "MillTalk$Tape" "place" "I") (by decide +kernel)) (fun _ h9 => h9) rfl (by decide +kernel) rfl rfl (Nat.le_of_ble_eq_true rfl) dX6_readSound_48 (fun H locs hP hD hS => ?_)
  have hP : va_P (dC, dI) vwCl [(h, .inr (6, [.ref bs, .int 0, .ref td, .int fp, .int 1, .int v_5])), (td, .inr (3, [.int a0, .int a1, .int a2, .int a3, .int a4, .int a5, .int a6, .int a7, .ref t1, .ref t2, .ref t3, .ref t4, .ref t5]))] H := hP
  have hD : va_D A [(h, .inr (6, [.ref bs, .int 0, .ref td, .int fp, .int 1, .int v_5])), (td, .inr (3, [.int a0, .int a1, .int a2, .int a3, .int a4, .int a5, .int a6, .int a7, .ref t1, .ref t2, .ref t3, .ref t4, .ref t5]))] := hD
  refine lv_aload_n hx hb dX6_readSound_51 rfl (lv_at hl 1 rfl) ?_
  refine lv_iconst (v := 0) hx hb dX6_readSound_52 (by decide) ?_
  refine lv_aload_n hx hb dX6_readSound_53 rfl (lv_at hl 1 rfl) ?_
  refine va_get (D := (dC, dI)) (ci := 6) (v := .ref td) (C := RX6) (T := TX6) (N := 6) hx hb hts i_X6_readSound_X6 hown hK hP 0 rfl rfl 2 (by decide) (hts (.fieldLink RX6 18 "MillTalk$Tape" "told" "LMillTalk$Level;") (by decide +kernel)) (fun _ h9 => h9) rfl dX6_readSound_54 ?_
  refine va_get (D := (dC, dI)) (ci := 3) (v := .int a0) (C := RX3) (T := TX3) (N := 13) hx hb hts i_X6_readSound_X3 hown hK hP 1 rfl rfl 0 (by decide) (hts (.fieldLink RX6 59 "MillTalk$Level" "cells" "I") (by decide +kernel)) (fun _ h9 => h9) rfl dX6_readSound_57 ?_
  refine lv_iconst (v := 1) hx hb dX6_readSound_60 (by decide) ?_
  refine lv_isub hx hb dX6_readSound_61 ?_
  refine lv_topi (fun v_6 e_6 => ?_)
  have hPc_7 := hP.sub (ws' := [(h, .inr (6, [.ref bs, .int 0, .ref td, .int fp, .int 1, .int v_5]))]) [0] rfl
  refine vp_callSi (W.runV (As := [.int 0, .int v_6]) (rest := []) ⟨hx, hb, hml, hown, hts⟩ (c_X6_readNumber1 l dC dI cI cZ cL cJ h bs td fp v_5 0 v_6 ) (cwV 2 hts gX6_readSound_X6_readNumber rfl rfl rfl (by decide +kernel) ⟨Nat.le_of_ble_eq_true rfl, Nat.le_of_ble_eq_true rfl⟩) ⟨fun a U g mk q => by obtain ⟨q0, qP, qK⟩ := q; exact ⟨q0, qP, va_K.moved (u := U) (U := U.calling g mk a) (Vm.Alike.refl U.vm) qK⟩, va_recv hK hP (ci := 6) (q0 := 0) rfl rfl, fun U hU hW => ⟨rfl, by rw [hU]; exact hPc_7, va_K.moved hW.alike hK⟩⟩ rfl rfl hl.1 rfl (lv_room (Nat.le_of_ble_eq_true rfl)) dX6_readSound_62 ⟨Nat.le_of_ble_eq_true rfl, Nat.le_of_ble_eq_true rfl⟩) (fun r_7 h_7 => ?_)
  subst h_7
  refine lv_istore_n (lv' := [(2, .int 0), (1, .int 0), (0, .ref h)]) hx hb dX6_readSound_65 rfl hl (by decide) rfl (fun ls hl => ?_)
  refine lv_aload_n hx hb dX6_readSound_66 rfl (lv_at hl 2 rfl) ?_
  refine lv_bipush (v := 44) hx hb dX6_readSound_67 (by decide) ?_
  have hPc_8 := hP.sub (ws' := [(h, .inr (6, [.ref bs, .int 0, .ref td, .int fp, .int 1, .int v_5]))]) [0] rfl
  refine va_csv (W.runV (As := [.int 44]) (rest := []) ⟨hx, hb, hml, hown, hts⟩ (c_X6_readByte1 l dC dI cI cZ cL cJ h bs td fp v_5 44 (by decide)) (cwV 1 hts gX6_readSound_X6_readByte rfl rfl rfl (by decide +kernel) ⟨Nat.le_of_ble_eq_true rfl, Nat.le_of_ble_eq_true rfl⟩) ⟨fun a U g mk q => by obtain ⟨q0, qP, qK⟩ := q; exact ⟨q0, qP, va_K.moved (u := U) (U := U.calling g mk a) (Vm.Alike.refl U.vm) qK⟩, va_recv hK hP (ci := 6) (q0 := 0) rfl rfl, fun U hU hW => ⟨rfl, by rw [hU]; exact hPc_8, va_K.moved hW.alike hK⟩⟩ rfl rfl hl.1 rfl (lv_room (Nat.le_of_ble_eq_true rfl)) dX6_readSound_69 ⟨Nat.le_of_ble_eq_true rfl, Nat.le_of_ble_eq_true rfl⟩) (fun _ => ?_)
  refine lv_aload_n hx hb dX6_readSound_72 rfl (lv_at hl 2 rfl) ?_
  refine lv_iconst (v := 1) hx hb dX6_readSound_73 (by decide) ?_
  refine lv_bipush (v := 20) hx hb dX6_readSound_74 (by decide) ?_
  have hPc_9 := hP.sub (ws' := [(h, .inr (6, [.ref bs, .int 0, .ref td, .int fp, .int 1, .int v_5]))]) [0] rfl
  refine vp_callSi (W.runV (As := [.int 1, .int 20]) (rest := []) ⟨hx, hb, hml, hown, hts⟩ (c_X6_readNumber1 l dC dI cI cZ cL cJ h bs td fp v_5 1 20 ) (cwV 2 hts gX6_readSound_X6_readNumber rfl rfl rfl (by decide +kernel) ⟨Nat.le_of_ble_eq_true rfl, Nat.le_of_ble_eq_true rfl⟩) ⟨fun a U g mk q => by obtain ⟨q0, qP, qK⟩ := q; exact ⟨q0, qP, va_K.moved (u := U) (U := U.calling g mk a) (Vm.Alike.refl U.vm) qK⟩, va_recv hK hP (ci := 6) (q0 := 0) rfl rfl, fun U hU hW => ⟨rfl, by rw [hU]; exact hPc_9, va_K.moved hW.alike hK⟩⟩ rfl rfl hl.1 rfl (lv_room (Nat.le_of_ble_eq_true rfl)) dX6_readSound_76 ⟨Nat.le_of_ble_eq_true rfl, Nat.le_of_ble_eq_true rfl⟩) (fun r_9 h_9 => ?_)
  subst h_9
  refine lv_istore_n (lv' := [(3, .int 0), (2, .int 0), (1, .int 0), (0, .ref h)]) hx hb dX6_readSound_79 rfl hl (by decide) rfl (fun ls hl => ?_)
  refine lv_aload_n hx hb dX6_readSound_80 rfl (lv_at hl 3 rfl) ?_
  refine lv_bipush (v := 59) hx hb dX6_readSound_81 (by decide) ?_
  have hPc_10 := hP.sub (ws' := [(h, .inr (6, [.ref bs, .int 0, .ref td, .int fp, .int 1, .int v_5]))]) [0] rfl
  refine va_csv (W.runV (As := [.int 59]) (rest := []) ⟨hx, hb, hml, hown, hts⟩ (c_X6_readByte1 l dC dI cI cZ cL cJ h bs td fp v_5 59 (by decide)) (cwV 1 hts gX6_readSound_X6_readByte rfl rfl rfl (by decide +kernel) ⟨Nat.le_of_ble_eq_true rfl, Nat.le_of_ble_eq_true rfl⟩) ⟨fun a U g mk q => by obtain ⟨q0, qP, qK⟩ := q; exact ⟨q0, qP, va_K.moved (u := U) (U := U.calling g mk a) (Vm.Alike.refl U.vm) qK⟩, va_recv hK hP (ci := 6) (q0 := 0) rfl rfl, fun U hU hW => ⟨rfl, by rw [hU]; exact hPc_10, va_K.moved hW.alike hK⟩⟩ rfl rfl hl.1 rfl (lv_room (Nat.le_of_ble_eq_true rfl)) dX6_readSound_83 ⟨Nat.le_of_ble_eq_true rfl, Nat.le_of_ble_eq_true rfl⟩) (fun _ => ?_)
  refine lv_aload_n hx hb dX6_readSound_86 rfl (lv_at hl 3 rfl) ?_
  refine va_get (D := (dC, dI)) (ci := 6) (v := .int 1) (C := RX6) (T := TX6) (N := 6) hx hb hts i_X6_readSound_X6 hown hK hP 0 rfl rfl 4 (by decide) (hts (.fieldLink RX6 30 "MillTalk$Tape" "fault" "I") (by decide +kernel)) (fun _ h9 => h9) rfl dX6_readSound_87 ?_
  refine lv_if_ne (tgt := 138) hx hb dX6_readSound_90 (by decide) (fun _ => ?_) (fun c_ => absurd c_ (by decide))
  have hP9 := hP.sub (ws' := [(h, .inr (6, [.ref bs, .int 0, .ref td, .int fp, .int 1, .int v_5])), (td, .inr (3, [.int a0, .int a1, .int a2, .int a3, .int a4, .int a5, .int a6, .int a7, .ref t1, .ref t2, .ref t3, .ref t4, .ref t5]))]) [0, 1] rfl
  have hD9 := hD.sub (ws' := [(h, .inr (6, [.ref bs, .int 0, .ref td, .int fp, .int 1, .int v_5])), (td, .inr (3, [.int a0, .int a1, .int a2, .int a3, .int a4, .int a5, .int a6, .int a7, .ref t1, .ref t2, .ref t3, .ref t4, .ref t5]))]) [0, 1] (by decide) rfl
  exact W.vret hx hb hr (fun t ht hW => ⟨⟨(), rfl, trivial, ⟨v_5, by rw [ht]; exact hP9, hD9⟩⟩, hS.F ht⟩) hS.2.2 dX6_readSound_138
set_option maxHeartbeats 4000000 in
set_option maxRecDepth 100000 in
theorem c_X6_readSounds1 (l : Launch) (dC : Nat → ClassId) (dI : Nat → Nat → Nat) (cI cZ cL cJ : ClassId) (sz : Nat) (h : Nat) (bs : Nat) (td : Nat) (fp : Int32) (k : Int32) (a0 : Int32) (a1 : Int32) (a2 : Int32) (a3 : Int32) (a4 : Int32) (a5 : Int32) (a6 : Int32) (a7 : Int32) (t1 : Nat) (t2 : Nat) (t3 : Nat) (t4 : Nat) (t5 : Nat)  : Met l yX6_readSounds wsX6_readSounds ({ frames := 4, cells := 0, slots := 0, locals := 90 }) (va_Pc [.ref h] (fun U => U.heap.size = sz ∧ va_P (dC, dI) vwCl [(h, .inr (6, [.ref bs, .int 0, .ref td, .int fp, .int 1, .int k])), (td, .inr (3, [.int a0, .int a1, .int a2, .int a3, .int a4, .int a5, .int a6, .int a7, .ref t1, .ref t2, .ref t3, .ref t4, .ref t5]))] U.heap ∧ va_K (dC, dI) vwCl [(cI, .int), (cZ, .boolean), (cL, .object RX3), (cJ, .array .int)] U ∧ va_D (fun _ => True) [(h, .inr (6, [.ref bs, .int 0, .ref td, .int fp, .int 1, .int k])), (td, .inr (3, [.int a0, .int a1, .int a2, .int a3, .int a4, .int a5, .int a6, .int a7, .ref t1, .ref t2, .ref t3, .ref t4, .ref t5]))])) (va_Qv (fun (_ : Unit) => True) (fun (_ : Unit) t => ∃ (k2 : Int32), va_P (dC, dI) vwCl [(h, .inr (6, [.ref bs, .int 0, .ref td, .int fp, .int 1, .int k2])), (td, .inr (3, [.int a0, .int a1, .int a2, .int a3, .int a4, .int a5, .int a6, .int a7, .ref t1, .ref t2, .ref t3, .ref t4, .ref t5]))] t.heap ∧ va_D (va_A [(h, .inr (6, [.ref bs, .int 0, .ref td, .int fp, .int 1, .int k])), (td, .inr (3, [.int a0, .int a1, .int a2, .int a3, .int a4, .int a5, .int a6, .int a7, .ref t1, .ref t2, .ref t3, .ref t4, .ref t5]))] sz) [(h, .inr (6, [.ref bs, .int 0, .ref td, .int fp, .int 1, .int k2])), (td, .inr (3, [.int a0, .int a1, .int a2, .int a3, .int a4, .int a5, .int a6, .int a7, .ref t1, .ref t2, .ref t3, .ref t4, .ref t5]))]) (va_A [(h, .inr (6, [.ref bs, .int 0, .ref td, .int fp, .int 1, .int k])), (td, .inr (3, [.int a0, .int a1, .int a2, .int a3, .int a4, .int a5, .int a6, .int a7, .ref t1, .ref t2, .ref t3, .ref t4, .ref t5]))] sz)) 0 0 (va_A [(h, .inr (6, [.ref bs, .int 0, .ref td, .int fp, .int 1, .int k])), (td, .inr (3, [.int a0, .int a1, .int a2, .int a3, .int a4, .int a5, .int a6, .int a7, .ref t1, .ref t2, .ref t3, .ref t4, .ref t5]))] sz) := by
  refine Met.ofW (cc := cX6_readSounds) (maxL := 2) (ret := none) (by decide) rfl ?_
  intro p e s m args below meth c s₁ B hml hv
  obtain ⟨rfl, hsz, hP, hK, hD0⟩ := hv
  have hx := B.exec
  have hb := B.bytes
  have hr := B.returns
  have hts := atoms_spec (ws := wsX6_readSounds) B.pre
  have hown : s.vm.findClass RX6 = some m.cls := findClass_of_methodNamed B.named
  have hlocks := B.notSynchronized
  subst hsz
  have hD := hD0.self (sz := s.heap.size)
  generalize hAe : va_A [(h, .inr (6, [.ref bs, .int 0, .ref td, .int fp, .int 1, .int k])), (td, .inr (3, [.int a0, .int a1, .int a2, .int a3, .int a4, .int a5, .int a6, .int a7, .ref t1, .ref t2, .ref t3, .ref t4, .ref t5]))] s.heap.size = A at hD ⊢
  have hA : ∀ q : Nat, s.heap.size ≤ q → A q := fun q h => by rw [← hAe]; exact Or.inr h
  have hS : va_S A s.heap s.heap [] := va_S.rf
  have hP : va_P (dC, dI) vwCl [(h, .inr (6, [.ref bs, .int 0, .ref td, .int fp, .int 1, .int k])), (td, .inr (3, [.int a0, .int a1, .int a2, .int a3, .int a4, .int a5, .int a6, .int a7, .ref t1, .ref t2, .ref t3, .ref t4, .ref t5]))] s.heap := hP
  have hl := lv_entry ([.ref h]) (n := 2) (Nat.le_of_ble_eq_true rfl)
  rw [lg_entry_eq]
  generalize (lg_sl ([.ref h]) ++ List.replicate (2 - (lg_sl ([.ref h])).length) Slot.unset).toArray = ls at hl ⊢
  have hl : lv_has ls 2 [(0, .ref h)] := hl
  refine lv_aload_n hx hb dX6_readSounds_0 rfl (lv_at hl 0 rfl) ?_
  have hPc_1 := hP.sub (ws' := [(h, .inr (6, [.ref bs, .int 0, .ref td, .int fp, .int 1, .int k])), (td, .inr (3, [.int a0, .int a1, .int a2, .int a3, .int a4, .int a5, .int a6, .int a7, .ref t1, .ref t2, .ref t3, .ref t4, .ref t5]))]) [0, 1] rfl
  have hDc_1 := hD.sub (ws' := [(h, .inr (6, [.ref bs, .int 0, .ref td, .int fp, .int 1, .int k])), (td, .inr (3, [.int a0, .int a1, .int a2, .int a3, .int a4, .int a5, .int a6, .int a7, .ref t1, .ref t2, .ref t3, .ref t4, .ref t5]))]) [0, 1] (by decide) rfl
  have hFc_1 := va_free (wc := [(h, .inr (6, [.ref bs, .int 0, .ref td, .int fp, .int 1, .int k])), (td, .inr (3, [.int a0, .int a1, .int a2, .int a3, .int a4, .int a5, .int a6, .int a7, .ref t1, .ref t2, .ref t3, .ref t4, .ref t5]))]) hD hS hA [0, 1] rfl
  refine va_callv (va_runV (As := []) (rest := []) ⟨hx, hb, hml, hown, hts⟩ (c_X6_readSound1 l dC dI cI cZ cL cJ s.heap.size h bs td fp k a0 a1 a2 a3 a4 a5 a6 a7 t1 t2 t3 t4 t5 ) (cwV 0 hts gX6_readSounds_X6_readSound rfl rfl rfl (by decide +kernel) ⟨Nat.le_of_ble_eq_true rfl, Nat.le_of_ble_eq_true rfl⟩) ⟨fun a U g mk q => by obtain ⟨q0, q1, qP, qK, qD⟩ := q; exact ⟨q0, q1, qP, va_K.moved (u := U) (U := U.calling g mk a) (Vm.Alike.refl U.vm) qK, qD⟩, va_recv hK hP (ci := 6) (q0 := 0) rfl rfl, fun U hU hW => ⟨rfl, by rw [hU], by rw [hU]; exact hPc_1, va_K.moved hW.alike hK, hDc_1.weaken (fun _ _ _ _ => trivial)⟩⟩ rfl rfl hl.1 rfl (lv_room (Nat.le_of_ble_eq_true rfl)) dX6_readSounds_1 ⟨Nat.le_of_ble_eq_true rfl, Nat.le_of_ble_eq_true rfl⟩) hS (fun q _ h => hFc_1 q h) hFc_1 (fun u_1 t_1 H1 locs ht hvm h_1 hB hz1 hk1 hS => ?_)
  obtain ⟨k2_1, hP1, hD1⟩ := hB
  rw [ht] at hP1
  obtain ⟨hP, hD⟩ := va_join (wr := []) (w1 := [(h, .inr (6, [.ref bs, .int 0, .ref td, .int fp, .int 1, .int k2_1])), (td, .inr (3, [.int a0, .int a1, .int a2, .int a3, .int a4, .int a5, .int a6, .int a7, .ref t1, .ref t2, .ref t3, .ref t4, .ref t5]))]) hP hD [0, 1] [] rfl rfl (by decide) (by decide) hk1 hFc_1 hP1 hD1
  generalize H1 = H at hP hS ⊢
  have hP : va_P (dC, dI) vwCl [(h, .inr (6, [.ref bs, .int 0, .ref td, .int fp, .int 1, .int k2_1])), (td, .inr (3, [.int a0, .int a1, .int a2, .int a3, .int a4, .int a5, .int a6, .int a7, .ref t1, .ref t2, .ref t3, .ref t4, .ref t5]))] H := hP
  have hD : va_D A [(h, .inr (6, [.ref bs, .int 0, .ref td, .int fp, .int 1, .int k2_1])), (td, .inr (3, [.int a0, .int a1, .int a2, .int a3, .int a4, .int a5, .int a6, .int a7, .ref t1, .ref t2, .ref t3, .ref t4, .ref t5]))] := hD
  refine lv_iconst (v := 0) hx hb dX6_readSounds_4 (by decide) ?_
  refine lv_istore_n (lv' := [(1, .int 0), (0, .ref h)]) hx hb dX6_readSounds_5 rfl hl (by decide) rfl (fun ls hl => ?_)
  refine lv_iload_n hx hb dX6_readSounds_6 rfl (lv_at hl 0 rfl) ?_
  refine lv_bipush (v := 6) hx hb dX6_readSounds_7 (by decide) ?_
  refine lv_icmp_ge (tgt := 41) hx hb dX6_readSounds_9 (by decide) (fun c_ => absurd c_ (by decide)) (fun _ => ?_)
  refine lv_aload_n hx hb dX6_readSounds_12 rfl (lv_at hl 1 rfl) ?_
  refine va_get (D := (dC, dI)) (ci := 6) (v := .int 1) (C := RX6) (T := TX6) (N := 6) hx hb hts i_X6_readSounds_X6 hown hK hP 0 rfl rfl 4 (by decide) (hts (.fieldLink RX6 30 "MillTalk$Tape" "fault" "I") (by decide +kernel)) (fun _ h9 => h9) rfl dX6_readSounds_13 ?_
  refine lv_if_ne (tgt := 41) hx hb dX6_readSounds_16 (by decide) (fun _ => ?_) (fun c_ => absurd c_ (by decide))
  have hP9 := hP.sub (ws' := [(h, .inr (6, [.ref bs, .int 0, .ref td, .int fp, .int 1, .int k2_1])), (td, .inr (3, [.int a0, .int a1, .int a2, .int a3, .int a4, .int a5, .int a6, .int a7, .ref t1, .ref t2, .ref t3, .ref t4, .ref t5]))]) [0, 1] rfl
  have hD9 := hD.sub (ws' := [(h, .inr (6, [.ref bs, .int 0, .ref td, .int fp, .int 1, .int k2_1])), (td, .inr (3, [.int a0, .int a1, .int a2, .int a3, .int a4, .int a5, .int a6, .int a7, .ref t1, .ref t2, .ref t3, .ref t4, .ref t5]))]) [0, 1] (by decide) rfl
  exact W.vret hx hb hr (fun t ht hW => ⟨⟨(), rfl, trivial, ⟨k2_1, by rw [ht]; exact hP9, hD9⟩⟩, hS.F ht⟩) hS.2.2 dX6_readSounds_41
set_option maxHeartbeats 4000000 in
set_option maxRecDepth 100000 in
theorem c_X6_read (l : Launch) (dC : Nat → ClassId) (dI : Nat → Nat → Nat) (cI cZ cL cJ : ClassId) (sz : Nat) (h : Nat) (bs : Nat) (td : Nat) (fp : Int32) (f : Int32) (k : Int32) (a0 : Int32) (a1 : Int32) (a2 : Int32) (a3 : Int32) (a4 : Int32) (a5 : Int32) (a6 : Int32) (a7 : Int32) (t1 : Nat) (t2 : Nat) (t3 : Nat) (t4 : Nat) (t5 : Nat)  : Met l yX6_read wsX6_read ({ frames := 5, cells := 0, slots := 0, locals := 111 }) (va_Pc [.ref h] (fun U => U.heap.size = sz ∧ va_P (dC, dI) vwCl [(h, .inr (6, [.ref bs, .int 0, .ref td, .int fp, .int f, .int k])), (td, .inr (3, [.int a0, .int a1, .int a2, .int a3, .int a4, .int a5, .int a6, .int a7, .ref t1, .ref t2, .ref t3, .ref t4, .ref t5]))] U.heap ∧ va_K (dC, dI) vwCl [(cI, .int), (cZ, .boolean), (cL, .object RX3), (cJ, .array .int)] U ∧ va_D (fun _ => True) [(h, .inr (6, [.ref bs, .int 0, .ref td, .int fp, .int f, .int k])), (td, .inr (3, [.int a0, .int a1, .int a2, .int a3, .int a4, .int a5, .int a6, .int a7, .ref t1, .ref t2, .ref t3, .ref t4, .ref t5]))])) (va_Qi (fun r (_ : Unit) => r = 1) (fun (_ : Unit) t => ∃ (k2 : Int32), va_P (dC, dI) vwCl [(h, .inr (6, [.ref bs, .int 0, .ref td, .int 0, .int 1, .int k2]))] t.heap ∧ va_D (va_A [(h, .inr (6, [.ref bs, .int 0, .ref td, .int fp, .int f, .int k])), (td, .inr (3, [.int a0, .int a1, .int a2, .int a3, .int a4, .int a5, .int a6, .int a7, .ref t1, .ref t2, .ref t3, .ref t4, .ref t5]))] sz) [(h, .inr (6, [.ref bs, .int 0, .ref td, .int 0, .int 1, .int k2]))]) (va_A [(h, .inr (6, [.ref bs, .int 0, .ref td, .int fp, .int f, .int k])), (td, .inr (3, [.int a0, .int a1, .int a2, .int a3, .int a4, .int a5, .int a6, .int a7, .ref t1, .ref t2, .ref t3, .ref t4, .ref t5]))] sz)) 0 0 (va_A [(h, .inr (6, [.ref bs, .int 0, .ref td, .int fp, .int f, .int k])), (td, .inr (3, [.int a0, .int a1, .int a2, .int a3, .int a4, .int a5, .int a6, .int a7, .ref t1, .ref t2, .ref t3, .ref t4, .ref t5]))] sz) := by
  refine Met.ofW (cc := cX6_read) (maxL := 1) (ret := (some .int)) (by decide) rfl ?_
  intro p e s m args below meth c s₁ B hml hv
  obtain ⟨rfl, hsz, hP, hK, hD0⟩ := hv
  have hx := B.exec
  have hb := B.bytes
  have hr := B.returns
  have hts := atoms_spec (ws := wsX6_read) B.pre
  have hown : s.vm.findClass RX6 = some m.cls := findClass_of_methodNamed B.named
  have hlocks := B.notSynchronized
  subst hsz
  have hD := hD0.self (sz := s.heap.size)
  generalize hAe : va_A [(h, .inr (6, [.ref bs, .int 0, .ref td, .int fp, .int f, .int k])), (td, .inr (3, [.int a0, .int a1, .int a2, .int a3, .int a4, .int a5, .int a6, .int a7, .ref t1, .ref t2, .ref t3, .ref t4, .ref t5]))] s.heap.size = A at hD ⊢
  have hA : ∀ q : Nat, s.heap.size ≤ q → A q := fun q h => by rw [← hAe]; exact Or.inr h
  have hS : va_S A s.heap s.heap [] := va_S.rf
  have hP : va_P (dC, dI) vwCl [(h, .inr (6, [.ref bs, .int 0, .ref td, .int fp, .int f, .int k])), (td, .inr (3, [.int a0, .int a1, .int a2, .int a3, .int a4, .int a5, .int a6, .int a7, .ref t1, .ref t2, .ref t3, .ref t4, .ref t5]))] s.heap := hP
  have hl := lv_entry ([.ref h]) (n := 1) (Nat.le_of_ble_eq_true rfl)
  rw [lg_entry_eq]
  generalize (lg_sl ([.ref h]) ++ List.replicate (1 - (lg_sl ([.ref h])).length) Slot.unset).toArray = ls at hl ⊢
  have hl : lv_has ls 1 [(0, .ref h)] := hl
  refine lv_aload_n hx hb dX6_read_0 rfl (lv_at hl 0 rfl) ?_
  refine lv_iconst (v := 0) hx hb dX6_read_1 (by decide) ?_
  refine va_put (D := (dC, dI)) (ci := 6) (v := .int 0) (ty := .int) (C := RX6) (T := TX6) (N := 6) hx hb hts i_X6_read_X6 tyX6 tyX6_ok nmX6 hown hK hP hD hS 0 rfl rfl 4 (by decide) (hts (.fieldLink RX6 30 "MillTalk$Tape" "fault" "I") (by decide +kernel)) (fun _ h9 => h9) rfl (by decide +kernel) rfl rfl (Nat.le_of_ble_eq_true rfl) dX6_read_2 (fun H locs hP hD hS => ?_)
  have hP : va_P (dC, dI) vwCl [(h, .inr (6, [.ref bs, .int 0, .ref td, .int fp, .int 0, .int k])), (td, .inr (3, [.int a0, .int a1, .int a2, .int a3, .int a4, .int a5, .int a6, .int a7, .ref t1, .ref t2, .ref t3, .ref t4, .ref t5]))] H := hP
  have hD : va_D A [(h, .inr (6, [.ref bs, .int 0, .ref td, .int fp, .int 0, .int k])), (td, .inr (3, [.int a0, .int a1, .int a2, .int a3, .int a4, .int a5, .int a6, .int a7, .ref t1, .ref t2, .ref t3, .ref t4, .ref t5]))] := hD
  refine lv_aload_n hx hb dX6_read_5 rfl (lv_at hl 0 rfl) ?_
  refine lv_iconst (v := 0) hx hb dX6_read_6 (by decide) ?_
  refine va_put (D := (dC, dI)) (ci := 6) (v := .int 0) (ty := .int) (C := RX6) (T := TX6) (N := 6) hx hb hts i_X6_read_X6 tyX6 tyX6_ok nmX6 hown hK hP hD hS 0 rfl rfl 3 (by decide) (hts (.fieldLink RX6 33 "MillTalk$Tape" "faultPlace" "I") (by decide +kernel)) (fun _ h9 => h9) rfl (by decide +kernel) rfl rfl (Nat.le_of_ble_eq_true rfl) dX6_read_7 (fun H locs hP hD hS => ?_)
  have hP : va_P (dC, dI) vwCl [(h, .inr (6, [.ref bs, .int 0, .ref td, .int 0, .int 0, .int k])), (td, .inr (3, [.int a0, .int a1, .int a2, .int a3, .int a4, .int a5, .int a6, .int a7, .ref t1, .ref t2, .ref t3, .ref t4, .ref t5]))] H := hP
  have hD : va_D A [(h, .inr (6, [.ref bs, .int 0, .ref td, .int 0, .int 0, .int k])), (td, .inr (3, [.int a0, .int a1, .int a2, .int a3, .int a4, .int a5, .int a6, .int a7, .ref t1, .ref t2, .ref t3, .ref t4, .ref t5]))] := hD
  refine lv_aload_n hx hb dX6_read_10 rfl (lv_at hl 0 rfl) ?_
  refine lv_iconst (v := 0) hx hb dX6_read_11 (by decide) ?_
  refine va_put (D := (dC, dI)) (ci := 6) (v := .int 0) (ty := .int) (C := RX6) (T := TX6) (N := 6) hx hb hts i_X6_read_X6 tyX6 tyX6_ok nmX6 hown hK hP hD hS 0 rfl rfl 5 (by decide) (hts (.fieldLink RX6 36 "MillTalk$Tape" "place" "I") (by decide +kernel)) (fun _ h9 => h9) rfl (by decide +kernel) rfl rfl (Nat.le_of_ble_eq_true rfl) dX6_read_12 (fun H locs hP hD hS => ?_)
  have hP : va_P (dC, dI) vwCl [(h, .inr (6, [.ref bs, .int 0, .ref td, .int 0, .int 0, .int 0])), (td, .inr (3, [.int a0, .int a1, .int a2, .int a3, .int a4, .int a5, .int a6, .int a7, .ref t1, .ref t2, .ref t3, .ref t4, .ref t5]))] H := hP
  have hD : va_D A [(h, .inr (6, [.ref bs, .int 0, .ref td, .int 0, .int 0, .int 0])), (td, .inr (3, [.int a0, .int a1, .int a2, .int a3, .int a4, .int a5, .int a6, .int a7, .ref t1, .ref t2, .ref t3, .ref t4, .ref t5]))] := hD
  refine lv_aload_n hx hb dX6_read_15 rfl (lv_at hl 0 rfl) ?_
  refine va_get (D := (dC, dI)) (ci := 6) (v := .ref td) (C := RX6) (T := TX6) (N := 6) hx hb hts i_X6_read_X6 hown hK hP 0 rfl rfl 2 (by decide) (hts (.fieldLink RX6 18 "MillTalk$Tape" "told" "LMillTalk$Level;") (by decide +kernel)) (fun _ h9 => h9) rfl dX6_read_16 ?_
  have hPc_1 := hP.sub (ws' := [(td, .inr (3, [.int a0, .int a1, .int a2, .int a3, .int a4, .int a5, .int a6, .int a7, .ref t1, .ref t2, .ref t3, .ref t4, .ref t5]))]) [1] rfl
  have hDc_1 := hD.sub (ws' := [(td, .inr (3, [.int a0, .int a1, .int a2, .int a3, .int a4, .int a5, .int a6, .int a7, .ref t1, .ref t2, .ref t3, .ref t4, .ref t5]))]) [1] (by decide) rfl
  have hFc_1 := va_free (wc := [(td, .inr (3, [.int a0, .int a1, .int a2, .int a3, .int a4, .int a5, .int a6, .int a7, .ref t1, .ref t2, .ref t3, .ref t4, .ref t5]))]) hD hS hA [1] rfl
  refine va_callv (va_runV (As := []) (rest := []) ⟨hx, hb, hml, hown, hts⟩ (c_X3_begin l dC dI cI cZ cL cJ H.size td a0 a1 a2 a3 a4 a5 a6 a7 t1 t2 t3 t4 t5 ) (cwV 0 hts gX6_read_X3_begin rfl rfl rfl (by decide +kernel) ⟨Nat.le_of_ble_eq_true rfl, Nat.le_of_ble_eq_true rfl⟩) ⟨fun a U g mk q => by obtain ⟨q0, q1, qP, qK, qD⟩ := q; exact ⟨q0, q1, qP, va_K.moved (u := U) (U := U.calling g mk a) (Vm.Alike.refl U.vm) qK, qD⟩, va_recv hK hP (ci := 3) (q0 := 1) rfl rfl, fun U hU hW => ⟨rfl, by rw [hU], by rw [hU]; exact hPc_1, va_K.moved hW.alike hK, hDc_1.weaken (fun _ _ _ _ => trivial)⟩⟩ rfl rfl hl.1 rfl (lv_room (Nat.le_of_ble_eq_true rfl)) dX6_read_19 ⟨Nat.le_of_ble_eq_true rfl, Nat.le_of_ble_eq_true rfl⟩) hS (fun q _ h => hFc_1 q h) hFc_1 (fun u_1 t_1 H1 locs ht hvm h_1 hB hz1 hk1 hS => ?_)
  obtain ⟨hP1, hD1⟩ := hB
  rw [ht] at hP1
  obtain ⟨hP, hD⟩ := va_join (wr := [(h, .inr (6, [.ref bs, .int 0, .ref td, .int 0, .int 0, .int 0]))]) (w1 := [(td, .inr (3, [.int 0, .int 0, .int 0, .int 1, .int 0, .int 0, .int 0, .int 0, .ref t1, .ref t2, .ref t3, .ref t4, .ref t5]))]) hP hD [1] [0] rfl rfl (by decide) (by decide) hk1 hFc_1 hP1 hD1
  generalize H1 = H at hP hS ⊢
  have hP : va_P (dC, dI) vwCl [(h, .inr (6, [.ref bs, .int 0, .ref td, .int 0, .int 0, .int 0])), (td, .inr (3, [.int 0, .int 0, .int 0, .int 1, .int 0, .int 0, .int 0, .int 0, .ref t1, .ref t2, .ref t3, .ref t4, .ref t5]))] H := hP
  have hD : va_D A [(h, .inr (6, [.ref bs, .int 0, .ref td, .int 0, .int 0, .int 0])), (td, .inr (3, [.int 0, .int 0, .int 0, .int 1, .int 0, .int 0, .int 0, .int 0, .ref t1, .ref t2, .ref t3, .ref t4, .ref t5]))] := hD
  refine lv_aload_n hx hb dX6_read_22 rfl (lv_at hl 0 rfl) ?_
  have hPc_2 := hP.sub (ws' := [(h, .inr (6, [.ref bs, .int 0, .ref td, .int 0, .int 0, .int 0])), (td, .inr (3, [.int 0, .int 0, .int 0, .int 1, .int 0, .int 0, .int 0, .int 0, .ref t1, .ref t2, .ref t3, .ref t4, .ref t5]))]) [0, 1] rfl
  have hDc_2 := hD.sub (ws' := [(h, .inr (6, [.ref bs, .int 0, .ref td, .int 0, .int 0, .int 0])), (td, .inr (3, [.int 0, .int 0, .int 0, .int 1, .int 0, .int 0, .int 0, .int 0, .ref t1, .ref t2, .ref t3, .ref t4, .ref t5]))]) [0, 1] (by decide) rfl
  have hFc_2 := va_free (wc := [(h, .inr (6, [.ref bs, .int 0, .ref td, .int 0, .int 0, .int 0])), (td, .inr (3, [.int 0, .int 0, .int 0, .int 1, .int 0, .int 0, .int 0, .int 0, .ref t1, .ref t2, .ref t3, .ref t4, .ref t5]))]) hD hS hA [0, 1] rfl
  refine va_callv (va_runV (As := []) (rest := []) ⟨hx, hb, hml, hown, hts⟩ (c_X6_readLaw l dC dI cI cZ cL cJ H.size h bs td 0 0 0 0 0 1 0 0 0 0 t1 t2 t3 t4 t5 ) (cwV 0 hts gX6_read_X6_readLaw rfl rfl rfl (by decide +kernel) ⟨Nat.le_of_ble_eq_true rfl, Nat.le_of_ble_eq_true rfl⟩) ⟨fun a U g mk q => by obtain ⟨q0, q1, qP, qK, qD⟩ := q; exact ⟨q0, q1, qP, va_K.moved (u := U) (U := U.calling g mk a) (Vm.Alike.refl U.vm) qK, qD⟩, va_recv hK hP (ci := 6) (q0 := 0) rfl rfl, fun U hU hW => ⟨rfl, by rw [hU], by rw [hU]; exact hPc_2, va_K.moved hW.alike hK, hDc_2.weaken (fun _ _ _ _ => trivial)⟩⟩ rfl rfl hl.1 rfl (lv_room (Nat.le_of_ble_eq_true rfl)) dX6_read_23 ⟨Nat.le_of_ble_eq_true rfl, Nat.le_of_ble_eq_true rfl⟩) hS (fun q _ h => hFc_2 q h) hFc_2 (fun u_2 t_2 H1 locs ht hvm h_2 hB hz1 hk1 hS => ?_)
  obtain ⟨hP1, hD1⟩ := hB
  rw [ht] at hP1
  obtain ⟨hP, hD⟩ := va_join (wr := []) (w1 := [(h, .inr (6, [.ref bs, .int 0, .ref td, .int 0, .int 1, .int 0])), (td, .inr (3, [.int 0, .int 0, .int 0, .int 1, .int 0, .int 0, .int 0, .int 0, .ref t1, .ref t2, .ref t3, .ref t4, .ref t5]))]) hP hD [0, 1] [] rfl rfl (by decide) (by decide) hk1 hFc_2 hP1 hD1
  generalize H1 = H at hP hS ⊢
  have hP : va_P (dC, dI) vwCl [(h, .inr (6, [.ref bs, .int 0, .ref td, .int 0, .int 1, .int 0])), (td, .inr (3, [.int 0, .int 0, .int 0, .int 1, .int 0, .int 0, .int 0, .int 0, .ref t1, .ref t2, .ref t3, .ref t4, .ref t5]))] H := hP
  have hD : va_D A [(h, .inr (6, [.ref bs, .int 0, .ref td, .int 0, .int 1, .int 0])), (td, .inr (3, [.int 0, .int 0, .int 0, .int 1, .int 0, .int 0, .int 0, .int 0, .ref t1, .ref t2, .ref t3, .ref t4, .ref t5]))] := hD
  refine lv_aload_n hx hb dX6_read_26 rfl (lv_at hl 0 rfl) ?_
  have hPc_3 := hP.sub (ws' := [(h, .inr (6, [.ref bs, .int 0, .ref td, .int 0, .int 1, .int 0]))]) [0] rfl
  refine va_csv (W.runV (As := []) (rest := []) ⟨hx, hb, hml, hown, hts⟩ (c_X6_readWinds1 l dC dI cI cZ cL cJ h bs td 0 0 ) (cwV 0 hts gX6_read_X6_readWinds rfl rfl rfl (by decide +kernel) ⟨Nat.le_of_ble_eq_true rfl, Nat.le_of_ble_eq_true rfl⟩) ⟨fun a U g mk q => by obtain ⟨q0, qP, qK⟩ := q; exact ⟨q0, qP, va_K.moved (u := U) (U := U.calling g mk a) (Vm.Alike.refl U.vm) qK⟩, va_recv hK hP (ci := 6) (q0 := 0) rfl rfl, fun U hU hW => ⟨rfl, by rw [hU]; exact hPc_3, va_K.moved hW.alike hK⟩⟩ rfl rfl hl.1 rfl (lv_room (Nat.le_of_ble_eq_true rfl)) dX6_read_27 ⟨Nat.le_of_ble_eq_true rfl, Nat.le_of_ble_eq_true rfl⟩) (fun _ => ?_)
  refine lv_aload_n hx hb dX6_read_30 rfl (lv_at hl 0 rfl) ?_
  have hPc_4 := hP.sub (ws' := [(h, .inr (6, [.ref bs, .int 0, .ref td, .int 0, .int 1, .int 0])), (td, .inr (3, [.int 0, .int 0, .int 0, .int 1, .int 0, .int 0, .int 0, .int 0, .ref t1, .ref t2, .ref t3, .ref t4, .ref t5]))]) [0, 1] rfl
  have hDc_4 := hD.sub (ws' := [(h, .inr (6, [.ref bs, .int 0, .ref td, .int 0, .int 1, .int 0])), (td, .inr (3, [.int 0, .int 0, .int 0, .int 1, .int 0, .int 0, .int 0, .int 0, .ref t1, .ref t2, .ref t3, .ref t4, .ref t5]))]) [0, 1] (by decide) rfl
  have hFc_4 := va_free (wc := [(h, .inr (6, [.ref bs, .int 0, .ref td, .int 0, .int 1, .int 0])), (td, .inr (3, [.int 0, .int 0, .int 0, .int 1, .int 0, .int 0, .int 0, .int 0, .ref t1, .ref t2, .ref t3, .ref t4, .ref t5]))]) hD hS hA [0, 1] rfl
  refine va_callv (va_runV (As := []) (rest := []) ⟨hx, hb, hml, hown, hts⟩ (c_X6_readSounds1 l dC dI cI cZ cL cJ H.size h bs td 0 0 0 0 0 1 0 0 0 0 t1 t2 t3 t4 t5 ) (cwV 0 hts gX6_read_X6_readSounds rfl rfl rfl (by decide +kernel) ⟨Nat.le_of_ble_eq_true rfl, Nat.le_of_ble_eq_true rfl⟩) ⟨fun a U g mk q => by obtain ⟨q0, q1, qP, qK, qD⟩ := q; exact ⟨q0, q1, qP, va_K.moved (u := U) (U := U.calling g mk a) (Vm.Alike.refl U.vm) qK, qD⟩, va_recv hK hP (ci := 6) (q0 := 0) rfl rfl, fun U hU hW => ⟨rfl, by rw [hU], by rw [hU]; exact hPc_4, va_K.moved hW.alike hK, hDc_4.weaken (fun _ _ _ _ => trivial)⟩⟩ rfl rfl hl.1 rfl (lv_room (Nat.le_of_ble_eq_true rfl)) dX6_read_31 ⟨Nat.le_of_ble_eq_true rfl, Nat.le_of_ble_eq_true rfl⟩) hS (fun q _ h => hFc_4 q h) hFc_4 (fun u_4 t_4 H1 locs ht hvm h_4 hB hz1 hk1 hS => ?_)
  obtain ⟨k2_4, hP1, hD1⟩ := hB
  rw [ht] at hP1
  obtain ⟨hP, hD⟩ := va_join (wr := []) (w1 := [(h, .inr (6, [.ref bs, .int 0, .ref td, .int 0, .int 1, .int k2_4])), (td, .inr (3, [.int 0, .int 0, .int 0, .int 1, .int 0, .int 0, .int 0, .int 0, .ref t1, .ref t2, .ref t3, .ref t4, .ref t5]))]) hP hD [0, 1] [] rfl rfl (by decide) (by decide) hk1 hFc_4 hP1 hD1
  generalize H1 = H at hP hS ⊢
  have hP : va_P (dC, dI) vwCl [(h, .inr (6, [.ref bs, .int 0, .ref td, .int 0, .int 1, .int k2_4])), (td, .inr (3, [.int 0, .int 0, .int 0, .int 1, .int 0, .int 0, .int 0, .int 0, .ref t1, .ref t2, .ref t3, .ref t4, .ref t5]))] H := hP
  have hD : va_D A [(h, .inr (6, [.ref bs, .int 0, .ref td, .int 0, .int 1, .int k2_4])), (td, .inr (3, [.int 0, .int 0, .int 0, .int 1, .int 0, .int 0, .int 0, .int 0, .ref t1, .ref t2, .ref t3, .ref t4, .ref t5]))] := hD
  refine lv_aload_n hx hb dX6_read_34 rfl (lv_at hl 0 rfl) ?_
  refine lv_iconst (v := 0) hx hb dX6_read_35 (by decide) ?_
  refine va_put (D := (dC, dI)) (ci := 6) (v := .int 0) (ty := .int) (C := RX6) (T := TX6) (N := 6) hx hb hts i_X6_read_X6 tyX6 tyX6_ok nmX6 hown hK hP hD hS 0 rfl rfl 1 (by decide) (hts (.fieldLink RX6 22 "MillTalk$Tape" "size" "I") (by decide +kernel)) (fun _ h9 => h9) rfl (by decide +kernel) rfl rfl (Nat.le_of_ble_eq_true rfl) dX6_read_36 (fun H locs hP hD hS => ?_)
  have hP : va_P (dC, dI) vwCl [(h, .inr (6, [.ref bs, .int 0, .ref td, .int 0, .int 1, .int k2_4])), (td, .inr (3, [.int 0, .int 0, .int 0, .int 1, .int 0, .int 0, .int 0, .int 0, .ref t1, .ref t2, .ref t3, .ref t4, .ref t5]))] H := hP
  have hD : va_D A [(h, .inr (6, [.ref bs, .int 0, .ref td, .int 0, .int 1, .int k2_4])), (td, .inr (3, [.int 0, .int 0, .int 0, .int 1, .int 0, .int 0, .int 0, .int 0, .ref t1, .ref t2, .ref t3, .ref t4, .ref t5]))] := hD
  refine lv_aload_n hx hb dX6_read_39 rfl (lv_at hl 0 rfl) ?_
  refine va_get (D := (dC, dI)) (ci := 6) (v := .int 1) (C := RX6) (T := TX6) (N := 6) hx hb hts i_X6_read_X6 hown hK hP 0 rfl rfl 4 (by decide) (hts (.fieldLink RX6 30 "MillTalk$Tape" "fault" "I") (by decide +kernel)) (fun _ h9 => h9) rfl dX6_read_40 ?_
  have hP9 := hP.sub (ws' := [(h, .inr (6, [.ref bs, .int 0, .ref td, .int 0, .int 1, .int k2_4]))]) [0] rfl
  have hD9 := hD.sub (ws' := [(h, .inr (6, [.ref bs, .int 0, .ref td, .int 0, .int 1, .int k2_4]))]) [0] (by decide) rfl
  exact W.iret (v := 1) hx hb hr (fun t ht hW => ⟨⟨1, (), rfl, rfl, ⟨k2_4, by rw [ht]; exact hP9, hD9⟩⟩, hS.F ht⟩) hS.2.2 dX6_read_43
