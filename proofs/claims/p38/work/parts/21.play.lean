set_option maxHeartbeats 4000000 in
set_option maxRecDepth 100000 in
theorem r_X4_turn (l : Launch) (dC : Nat → ClassId) (dI : Nat → Nat → Nat) (cI cZ cL cJ : ClassId) (sz : Nat) (p0 : Nat) (hrs : Nat) (h : Nat) (v0 : Int32) (v1 : Int32) (v2 : Int32) (v3 : Int32) (v5 : Int32) (hh : Nat) (ww : Nat) (kk : Nat) (b1 : Nat) (b2 : Nat) (b3 : Nat) (b4 : Nat) (b5 : Nat) (g1 : Nat → Int32) (g2 : Nat → Int32) (g3 : Nat → Int32) (g4 : Nat → Int32) (g5 : Nat → Int32) (k0 : Nat) (x : Int32) (hr20 : hrs ≤ 20) (hhb : hh ≤ 999) (hww : ww ≤ 6) (hkk : kk ≤ 6) : Met l yX4_turn wsX4_turn ({ frames := 1, cells := 0, slots := 0, locals := 21 }) (va_Pc [.ref p0, .int x] (fun U => U.heap.size = sz ∧ va_P (dC, dI) vwCl [(xo_4_rri p0 h k0 (nI hrs)), (xo_3_iiiiiiiirrrrr h v0 v1 v2 v3 (nI hh) v5 (nI ww) (nI kk) b1 b2 b3 b4 b5), (xI b1 cI 6 g1), (xI b2 cI 6 g2), (xI b3 cI 6 g3), (xI b4 cI 6 g4), (xI b5 cI 6 g5)] U.heap ∧ va_K (dC, dI) vwCl [(cI, .int), (cZ, .boolean), (cL, .object RX3), (cJ, .array .int)] U ∧ va_D (fun _ => True) [(xo_4_rri p0 h k0 (nI hrs)), (xo_3_iiiiiiiirrrrr h v0 v1 v2 v3 (nI hh) v5 (nI ww) (nI kk) b1 b2 b3 b4 b5), (xI b1 cI 6 g1), (xI b2 cI 6 g2), (xI b3 cI 6 g3), (xI b4 cI 6 g4), (xI b5 cI 6 g5)])) (va_Qv (fun (_ : Unit) => True) (fun (_ : Unit) t => ∃ (v3n : Int32) (g1n : Nat → Int32), va_P (dC, dI) vwCl [(xo_4_rri p0 h k0 (nI hrs)), (xo_3_iiiiiiiirrrrr h v0 v1 v2 v3n (nI hh) v5 (nI ww) (nI kk) b1 b2 b3 b4 b5), (xI b1 cI 6 g1n), (xI b2 cI 6 g2), (xI b3 cI 6 g3), (xI b4 cI 6 g4), (xI b5 cI 6 g5)] t.heap ∧ va_D (va_A [(xo_4_rri p0 h k0 (nI hrs)), (xo_3_iiiiiiiirrrrr h v0 v1 v2 v3 (nI hh) v5 (nI ww) (nI kk) b1 b2 b3 b4 b5), (xI b1 cI 6 g1), (xI b2 cI 6 g2), (xI b3 cI 6 g3), (xI b4 cI 6 g4), (xI b5 cI 6 g5)] sz) [(xo_4_rri p0 h k0 (nI hrs)), (xo_3_iiiiiiiirrrrr h v0 v1 v2 v3n (nI hh) v5 (nI ww) (nI kk) b1 b2 b3 b4 b5), (xI b1 cI 6 g1n), (xI b2 cI 6 g2), (xI b3 cI 6 g3), (xI b4 cI 6 g4), (xI b5 cI 6 g5)]) (va_A [(xo_4_rri p0 h k0 (nI hrs)), (xo_3_iiiiiiiirrrrr h v0 v1 v2 v3 (nI hh) v5 (nI ww) (nI kk) b1 b2 b3 b4 b5), (xI b1 cI 6 g1), (xI b2 cI 6 g2), (xI b3 cI 6 g3), (xI b4 cI 6 g4), (xI b5 cI 6 g5)] sz)) 0 0 (va_A [(xo_4_rri p0 h k0 (nI hrs)), (xo_3_iiiiiiiirrrrr h v0 v1 v2 v3 (nI hh) v5 (nI ww) (nI kk) b1 b2 b3 b4 b5), (xI b1 cI 6 g1), (xI b2 cI 6 g2), (xI b3 cI 6 g3), (xI b4 cI 6 g4), (xI b5 cI 6 g5)] sz) := by
  refine Met.ofW (cc := cX4_turn) (maxL := 2) (ret := none) (by decide) rfl ?_
  intro p e s m args below meth c s₁ B hml hv
  obtain ⟨rfl, hsz, hP, hK, hD0⟩ := hv
  have hx := B.exec
  have hb := B.bytes
  have hr := B.returns
  have hts := atoms_spec (ws := wsX4_turn) B.pre
  have hown : s.vm.findClass RX4 = some m.cls := findClass_of_methodNamed B.named
  have hlocks := B.notSynchronized
  subst hsz
  have hD := hD0.self (sz := s.heap.size)
  generalize hAe : va_A [(xo_4_rri p0 h k0 (nI hrs)), (xo_3_iiiiiiiirrrrr h v0 v1 v2 v3 (nI hh) v5 (nI ww) (nI kk) b1 b2 b3 b4 b5), (xI b1 cI 6 g1), (xI b2 cI 6 g2), (xI b3 cI 6 g3), (xI b4 cI 6 g4), (xI b5 cI 6 g5)] s.heap.size = A at hD ⊢
  have hA : ∀ q : Nat, s.heap.size ≤ q → A q := fun q h => by rw [← hAe]; exact Or.inr h
  have hS : va_S A s.heap s.heap [] := va_S.rf
  have hP : va_P (dC, dI) vwCl [(xo_4_rri p0 h k0 (nI hrs)), (xo_3_iiiiiiiirrrrr h v0 v1 v2 v3 (nI hh) v5 (nI ww) (nI kk) b1 b2 b3 b4 b5), (xI b1 cI 6 g1), (xI b2 cI 6 g2), (xI b3 cI 6 g3), (xI b4 cI 6 g4), (xI b5 cI 6 g5)] s.heap := hP
  have hl := lv_entry ([.ref p0, .int x]) (n := 2) (Nat.le_of_ble_eq_true rfl)
  rw [lg_entry_eq]
  generalize (lg_sl ([.ref p0, .int x]) ++ List.replicate (2 - (lg_sl ([.ref p0, .int x])).length) Slot.unset).toArray = ls at hl ⊢
  have hl : lv_has ls 2 [(0, .ref p0), (1, .int x)] := hl
  refine lv_iload_n hx hb dX4_turn_0 rfl (lv_at hl 1 rfl) ?_
  refine lv_if_eq (tgt := 14) hx hb dX4_turn_1 (by decide) (fun c_1 => ?_) (fun c_1 => ?_)
  · skip
    refine lv_aload_n hx hb dX4_turn_14 rfl (lv_at hl 0 rfl) ?_
    refine va_get (D := (dC, dI)) (ci := 4) (v := .ref h) (C := RX4) (T := TX4) (N := 3) hx hb hts i_X4_turn_X4 hown hK hP 0 rfl rfl 0 (by decide) (hts _ mx_X4_turn_1) (fun _ h9 => h9) rfl dX4_turn_15 ?_
    have hc_2 := cutW (wc := [(xo_3_iiiiiiiirrrrr h v0 v1 v2 v3 (nI hh) v5 (nI ww) (nI kk) b1 b2 b3 b4 b5), (xI b1 cI 6 g1), (xI b2 cI 6 g2), (xI b3 cI 6 g3), (xI b4 cI 6 g4), (xI b5 cI 6 g5)]) hP hD hS hA [1, 2, 3, 4, 5, 6] (by decide +kernel) rfl
    refine va_callv (va_runV (As := []) (rest := []) ⟨hx, hb, hml, hown, hts⟩ (r_X3_turnWind l dC dI cI cZ cL cJ s.heap.size h v0 v1 v2 v3 v5 hh ww kk b1 b2 b3 b4 b5 g1 g2 g3 g4 g5 (by omega) (hww) (hkk)) (cwV 0 hts gX4_turn_X3_turnWind rfl rfl rfl (by decide +kernel) ⟨Nat.le_of_ble_eq_true rfl, Nat.le_of_ble_eq_true rfl⟩) (pvW 3 1 hK hP rfl rfl hc_2) rfl rfl hl.1 rfl (lv_room (Nat.le_of_ble_eq_true rfl)) dX4_turn_18 ⟨Nat.le_of_ble_eq_true rfl, Nat.le_of_ble_eq_true rfl⟩) hS (fun q _ h => hc_2.2.2 q h) hc_2.2.2 (fun u_2 t_2 H1 locs ht hvm h_2 hB hz1 hk1 hS => ?_)
    refine xl_1_3 hB (fun g1n_2 hP1 hD1 hF_2_0 => ?_)
    clear hB
    rw [ht] at hP1
    obtain ⟨hP, hD⟩ := va_join (wr := [(xo_4_rri p0 h k0 (nI hrs))]) (w1 := [(xo_3_iiiiiiiirrrrr h v0 v1 v2 v3 (nI hh) v5 (nI ww) (nI kk) b1 b2 b3 b4 b5), (xI b1 cI 6 g1n_2), (xI b2 cI 6 g2), (xI b3 cI 6 g3), (xI b4 cI 6 g4), (xI b5 cI 6 g5)]) hP hD [1, 2, 3, 4, 5, 6] [0] rfl rfl (by decide +kernel) (by decide +kernel) hk1 hc_2.2.2 hP1 hD1
    generalize H1 = H at hP hS ⊢
    have hP : va_P (dC, dI) vwCl [(xo_4_rri p0 h k0 (nI hrs)), (xo_3_iiiiiiiirrrrr h v0 v1 v2 v3 (nI hh) v5 (nI ww) (nI kk) b1 b2 b3 b4 b5), (xI b1 cI 6 g1n_2), (xI b2 cI 6 g2), (xI b3 cI 6 g3), (xI b4 cI 6 g4), (xI b5 cI 6 g5)] H := hP
    have hD := dto hP hD
    have hX9 := cut2 (wc := [(xo_4_rri p0 h k0 (nI hrs)), (xo_3_iiiiiiiirrrrr h v0 v1 v2 v3 (nI hh) v5 (nI ww) (nI kk) b1 b2 b3 b4 b5), (xI b1 cI 6 g1n_2), (xI b2 cI 6 g2), (xI b3 cI 6 g3), (xI b4 cI 6 g4), (xI b5 cI 6 g5)]) hP hD [0, 1, 2, 3, 4, 5, 6] (by decide +kernel) rfl
    exact W.vret hx hb hr (fun t ht hW => ⟨⟨(), rfl, trivial, ⟨v3, g1n_2, va_Ht ht hX9.1, hX9.2⟩⟩, hS.F ht⟩) hS.2.2 dX4_turn_21
  · skip
    refine lv_aload_n hx hb dX4_turn_4 rfl (lv_at hl 0 rfl) ?_
    refine va_get (D := (dC, dI)) (ci := 4) (v := .ref h) (C := RX4) (T := TX4) (N := 3) hx hb hts i_X4_turn_X4 hown hK hP 0 rfl rfl 0 (by decide) (hts _ mx_X4_turn_1) (fun _ h9 => h9) rfl dX4_turn_5 ?_
    have hc_3 := cutW (wc := [(xo_3_iiiiiiiirrrrr h v0 v1 v2 v3 (nI hh) v5 (nI ww) (nI kk) b1 b2 b3 b4 b5), (xI b1 cI 6 g1), (xI b2 cI 6 g2), (xI b3 cI 6 g3), (xI b4 cI 6 g4), (xI b5 cI 6 g5)]) hP hD hS hA [1, 2, 3, 4, 5, 6] (by decide +kernel) rfl
    refine va_callv (va_runV (As := []) (rest := []) ⟨hx, hb, hml, hown, hts⟩ (r_X3_turnCap l dC dI cI cZ cL cJ s.heap.size h v0 v1 v2 v3 v5 hh ww kk b1 b2 b3 b4 b5 g1 g2 g3 g4 g5 (by omega) (hww) (hkk)) (cwV 0 hts gX4_turn_X3_turnCap rfl rfl rfl (by decide +kernel) ⟨Nat.le_of_ble_eq_true rfl, Nat.le_of_ble_eq_true rfl⟩) (pvW 3 1 hK hP rfl rfl hc_3) rfl rfl hl.1 rfl (lv_room (Nat.le_of_ble_eq_true rfl)) dX4_turn_8 ⟨Nat.le_of_ble_eq_true rfl, Nat.le_of_ble_eq_true rfl⟩) hS (fun q _ h => hc_3.2.2 q h) hc_3.2.2 (fun u_3 t_3 H1 locs ht hvm h_3 hB hz1 hk1 hS => ?_)
    refine xl_1_3 hB (fun v3n_3 hP1 hD1 hF_3_0 => ?_)
    clear hB
    rw [ht] at hP1
    obtain ⟨hP, hD⟩ := va_join (wr := [(xo_4_rri p0 h k0 (nI hrs))]) (w1 := [(xo_3_iiiiiiiirrrrr h v0 v1 v2 v3n_3 (nI hh) v5 (nI ww) (nI kk) b1 b2 b3 b4 b5), (xI b1 cI 6 g1), (xI b2 cI 6 g2), (xI b3 cI 6 g3), (xI b4 cI 6 g4), (xI b5 cI 6 g5)]) hP hD [1, 2, 3, 4, 5, 6] [0] rfl rfl (by decide +kernel) (by decide +kernel) hk1 hc_3.2.2 hP1 hD1
    generalize H1 = H at hP hS ⊢
    have hP : va_P (dC, dI) vwCl [(xo_4_rri p0 h k0 (nI hrs)), (xo_3_iiiiiiiirrrrr h v0 v1 v2 v3n_3 (nI hh) v5 (nI ww) (nI kk) b1 b2 b3 b4 b5), (xI b1 cI 6 g1), (xI b2 cI 6 g2), (xI b3 cI 6 g3), (xI b4 cI 6 g4), (xI b5 cI 6 g5)] H := hP
    have hD := dto hP hD
    refine lv_goto (tgt := 21) hx hb dX4_turn_11 (by decide) ?_
    have hX9 := cut2 (wc := [(xo_4_rri p0 h k0 (nI hrs)), (xo_3_iiiiiiiirrrrr h v0 v1 v2 v3n_3 (nI hh) v5 (nI ww) (nI kk) b1 b2 b3 b4 b5), (xI b1 cI 6 g1), (xI b2 cI 6 g2), (xI b3 cI 6 g3), (xI b4 cI 6 g4), (xI b5 cI 6 g5)]) hP hD [0, 1, 2, 3, 4, 5, 6] (by decide +kernel) rfl
    exact W.vret hx hb hr (fun t ht hW => ⟨⟨(), rfl, trivial, ⟨v3n_3, g1, va_Ht ht hX9.1, hX9.2⟩⟩, hS.F ht⟩) hS.2.2 dX4_turn_21
set_option maxHeartbeats 4000000 in
set_option maxRecDepth 100000 in
theorem r_X4_bestFor_0 (l : Launch) (dC : Nat → ClassId) (dI : Nat → Nat → Nat) (cI cZ cL cJ : ClassId) (sz : Nat) (p0 : Nat) (hrs : Nat) (h : Nat) (v0 : Int32) (v1 : Int32) (v2 : Int32) (v3 : Int32) (v5 : Int32) (hh : Nat) (ww : Nat) (kk : Nat) (b1 : Nat) (b2 : Nat) (b3 : Nat) (b4 : Nat) (b5 : Nat) (g1 : Nat → Int32) (g2 : Nat → Int32) (g3 : Nat → Int32) (g4 : Nat → Int32) (g5 : Nat → Int32) (k0 : Nat) (u0 : Int32) (u1 : Int32) (u2 : Int32) (u3 : Int32) (u4 : Int32) (u5 : Int32) (u6 : Int32) (u7 : Int32) (o1 : Nat) (o2 : Nat) (o3 : Nat) (o4 : Nat) (o5 : Nat) (f1 : Nat → Int32) (f2 : Nat → Int32) (f3 : Nat → Int32) (f4 : Nat → Int32) (f5 : Nat → Int32) (x : Int32) (hr20 : hrs ≤ 20) (hhb : hh ≤ 999) (hww : ww ≤ 6) (hkk : kk ≤ 6) : Met l yX4_bestFor wsX4_bestFor ({ frames := 5, cells := 0, slots := 0, locals := 110 }) (va_Pc [.ref p0, .int x, .int 0] (fun U => U.heap.size = sz ∧ va_P (dC, dI) vwCl [(xo_4_rri p0 h k0 (nI hrs)), (xo_3_iiiiiiiirrrrr h v0 v1 v2 v3 (nI hh) v5 (nI ww) (nI kk) b1 b2 b3 b4 b5), (xI b1 cI 6 g1), (xI b2 cI 6 g2), (xI b3 cI 6 g3), (xI b4 cI 6 g4), (xI b5 cI 6 g5), (xo_3_iiiiiiiirrrrr k0 u0 u1 u2 u3 u4 u5 u6 u7 o1 o2 o3 o4 o5), (xI o1 cI 6 f1), (xI o2 cI 6 f2), (xI o3 cI 6 f3), (xI o4 cI 6 f4), (xI o5 cI 6 f5)] U.heap ∧ va_K (dC, dI) vwCl [(cI, .int), (cZ, .boolean), (cL, .object RX3), (cJ, .array .int)] U ∧ va_D (fun _ => True) [(xo_4_rri p0 h k0 (nI hrs)), (xo_3_iiiiiiiirrrrr h v0 v1 v2 v3 (nI hh) v5 (nI ww) (nI kk) b1 b2 b3 b4 b5), (xI b1 cI 6 g1), (xI b2 cI 6 g2), (xI b3 cI 6 g3), (xI b4 cI 6 g4), (xI b5 cI 6 g5), (xo_3_iiiiiiiirrrrr k0 u0 u1 u2 u3 u4 u5 u6 u7 o1 o2 o3 o4 o5), (xI o1 cI 6 f1), (xI o2 cI 6 f2), (xI o3 cI 6 f3), (xI o4 cI 6 f4), (xI o5 cI 6 f5)])) (va_Qi (fun r (_ : Unit) => True) (fun (_ : Unit) t => ∃ (v3n : Int32) (u0n : Int32) (u1n : Int32) (u2n : Int32) (u3n : Int32) (u4n : Int32) (u5n : Int32) (u6n : Int32) (u7n : Int32) (g1n : Nat → Int32) (f1n : Nat → Int32) (f2n : Nat → Int32) (f3n : Nat → Int32) (f4n : Nat → Int32) (f5n : Nat → Int32), va_P (dC, dI) vwCl [(xo_4_rri p0 h k0 (nI hrs)), (xo_3_iiiiiiiirrrrr h v0 v1 v2 v3n (nI hh) v5 (nI ww) (nI kk) b1 b2 b3 b4 b5), (xI b1 cI 6 g1n), (xI b2 cI 6 g2), (xI b3 cI 6 g3), (xI b4 cI 6 g4), (xI b5 cI 6 g5), (xo_3_iiiiiiiirrrrr k0 u0n u1n u2n u3n u4n u5n u6n u7n o1 o2 o3 o4 o5), (xI o1 cI 6 f1n), (xI o2 cI 6 f2n), (xI o3 cI 6 f3n), (xI o4 cI 6 f4n), (xI o5 cI 6 f5n)] t.heap ∧ va_D (va_A [(xo_4_rri p0 h k0 (nI hrs)), (xo_3_iiiiiiiirrrrr h v0 v1 v2 v3 (nI hh) v5 (nI ww) (nI kk) b1 b2 b3 b4 b5), (xI b1 cI 6 g1), (xI b2 cI 6 g2), (xI b3 cI 6 g3), (xI b4 cI 6 g4), (xI b5 cI 6 g5), (xo_3_iiiiiiiirrrrr k0 u0 u1 u2 u3 u4 u5 u6 u7 o1 o2 o3 o4 o5), (xI o1 cI 6 f1), (xI o2 cI 6 f2), (xI o3 cI 6 f3), (xI o4 cI 6 f4), (xI o5 cI 6 f5)] sz) [(xo_4_rri p0 h k0 (nI hrs)), (xo_3_iiiiiiiirrrrr h v0 v1 v2 v3n (nI hh) v5 (nI ww) (nI kk) b1 b2 b3 b4 b5), (xI b1 cI 6 g1n), (xI b2 cI 6 g2), (xI b3 cI 6 g3), (xI b4 cI 6 g4), (xI b5 cI 6 g5), (xo_3_iiiiiiiirrrrr k0 u0n u1n u2n u3n u4n u5n u6n u7n o1 o2 o3 o4 o5), (xI o1 cI 6 f1n), (xI o2 cI 6 f2n), (xI o3 cI 6 f3n), (xI o4 cI 6 f4n), (xI o5 cI 6 f5n)]) (va_A [(xo_4_rri p0 h k0 (nI hrs)), (xo_3_iiiiiiiirrrrr h v0 v1 v2 v3 (nI hh) v5 (nI ww) (nI kk) b1 b2 b3 b4 b5), (xI b1 cI 6 g1), (xI b2 cI 6 g2), (xI b3 cI 6 g3), (xI b4 cI 6 g4), (xI b5 cI 6 g5), (xo_3_iiiiiiiirrrrr k0 u0 u1 u2 u3 u4 u5 u6 u7 o1 o2 o3 o4 o5), (xI o1 cI 6 f1), (xI o2 cI 6 f2), (xI o3 cI 6 f3), (xI o4 cI 6 f4), (xI o5 cI 6 f5)] sz)) 0 0 (va_A [(xo_4_rri p0 h k0 (nI hrs)), (xo_3_iiiiiiiirrrrr h v0 v1 v2 v3 (nI hh) v5 (nI ww) (nI kk) b1 b2 b3 b4 b5), (xI b1 cI 6 g1), (xI b2 cI 6 g2), (xI b3 cI 6 g3), (xI b4 cI 6 g4), (xI b5 cI 6 g5), (xo_3_iiiiiiiirrrrr k0 u0 u1 u2 u3 u4 u5 u6 u7 o1 o2 o3 o4 o5), (xI o1 cI 6 f1), (xI o2 cI 6 f2), (xI o3 cI 6 f3), (xI o4 cI 6 f4), (xI o5 cI 6 f5)] sz) := by
  refine Met.ofW (cc := cX4_bestFor) (maxL := 5) (ret := (some .int)) (by decide) rfl ?_
  intro p e s m args below meth c s₁ B hml hv
  obtain ⟨rfl, hsz, hP, hK, hD0⟩ := hv
  have hx := B.exec
  have hb := B.bytes
  have hr := B.returns
  have hts := atoms_spec (ws := wsX4_bestFor) B.pre
  have hown : s.vm.findClass RX4 = some m.cls := findClass_of_methodNamed B.named
  have hlocks := B.notSynchronized
  subst hsz
  have hD := hD0.self (sz := s.heap.size)
  generalize hAe : va_A [(xo_4_rri p0 h k0 (nI hrs)), (xo_3_iiiiiiiirrrrr h v0 v1 v2 v3 (nI hh) v5 (nI ww) (nI kk) b1 b2 b3 b4 b5), (xI b1 cI 6 g1), (xI b2 cI 6 g2), (xI b3 cI 6 g3), (xI b4 cI 6 g4), (xI b5 cI 6 g5), (xo_3_iiiiiiiirrrrr k0 u0 u1 u2 u3 u4 u5 u6 u7 o1 o2 o3 o4 o5), (xI o1 cI 6 f1), (xI o2 cI 6 f2), (xI o3 cI 6 f3), (xI o4 cI 6 f4), (xI o5 cI 6 f5)] s.heap.size = A at hD ⊢
  have hA : ∀ q : Nat, s.heap.size ≤ q → A q := fun q h => by rw [← hAe]; exact Or.inr h
  have hS : va_S A s.heap s.heap [] := va_S.rf
  have hP : va_P (dC, dI) vwCl [(xo_4_rri p0 h k0 (nI hrs)), (xo_3_iiiiiiiirrrrr h v0 v1 v2 v3 (nI hh) v5 (nI ww) (nI kk) b1 b2 b3 b4 b5), (xI b1 cI 6 g1), (xI b2 cI 6 g2), (xI b3 cI 6 g3), (xI b4 cI 6 g4), (xI b5 cI 6 g5), (xo_3_iiiiiiiirrrrr k0 u0 u1 u2 u3 u4 u5 u6 u7 o1 o2 o3 o4 o5), (xI o1 cI 6 f1), (xI o2 cI 6 f2), (xI o3 cI 6 f3), (xI o4 cI 6 f4), (xI o5 cI 6 f5)] s.heap := hP
  have hl := lv_entry ([.ref p0, .int x, .int 0]) (n := 5) (Nat.le_of_ble_eq_true rfl)
  rw [lg_entry_eq]
  generalize (lg_sl ([.ref p0, .int x, .int 0]) ++ List.replicate (5 - (lg_sl ([.ref p0, .int x, .int 0])).length) Slot.unset).toArray = ls at hl ⊢
  have hl : lv_has ls 5 [(0, .ref p0), (1, .int x), (2, .int 0)] := hl
  refine lv_iload_n hx hb dX4_bestFor_0 rfl (lv_at hl 2 rfl) ?_
  refine lv_if_gt (tgt := 27) hx hb dX4_bestFor_1 (by decide) (fun c_ => absurd c_ (by decide)) (fun _ => ?_)
  refine lv_aload_n hx hb dX4_bestFor_4 rfl (lv_at hl 0 rfl) ?_
  refine va_get (D := (dC, dI)) (ci := 4) (v := .ref k0) (C := RX4) (T := TX4) (N := 3) hx hb hts i_X4_bestFor_X4 hown hK hP 0 rfl rfl 1 (by decide) (hts _ mx_X4_bestFor_1) (fun _ h9 => h9) rfl dX4_bestFor_5 ?_
  refine lv_aload_n hx hb dX4_bestFor_8 rfl (lv_at hl 0 rfl) ?_
  refine va_get (D := (dC, dI)) (ci := 4) (v := .ref h) (C := RX4) (T := TX4) (N := 3) hx hb hts i_X4_bestFor_X4 hown hK hP 0 rfl rfl 0 (by decide) (hts _ mx_X4_bestFor_2) (fun _ h9 => h9) rfl dX4_bestFor_9 ?_
  have hc_2 := cutW (wc := [(xo_3_iiiiiiiirrrrr k0 u0 u1 u2 u3 u4 u5 u6 u7 o1 o2 o3 o4 o5), (xI o1 cI 6 f1), (xI o2 cI 6 f2), (xI o3 cI 6 f3), (xI o4 cI 6 f4), (xI o5 cI 6 f5), (xo_3_iiiiiiiirrrrr h v0 v1 v2 v3 (nI hh) v5 (nI ww) (nI kk) b1 b2 b3 b4 b5), (xI b1 cI 6 g1), (xI b2 cI 6 g2), (xI b3 cI 6 g3), (xI b4 cI 6 g4), (xI b5 cI 6 g5)]) hP hD hS hA [7, 8, 9, 10, 11, 12, 1, 2, 3, 4, 5, 6] (by decide +kernel) rfl
  refine va_callv (va_runV (As := [.ref h]) (rest := []) ⟨hx, hb, hml, hown, hts⟩ (r_X3_becomeLike l dC dI cI cZ cL cJ s.heap.size k0 u0 u1 u2 u3 u4 u5 u6 u7 o1 o2 o3 o4 o5 f1 f2 f3 f4 f5 h v0 v1 v2 v3 (nI hh) v5 (nI ww) (nI kk) b1 b2 b3 b4 b5 g1 g2 g3 g4 g5 ) (cwV 1 hts gX4_bestFor_X3_becomeLike rfl rfl rfl (by decide +kernel) ⟨Nat.le_of_ble_eq_true rfl, Nat.le_of_ble_eq_true rfl⟩) (pvW 3 7 hK hP rfl rfl hc_2) rfl rfl hl.1 rfl (lv_room (Nat.le_of_ble_eq_true rfl)) dX4_bestFor_12 ⟨Nat.le_of_ble_eq_true rfl, Nat.le_of_ble_eq_true rfl⟩) hS (fun q _ h => hc_2.2.2 q h) hc_2.2.2 (fun u_2 t_2 H1 locs ht hvm h_2 hB hz1 hk1 hS => ?_)
  refine xl_5_7 hB (fun f1n_2 f2n_2 f3n_2 f4n_2 f5n_2 hP1 hD1 hF_2_0 hF_2_1 hF_2_2 hF_2_3 hF_2_4 => ?_)
  clear hB
  rw [ht] at hP1
  obtain ⟨hP, hD⟩ := va_join (wr := [(xo_4_rri p0 h k0 (nI hrs))]) (w1 := [(xo_3_iiiiiiiirrrrr k0 v0 v1 v2 v3 (nI hh) v5 (nI ww) (nI kk) o1 o2 o3 o4 o5), (xI o1 cI 6 f1n_2), (xI o2 cI 6 f2n_2), (xI o3 cI 6 f3n_2), (xI o4 cI 6 f4n_2), (xI o5 cI 6 f5n_2), (xo_3_iiiiiiiirrrrr h v0 v1 v2 v3 (nI hh) v5 (nI ww) (nI kk) b1 b2 b3 b4 b5), (xI b1 cI 6 g1), (xI b2 cI 6 g2), (xI b3 cI 6 g3), (xI b4 cI 6 g4), (xI b5 cI 6 g5)]) hP hD [7, 8, 9, 10, 11, 12, 1, 2, 3, 4, 5, 6] [0] rfl rfl (by decide +kernel) (by decide +kernel) hk1 hc_2.2.2 hP1 hD1
  generalize H1 = H at hP hS ⊢
  have hP : va_P (dC, dI) vwCl [(xo_4_rri p0 h k0 (nI hrs)), (xo_3_iiiiiiiirrrrr k0 v0 v1 v2 v3 (nI hh) v5 (nI ww) (nI kk) o1 o2 o3 o4 o5), (xI o1 cI 6 f1n_2), (xI o2 cI 6 f2n_2), (xI o3 cI 6 f3n_2), (xI o4 cI 6 f4n_2), (xI o5 cI 6 f5n_2), (xo_3_iiiiiiiirrrrr h v0 v1 v2 v3 (nI hh) v5 (nI ww) (nI kk) b1 b2 b3 b4 b5), (xI b1 cI 6 g1), (xI b2 cI 6 g2), (xI b3 cI 6 g3), (xI b4 cI 6 g4), (xI b5 cI 6 g5)] H := hP
  have hD := dto hP hD
  refine lv_aload_n hx hb dX4_bestFor_15 rfl (lv_at hl 0 rfl) ?_
  refine va_get (D := (dC, dI)) (ci := 4) (v := .ref k0) (C := RX4) (T := TX4) (N := 3) hx hb hts i_X4_bestFor_X4 hown hK hP 0 rfl rfl 1 (by decide) (hts _ mx_X4_bestFor_1) (fun _ h9 => h9) rfl dX4_bestFor_16 ?_
  refine lv_aload_n hx hb dX4_bestFor_19 rfl (lv_at hl 0 rfl) ?_
  refine va_get (D := (dC, dI)) (ci := 4) (v := .int (nI hrs)) (C := RX4) (T := TX4) (N := 3) hx hb hts i_X4_bestFor_X4 hown hK hP 0 rfl rfl 2 (by decide) (hts _ mx_X4_bestFor_3) (fun _ h9 => h9) rfl dX4_bestFor_20 ?_
  have hc_3 := cutW (wc := [(xo_3_iiiiiiiirrrrr k0 v0 v1 v2 v3 (nI hh) v5 (nI ww) (nI kk) o1 o2 o3 o4 o5), (xI o1 cI 6 f1n_2), (xI o2 cI 6 f2n_2), (xI o3 cI 6 f3n_2), (xI o4 cI 6 f4n_2), (xI o5 cI 6 f5n_2)]) hP hD hS hA [1, 2, 3, 4, 5, 6] (by decide +kernel) rfl
  refine va_calli (va_runV (As := [.int (nI hrs)]) (rest := []) ⟨hx, hb, hml, hown, hts⟩ (r_X3_mealBehind l dC dI cI cZ cL cJ H.size k0 v0 v1 v2 v3 v5 hh ww kk o1 o2 o3 o4 o5 f1n_2 f2n_2 f3n_2 f4n_2 f5n_2 hrs (by omega) (hww) (hkk) (by omega)) (cwV 1 hts gX4_bestFor_X3_mealBehind rfl rfl rfl (by decide +kernel) ⟨Nat.le_of_ble_eq_true rfl, Nat.le_of_ble_eq_true rfl⟩) (pvW 3 1 hK hP rfl rfl hc_3) rfl rfl hl.1 rfl (lv_room (Nat.le_of_ble_eq_true rfl)) dX4_bestFor_23 ⟨Nat.le_of_ble_eq_true rfl, Nat.le_of_ble_eq_true rfl⟩) hS (fun q _ h => hc_3.2.2 q h) hc_3.2.2 (fun r_3 u_3 t_3 H1 locs ht hvm h_3 hB hz1 hk1 hS => ?_)
  refine xl_4_3 hB (fun v5n_3 g3n_3 g4n_3 g5n_3 hP1 hD1 hF_3_0 => ?_)
  clear hB
  rw [ht] at hP1
  obtain ⟨hP, hD⟩ := va_join (wr := [(xo_4_rri p0 h k0 (nI hrs)), (xo_3_iiiiiiiirrrrr h v0 v1 v2 v3 (nI hh) v5 (nI ww) (nI kk) b1 b2 b3 b4 b5), (xI b1 cI 6 g1), (xI b2 cI 6 g2), (xI b3 cI 6 g3), (xI b4 cI 6 g4), (xI b5 cI 6 g5)]) (w1 := [(xo_3_iiiiiiiirrrrr k0 v0 v1 v2 v3 (nI (hh + hrs)) v5n_3 (nI ww) (nI kk) o1 o2 o3 o4 o5), (xI o1 cI 6 f1n_2), (xI o2 cI 6 f2n_2), (xI o3 cI 6 g3n_3), (xI o4 cI 6 g4n_3), (xI o5 cI 6 g5n_3)]) hP hD [1, 2, 3, 4, 5, 6] [0, 7, 8, 9, 10, 11, 12] rfl rfl (by decide +kernel) (by decide +kernel) hk1 hc_3.2.2 hP1 hD1
  generalize H1 = H at hP hS ⊢
  have hP : va_P (dC, dI) vwCl [(xo_4_rri p0 h k0 (nI hrs)), (xo_3_iiiiiiiirrrrr h v0 v1 v2 v3 (nI hh) v5 (nI ww) (nI kk) b1 b2 b3 b4 b5), (xI b1 cI 6 g1), (xI b2 cI 6 g2), (xI b3 cI 6 g3), (xI b4 cI 6 g4), (xI b5 cI 6 g5), (xo_3_iiiiiiiirrrrr k0 v0 v1 v2 v3 (nI (hh + hrs)) v5n_3 (nI ww) (nI kk) o1 o2 o3 o4 o5), (xI o1 cI 6 f1n_2), (xI o2 cI 6 f2n_2), (xI o3 cI 6 g3n_3), (xI o4 cI 6 g4n_3), (xI o5 cI 6 g5n_3)] H := hP
  have hD := dto hP hD
  have hX9 := cut2 (wc := [(xo_4_rri p0 h k0 (nI hrs)), (xo_3_iiiiiiiirrrrr h v0 v1 v2 v3 (nI hh) v5 (nI ww) (nI kk) b1 b2 b3 b4 b5), (xI b1 cI 6 g1), (xI b2 cI 6 g2), (xI b3 cI 6 g3), (xI b4 cI 6 g4), (xI b5 cI 6 g5), (xo_3_iiiiiiiirrrrr k0 v0 v1 v2 v3 (nI (hh + hrs)) v5n_3 (nI ww) (nI kk) o1 o2 o3 o4 o5), (xI o1 cI 6 f1n_2), (xI o2 cI 6 f2n_2), (xI o3 cI 6 g3n_3), (xI o4 cI 6 g4n_3), (xI o5 cI 6 g5n_3)]) hP hD [0, 1, 2, 3, 4, 5, 6, 7, 8, 9, 10, 11, 12] (by decide +kernel) rfl
  exact W.iret (v := r_3) hx hb hr (fun t ht hW => ⟨⟨r_3, (), rfl, trivial, ⟨v3, v0, v1, v2, v3, (nI (hh + hrs)), v5n_3, (nI ww), (nI kk), g1, f1n_2, f2n_2, g3n_3, g4n_3, g5n_3, va_Ht ht hX9.1, hX9.2⟩⟩, hS.F ht⟩) hS.2.2 dX4_bestFor_26
set_option maxHeartbeats 4000000 in
set_option maxRecDepth 100000 in
theorem r_X4_bestFor_1 (l : Launch) (dC : Nat → ClassId) (dI : Nat → Nat → Nat) (cI cZ cL cJ : ClassId) (sz : Nat) (p0 : Nat) (hrs : Nat) (h : Nat) (v0 : Int32) (v1 : Int32) (v2 : Int32) (v3 : Int32) (v5 : Int32) (hh : Nat) (ww : Nat) (kk : Nat) (b1 : Nat) (b2 : Nat) (b3 : Nat) (b4 : Nat) (b5 : Nat) (g1 : Nat → Int32) (g2 : Nat → Int32) (g3 : Nat → Int32) (g4 : Nat → Int32) (g5 : Nat → Int32) (k0 : Nat) (u0 : Int32) (u1 : Int32) (u2 : Int32) (u3 : Int32) (u4 : Int32) (u5 : Int32) (u6 : Int32) (u7 : Int32) (o1 : Nat) (o2 : Nat) (o3 : Nat) (o4 : Nat) (o5 : Nat) (f1 : Nat → Int32) (f2 : Nat → Int32) (f3 : Nat → Int32) (f4 : Nat → Int32) (f5 : Nat → Int32) (x : Int32) (hr20 : hrs ≤ 20) (hhb : hh ≤ 999) (hww : ww ≤ 6) (hkk : kk ≤ 6) : Met l yX4_bestFor wsX4_bestFor ({ frames := 6, cells := 0, slots := 0, locals := 134 }) (va_Pc [.ref p0, .int x, .int 1] (fun U => U.heap.size = sz ∧ va_P (dC, dI) vwCl [(xo_4_rri p0 h k0 (nI hrs)), (xo_3_iiiiiiiirrrrr h v0 v1 v2 v3 (nI hh) v5 (nI ww) (nI kk) b1 b2 b3 b4 b5), (xI b1 cI 6 g1), (xI b2 cI 6 g2), (xI b3 cI 6 g3), (xI b4 cI 6 g4), (xI b5 cI 6 g5), (xo_3_iiiiiiiirrrrr k0 u0 u1 u2 u3 u4 u5 u6 u7 o1 o2 o3 o4 o5), (xI o1 cI 6 f1), (xI o2 cI 6 f2), (xI o3 cI 6 f3), (xI o4 cI 6 f4), (xI o5 cI 6 f5)] U.heap ∧ va_K (dC, dI) vwCl [(cI, .int), (cZ, .boolean), (cL, .object RX3), (cJ, .array .int)] U ∧ va_D (fun _ => True) [(xo_4_rri p0 h k0 (nI hrs)), (xo_3_iiiiiiiirrrrr h v0 v1 v2 v3 (nI hh) v5 (nI ww) (nI kk) b1 b2 b3 b4 b5), (xI b1 cI 6 g1), (xI b2 cI 6 g2), (xI b3 cI 6 g3), (xI b4 cI 6 g4), (xI b5 cI 6 g5), (xo_3_iiiiiiiirrrrr k0 u0 u1 u2 u3 u4 u5 u6 u7 o1 o2 o3 o4 o5), (xI o1 cI 6 f1), (xI o2 cI 6 f2), (xI o3 cI 6 f3), (xI o4 cI 6 f4), (xI o5 cI 6 f5)])) (va_Qi (fun r (_ : Unit) => True) (fun (_ : Unit) t => ∃ (v3n : Int32) (u0n : Int32) (u1n : Int32) (u2n : Int32) (u3n : Int32) (u4n : Int32) (u5n : Int32) (u6n : Int32) (u7n : Int32) (g1n : Nat → Int32) (f1n : Nat → Int32) (f2n : Nat → Int32) (f3n : Nat → Int32) (f4n : Nat → Int32) (f5n : Nat → Int32), va_P (dC, dI) vwCl [(xo_4_rri p0 h k0 (nI hrs)), (xo_3_iiiiiiiirrrrr h v0 v1 v2 v3n (nI hh) v5 (nI ww) (nI kk) b1 b2 b3 b4 b5), (xI b1 cI 6 g1n), (xI b2 cI 6 g2), (xI b3 cI 6 g3), (xI b4 cI 6 g4), (xI b5 cI 6 g5), (xo_3_iiiiiiiirrrrr k0 u0n u1n u2n u3n u4n u5n u6n u7n o1 o2 o3 o4 o5), (xI o1 cI 6 f1n), (xI o2 cI 6 f2n), (xI o3 cI 6 f3n), (xI o4 cI 6 f4n), (xI o5 cI 6 f5n)] t.heap ∧ va_D (va_A [(xo_4_rri p0 h k0 (nI hrs)), (xo_3_iiiiiiiirrrrr h v0 v1 v2 v3 (nI hh) v5 (nI ww) (nI kk) b1 b2 b3 b4 b5), (xI b1 cI 6 g1), (xI b2 cI 6 g2), (xI b3 cI 6 g3), (xI b4 cI 6 g4), (xI b5 cI 6 g5), (xo_3_iiiiiiiirrrrr k0 u0 u1 u2 u3 u4 u5 u6 u7 o1 o2 o3 o4 o5), (xI o1 cI 6 f1), (xI o2 cI 6 f2), (xI o3 cI 6 f3), (xI o4 cI 6 f4), (xI o5 cI 6 f5)] sz) [(xo_4_rri p0 h k0 (nI hrs)), (xo_3_iiiiiiiirrrrr h v0 v1 v2 v3n (nI hh) v5 (nI ww) (nI kk) b1 b2 b3 b4 b5), (xI b1 cI 6 g1n), (xI b2 cI 6 g2), (xI b3 cI 6 g3), (xI b4 cI 6 g4), (xI b5 cI 6 g5), (xo_3_iiiiiiiirrrrr k0 u0n u1n u2n u3n u4n u5n u6n u7n o1 o2 o3 o4 o5), (xI o1 cI 6 f1n), (xI o2 cI 6 f2n), (xI o3 cI 6 f3n), (xI o4 cI 6 f4n), (xI o5 cI 6 f5n)]) (va_A [(xo_4_rri p0 h k0 (nI hrs)), (xo_3_iiiiiiiirrrrr h v0 v1 v2 v3 (nI hh) v5 (nI ww) (nI kk) b1 b2 b3 b4 b5), (xI b1 cI 6 g1), (xI b2 cI 6 g2), (xI b3 cI 6 g3), (xI b4 cI 6 g4), (xI b5 cI 6 g5), (xo_3_iiiiiiiirrrrr k0 u0 u1 u2 u3 u4 u5 u6 u7 o1 o2 o3 o4 o5), (xI o1 cI 6 f1), (xI o2 cI 6 f2), (xI o3 cI 6 f3), (xI o4 cI 6 f4), (xI o5 cI 6 f5)] sz)) 0 0 (va_A [(xo_4_rri p0 h k0 (nI hrs)), (xo_3_iiiiiiiirrrrr h v0 v1 v2 v3 (nI hh) v5 (nI ww) (nI kk) b1 b2 b3 b4 b5), (xI b1 cI 6 g1), (xI b2 cI 6 g2), (xI b3 cI 6 g3), (xI b4 cI 6 g4), (xI b5 cI 6 g5), (xo_3_iiiiiiiirrrrr k0 u0 u1 u2 u3 u4 u5 u6 u7 o1 o2 o3 o4 o5), (xI o1 cI 6 f1), (xI o2 cI 6 f2), (xI o3 cI 6 f3), (xI o4 cI 6 f4), (xI o5 cI 6 f5)] sz) := by
  refine Met.ofW (cc := cX4_bestFor) (maxL := 5) (ret := (some .int)) (by decide) rfl ?_
  intro p e s m args below meth c s₁ B hml hv
  obtain ⟨rfl, hsz, hP, hK, hD0⟩ := hv
  have hx := B.exec
  have hb := B.bytes
  have hr := B.returns
  have hts := atoms_spec (ws := wsX4_bestFor) B.pre
  have hown : s.vm.findClass RX4 = some m.cls := findClass_of_methodNamed B.named
  have hlocks := B.notSynchronized
  subst hsz
  have hD := hD0.self (sz := s.heap.size)
  generalize hAe : va_A [(xo_4_rri p0 h k0 (nI hrs)), (xo_3_iiiiiiiirrrrr h v0 v1 v2 v3 (nI hh) v5 (nI ww) (nI kk) b1 b2 b3 b4 b5), (xI b1 cI 6 g1), (xI b2 cI 6 g2), (xI b3 cI 6 g3), (xI b4 cI 6 g4), (xI b5 cI 6 g5), (xo_3_iiiiiiiirrrrr k0 u0 u1 u2 u3 u4 u5 u6 u7 o1 o2 o3 o4 o5), (xI o1 cI 6 f1), (xI o2 cI 6 f2), (xI o3 cI 6 f3), (xI o4 cI 6 f4), (xI o5 cI 6 f5)] s.heap.size = A at hD ⊢
  have hA : ∀ q : Nat, s.heap.size ≤ q → A q := fun q h => by rw [← hAe]; exact Or.inr h
  have hS : va_S A s.heap s.heap [] := va_S.rf
  have hP : va_P (dC, dI) vwCl [(xo_4_rri p0 h k0 (nI hrs)), (xo_3_iiiiiiiirrrrr h v0 v1 v2 v3 (nI hh) v5 (nI ww) (nI kk) b1 b2 b3 b4 b5), (xI b1 cI 6 g1), (xI b2 cI 6 g2), (xI b3 cI 6 g3), (xI b4 cI 6 g4), (xI b5 cI 6 g5), (xo_3_iiiiiiiirrrrr k0 u0 u1 u2 u3 u4 u5 u6 u7 o1 o2 o3 o4 o5), (xI o1 cI 6 f1), (xI o2 cI 6 f2), (xI o3 cI 6 f3), (xI o4 cI 6 f4), (xI o5 cI 6 f5)] s.heap := hP
  have hl := lv_entry ([.ref p0, .int x, .int 1]) (n := 5) (Nat.le_of_ble_eq_true rfl)
  rw [lg_entry_eq]
  generalize (lg_sl ([.ref p0, .int x, .int 1]) ++ List.replicate (5 - (lg_sl ([.ref p0, .int x, .int 1])).length) Slot.unset).toArray = ls at hl ⊢
  have hl : lv_has ls 5 [(0, .ref p0), (1, .int x), (2, .int 1)] := hl
  refine lv_iload_n hx hb dX4_bestFor_0 rfl (lv_at hl 2 rfl) ?_
  refine lv_if_gt (tgt := 27) hx hb dX4_bestFor_1 (by decide) (fun _ => ?_) (fun c_ => absurd (by decide) c_)
  refine lv_aload_n hx hb dX4_bestFor_27 rfl (lv_at hl 0 rfl) ?_
  refine lv_iload_n hx hb dX4_bestFor_28 rfl (lv_at hl 1 rfl) ?_
  refine jn (σ := (Int32)) (fun (st : (Int32)) H locs g => match st with | w_3 => ∃ ls : Array Slot, g = F0 m 37 ls [.int w_3, .ref p0] ∧ lv_has ls 5 [(0, .ref p0), (1, .int x), (2, .int 1)] ∧ va_P (dC, dI) vwCl [(xo_4_rri p0 h k0 (nI hrs)), (xo_3_iiiiiiiirrrrr h v0 v1 v2 v3 (nI hh) v5 (nI ww) (nI kk) b1 b2 b3 b4 b5), (xI b1 cI 6 g1), (xI b2 cI 6 g2), (xI b3 cI 6 g3), (xI b4 cI 6 g4), (xI b5 cI 6 g5), (xo_3_iiiiiiiirrrrr k0 u0 u1 u2 u3 u4 u5 u6 u7 o1 o2 o3 o4 o5), (xI o1 cI 6 f1), (xI o2 cI 6 f2), (xI o3 cI 6 f3), (xI o4 cI 6 f4), (xI o5 cI 6 f5)] H ∧ va_D A [(xo_4_rri p0 h k0 (nI hrs)), (xo_3_iiiiiiiirrrrr h v0 v1 v2 v3 (nI hh) v5 (nI ww) (nI kk) b1 b2 b3 b4 b5), (xI b1 cI 6 g1), (xI b2 cI 6 g2), (xI b3 cI 6 g3), (xI b4 cI 6 g4), (xI b5 cI 6 g5), (xo_3_iiiiiiiirrrrr k0 u0 u1 u2 u3 u4 u5 u6 u7 o1 o2 o3 o4 o5), (xI o1 cI 6 f1), (xI o2 cI 6 f2), (xI o3 cI 6 f3), (xI o4 cI 6 f4), (xI o5 cI 6 f5)] ∧ va_S A s.heap H locs) ?_ ?_
  · rintro w_3 H locs _ ⟨ls, rfl, hl, hP, hD, hS⟩
    refine lv_iload_n hx hb dX4_bestFor_37 rfl (lv_at hl 2 rfl) ?_
    refine lv_iconst (v := 1) hx hb dX4_bestFor_38 (by decide) ?_
    refine lv_isub hx hb dX4_bestFor_39 ?_
    refine lv_topi (fun v_5 e_5 => ?_)
    obtain rfl : v_5 = 0 := (e_5).trans (by decide)
    have hc_6 := cutW (wc := [(xo_4_rri p0 h k0 (nI hrs)), (xo_3_iiiiiiiirrrrr h v0 v1 v2 v3 (nI hh) v5 (nI ww) (nI kk) b1 b2 b3 b4 b5), (xI b1 cI 6 g1), (xI b2 cI 6 g2), (xI b3 cI 6 g3), (xI b4 cI 6 g4), (xI b5 cI 6 g5), (xo_3_iiiiiiiirrrrr k0 u0 u1 u2 u3 u4 u5 u6 u7 o1 o2 o3 o4 o5), (xI o1 cI 6 f1), (xI o2 cI 6 f2), (xI o3 cI 6 f3), (xI o4 cI 6 f4), (xI o5 cI 6 f5)]) hP hD hS hA [0, 1, 2, 3, 4, 5, 6, 7, 8, 9, 10, 11, 12] (by decide +kernel) rfl
    refine va_calli (va_runV (As := [.int w_3, .int 0]) (rest := []) ⟨hx, hb, hml, hown, hts⟩ (r_X4_bestFor_0 l dC dI cI cZ cL cJ H.size p0 hrs h v0 v1 v2 v3 v5 hh ww kk b1 b2 b3 b4 b5 g1 g2 g3 g4 g5 k0 u0 u1 u2 u3 u4 u5 u6 u7 o1 o2 o3 o4 o5 f1 f2 f3 f4 f5 w_3 (hr20) (hhb) (hww) (hkk)) (cwV 2 hts gX4_bestFor_X4_bestFor rfl rfl rfl (by decide +kernel) ⟨Nat.le_of_ble_eq_true rfl, Nat.le_of_ble_eq_true rfl⟩) (pvW 4 0 hK hP rfl rfl hc_6) rfl rfl hl.1 rfl (lv_room (Nat.le_of_ble_eq_true rfl)) dX4_bestFor_40 ⟨Nat.le_of_ble_eq_true rfl, Nat.le_of_ble_eq_true rfl⟩) hS (fun q _ h => hc_6.2.2 q h) hc_6.2.2 (fun r_6 u_6 t_6 H1 locs ht hvm h_6 hB hz1 hk1 hS => ?_)
    refine xl_15_2 hB (fun v3n_6 u0n_6 u1n_6 u2n_6 u3n_6 u4n_6 u5n_6 u6n_6 u7n_6 g1n_6 f1n_6 f2n_6 f3n_6 f4n_6 f5n_6 hP1 hD1 => ?_)
    clear hB
    rw [ht] at hP1
    obtain ⟨hP, hD⟩ := va_join (wr := []) (w1 := [(xo_4_rri p0 h k0 (nI hrs)), (xo_3_iiiiiiiirrrrr h v0 v1 v2 v3n_6 (nI hh) v5 (nI ww) (nI kk) b1 b2 b3 b4 b5), (xI b1 cI 6 g1n_6), (xI b2 cI 6 g2), (xI b3 cI 6 g3), (xI b4 cI 6 g4), (xI b5 cI 6 g5), (xo_3_iiiiiiiirrrrr k0 u0n_6 u1n_6 u2n_6 u3n_6 u4n_6 u5n_6 u6n_6 u7n_6 o1 o2 o3 o4 o5), (xI o1 cI 6 f1n_6), (xI o2 cI 6 f2n_6), (xI o3 cI 6 f3n_6), (xI o4 cI 6 f4n_6), (xI o5 cI 6 f5n_6)]) hP hD [0, 1, 2, 3, 4, 5, 6, 7, 8, 9, 10, 11, 12] [] rfl rfl (by decide +kernel) (by decide +kernel) hk1 hc_6.2.2 hP1 hD1
    generalize H1 = H at hP hS ⊢
    have hP : va_P (dC, dI) vwCl [(xo_4_rri p0 h k0 (nI hrs)), (xo_3_iiiiiiiirrrrr h v0 v1 v2 v3n_6 (nI hh) v5 (nI ww) (nI kk) b1 b2 b3 b4 b5), (xI b1 cI 6 g1n_6), (xI b2 cI 6 g2), (xI b3 cI 6 g3), (xI b4 cI 6 g4), (xI b5 cI 6 g5), (xo_3_iiiiiiiirrrrr k0 u0n_6 u1n_6 u2n_6 u3n_6 u4n_6 u5n_6 u6n_6 u7n_6 o1 o2 o3 o4 o5), (xI o1 cI 6 f1n_6), (xI o2 cI 6 f2n_6), (xI o3 cI 6 f3n_6), (xI o4 cI 6 f4n_6), (xI o5 cI 6 f5n_6)] H := hP
    have hD := dto hP hD
    refine lv_istore_n (lv' := [(3, .int r_6), (0, .ref p0), (1, .int x), (2, .int 1)]) hx hb dX4_bestFor_43 rfl hl (by decide) rfl (fun ls hl => ?_)
    refine lv_aload_n hx hb dX4_bestFor_44 rfl (lv_at hl 1 rfl) ?_
    refine lv_iload_n hx hb dX4_bestFor_45 rfl (lv_at hl 2 rfl) ?_
    have hc_7 := cutW (wc := [(xo_4_rri p0 h k0 (nI hrs)), (xo_3_iiiiiiiirrrrr h v0 v1 v2 v3n_6 (nI hh) v5 (nI ww) (nI kk) b1 b2 b3 b4 b5), (xI b1 cI 6 g1n_6), (xI b2 cI 6 g2), (xI b3 cI 6 g3), (xI b4 cI 6 g4), (xI b5 cI 6 g5)]) hP hD hS hA [0, 1, 2, 3, 4, 5, 6] (by decide +kernel) rfl
    refine va_callv (va_runV (As := [.int x]) (rest := []) ⟨hx, hb, hml, hown, hts⟩ (r_X4_turn l dC dI cI cZ cL cJ H.size p0 hrs h v0 v1 v2 v3n_6 v5 hh ww kk b1 b2 b3 b4 b5 g1n_6 g2 g3 g4 g5 k0 x (hr20) (hhb) (hww) (hkk)) (cwV 1 hts gX4_bestFor_X4_turn rfl rfl rfl (by decide +kernel) ⟨Nat.le_of_ble_eq_true rfl, Nat.le_of_ble_eq_true rfl⟩) (pvW 4 0 hK hP rfl rfl hc_7) rfl rfl hl.1 rfl (lv_room (Nat.le_of_ble_eq_true rfl)) dX4_bestFor_46 ⟨Nat.le_of_ble_eq_true rfl, Nat.le_of_ble_eq_true rfl⟩) hS (fun q _ h => hc_7.2.2 q h) hc_7.2.2 (fun u_7 t_7 H1 locs ht hvm h_7 hB hz1 hk1 hS => ?_)
    refine xl_2_2 hB (fun v3n_7 g1n_7 hP1 hD1 => ?_)
    clear hB
    rw [ht] at hP1
    obtain ⟨hP, hD⟩ := va_join (wr := [(xo_3_iiiiiiiirrrrr k0 u0n_6 u1n_6 u2n_6 u3n_6 u4n_6 u5n_6 u6n_6 u7n_6 o1 o2 o3 o4 o5), (xI o1 cI 6 f1n_6), (xI o2 cI 6 f2n_6), (xI o3 cI 6 f3n_6), (xI o4 cI 6 f4n_6), (xI o5 cI 6 f5n_6)]) (w1 := [(xo_4_rri p0 h k0 (nI hrs)), (xo_3_iiiiiiiirrrrr h v0 v1 v2 v3n_7 (nI hh) v5 (nI ww) (nI kk) b1 b2 b3 b4 b5), (xI b1 cI 6 g1n_7), (xI b2 cI 6 g2), (xI b3 cI 6 g3), (xI b4 cI 6 g4), (xI b5 cI 6 g5)]) hP hD [0, 1, 2, 3, 4, 5, 6] [7, 8, 9, 10, 11, 12] rfl rfl (by decide +kernel) (by decide +kernel) hk1 hc_7.2.2 hP1 hD1
    generalize H1 = H at hP hS ⊢
    have hP : va_P (dC, dI) vwCl [(xo_3_iiiiiiiirrrrr k0 u0n_6 u1n_6 u2n_6 u3n_6 u4n_6 u5n_6 u6n_6 u7n_6 o1 o2 o3 o4 o5), (xI o1 cI 6 f1n_6), (xI o2 cI 6 f2n_6), (xI o3 cI 6 f3n_6), (xI o4 cI 6 f4n_6), (xI o5 cI 6 f5n_6), (xo_4_rri p0 h k0 (nI hrs)), (xo_3_iiiiiiiirrrrr h v0 v1 v2 v3n_7 (nI hh) v5 (nI ww) (nI kk) b1 b2 b3 b4 b5), (xI b1 cI 6 g1n_7), (xI b2 cI 6 g2), (xI b3 cI 6 g3), (xI b4 cI 6 g4), (xI b5 cI 6 g5)] H := hP
    have hD := dto hP hD
    refine lv_aload_n hx hb dX4_bestFor_49 rfl (lv_at hl 1 rfl) ?_
    refine lv_iload_n hx hb dX4_bestFor_50 rfl (lv_at hl 2 rfl) ?_
    refine jn (σ := (Int32)) (fun (st : (Int32)) H locs g => match st with | w_9 => ∃ ls : Array Slot, g = F0 m 59 ls [.int w_9, .ref p0] ∧ lv_has ls 5 [(3, .int r_6), (0, .ref p0), (1, .int x), (2, .int 1)] ∧ va_P (dC, dI) vwCl [(xo_3_iiiiiiiirrrrr k0 u0n_6 u1n_6 u2n_6 u3n_6 u4n_6 u5n_6 u6n_6 u7n_6 o1 o2 o3 o4 o5), (xI o1 cI 6 f1n_6), (xI o2 cI 6 f2n_6), (xI o3 cI 6 f3n_6), (xI o4 cI 6 f4n_6), (xI o5 cI 6 f5n_6), (xo_4_rri p0 h k0 (nI hrs)), (xo_3_iiiiiiiirrrrr h v0 v1 v2 v3n_7 (nI hh) v5 (nI ww) (nI kk) b1 b2 b3 b4 b5), (xI b1 cI 6 g1n_7), (xI b2 cI 6 g2), (xI b3 cI 6 g3), (xI b4 cI 6 g4), (xI b5 cI 6 g5)] H ∧ va_D A [(xo_3_iiiiiiiirrrrr k0 u0n_6 u1n_6 u2n_6 u3n_6 u4n_6 u5n_6 u6n_6 u7n_6 o1 o2 o3 o4 o5), (xI o1 cI 6 f1n_6), (xI o2 cI 6 f2n_6), (xI o3 cI 6 f3n_6), (xI o4 cI 6 f4n_6), (xI o5 cI 6 f5n_6), (xo_4_rri p0 h k0 (nI hrs)), (xo_3_iiiiiiiirrrrr h v0 v1 v2 v3n_7 (nI hh) v5 (nI ww) (nI kk) b1 b2 b3 b4 b5), (xI b1 cI 6 g1n_7), (xI b2 cI 6 g2), (xI b3 cI 6 g3), (xI b4 cI 6 g4), (xI b5 cI 6 g5)] ∧ va_S A s.heap H locs) ?_ ?_
    · rintro w_9 H locs _ ⟨ls, rfl, hl, hP, hD, hS⟩
      refine lv_iload_n hx hb dX4_bestFor_59 rfl (lv_at hl 3 rfl) ?_
      refine lv_iconst (v := 1) hx hb dX4_bestFor_60 (by decide) ?_
      refine lv_isub hx hb dX4_bestFor_61 ?_
      refine lv_topi (fun v_11 e_11 => ?_)
      obtain rfl : v_11 = 0 := (e_11).trans (by decide)
      have hc_12 := cutW (wc := [(xo_4_rri p0 h k0 (nI hrs)), (xo_3_iiiiiiiirrrrr h v0 v1 v2 v3n_7 (nI hh) v5 (nI ww) (nI kk) b1 b2 b3 b4 b5), (xI b1 cI 6 g1n_7), (xI b2 cI 6 g2), (xI b3 cI 6 g3), (xI b4 cI 6 g4), (xI b5 cI 6 g5), (xo_3_iiiiiiiirrrrr k0 u0n_6 u1n_6 u2n_6 u3n_6 u4n_6 u5n_6 u6n_6 u7n_6 o1 o2 o3 o4 o5), (xI o1 cI 6 f1n_6), (xI o2 cI 6 f2n_6), (xI o3 cI 6 f3n_6), (xI o4 cI 6 f4n_6), (xI o5 cI 6 f5n_6)]) hP hD hS hA [6, 7, 8, 9, 10, 11, 12, 0, 1, 2, 3, 4, 5] (by decide +kernel) rfl
      refine va_calli (va_runV (As := [.int w_9, .int 0]) (rest := []) ⟨hx, hb, hml, hown, hts⟩ (r_X4_bestFor_0 l dC dI cI cZ cL cJ H.size p0 hrs h v0 v1 v2 v3n_7 v5 hh ww kk b1 b2 b3 b4 b5 g1n_7 g2 g3 g4 g5 k0 u0n_6 u1n_6 u2n_6 u3n_6 u4n_6 u5n_6 u6n_6 u7n_6 o1 o2 o3 o4 o5 f1n_6 f2n_6 f3n_6 f4n_6 f5n_6 w_9 (hr20) (hhb) (hww) (hkk)) (cwV 2 hts gX4_bestFor_X4_bestFor rfl rfl rfl (by decide +kernel) ⟨Nat.le_of_ble_eq_true rfl, Nat.le_of_ble_eq_true rfl⟩) (pvW 4 6 hK hP rfl rfl hc_12) rfl rfl hl.1 rfl (lv_room (Nat.le_of_ble_eq_true rfl)) dX4_bestFor_62 ⟨Nat.le_of_ble_eq_true rfl, Nat.le_of_ble_eq_true rfl⟩) hS (fun q _ h => hc_12.2.2 q h) hc_12.2.2 (fun r_12 u_12 t_12 H1 locs ht hvm h_12 hB hz1 hk1 hS => ?_)
      refine xl_15_2 hB (fun v3n_12 u0n_12 u1n_12 u2n_12 u3n_12 u4n_12 u5n_12 u6n_12 u7n_12 g1n_12 f1n_12 f2n_12 f3n_12 f4n_12 f5n_12 hP1 hD1 => ?_)
      clear hB
      rw [ht] at hP1
      obtain ⟨hP, hD⟩ := va_join (wr := []) (w1 := [(xo_4_rri p0 h k0 (nI hrs)), (xo_3_iiiiiiiirrrrr h v0 v1 v2 v3n_12 (nI hh) v5 (nI ww) (nI kk) b1 b2 b3 b4 b5), (xI b1 cI 6 g1n_12), (xI b2 cI 6 g2), (xI b3 cI 6 g3), (xI b4 cI 6 g4), (xI b5 cI 6 g5), (xo_3_iiiiiiiirrrrr k0 u0n_12 u1n_12 u2n_12 u3n_12 u4n_12 u5n_12 u6n_12 u7n_12 o1 o2 o3 o4 o5), (xI o1 cI 6 f1n_12), (xI o2 cI 6 f2n_12), (xI o3 cI 6 f3n_12), (xI o4 cI 6 f4n_12), (xI o5 cI 6 f5n_12)]) hP hD [6, 7, 8, 9, 10, 11, 12, 0, 1, 2, 3, 4, 5] [] rfl rfl (by decide +kernel) (by decide +kernel) hk1 hc_12.2.2 hP1 hD1
      generalize H1 = H at hP hS ⊢
      have hP : va_P (dC, dI) vwCl [(xo_4_rri p0 h k0 (nI hrs)), (xo_3_iiiiiiiirrrrr h v0 v1 v2 v3n_12 (nI hh) v5 (nI ww) (nI kk) b1 b2 b3 b4 b5), (xI b1 cI 6 g1n_12), (xI b2 cI 6 g2), (xI b3 cI 6 g3), (xI b4 cI 6 g4), (xI b5 cI 6 g5), (xo_3_iiiiiiiirrrrr k0 u0n_12 u1n_12 u2n_12 u3n_12 u4n_12 u5n_12 u6n_12 u7n_12 o1 o2 o3 o4 o5), (xI o1 cI 6 f1n_12), (xI o2 cI 6 f2n_12), (xI o3 cI 6 f3n_12), (xI o4 cI 6 f4n_12), (xI o5 cI 6 f5n_12)] H := hP
      have hD := dto hP hD
      refine lv_istore (lv' := [(4, .int r_12), (3, .int r_6), (0, .ref p0), (1, .int x), (2, .int 1)]) hx hb dX4_bestFor_65 hl (by decide) rfl (fun ls hl => ?_)
      refine lv_aload_n hx hb dX4_bestFor_67 rfl (lv_at hl 2 rfl) ?_
      refine lv_iload_n hx hb dX4_bestFor_68 rfl (lv_at hl 3 rfl) ?_
      have hc_13 := cutW (wc := [(xo_4_rri p0 h k0 (nI hrs)), (xo_3_iiiiiiiirrrrr h v0 v1 v2 v3n_12 (nI hh) v5 (nI ww) (nI kk) b1 b2 b3 b4 b5), (xI b1 cI 6 g1n_12), (xI b2 cI 6 g2), (xI b3 cI 6 g3), (xI b4 cI 6 g4), (xI b5 cI 6 g5)]) hP hD hS hA [0, 1, 2, 3, 4, 5, 6] (by decide +kernel) rfl
      refine va_callv (va_runV (As := [.int x]) (rest := []) ⟨hx, hb, hml, hown, hts⟩ (r_X4_turn l dC dI cI cZ cL cJ H.size p0 hrs h v0 v1 v2 v3n_12 v5 hh ww kk b1 b2 b3 b4 b5 g1n_12 g2 g3 g4 g5 k0 x (hr20) (hhb) (hww) (hkk)) (cwV 1 hts gX4_bestFor_X4_turn rfl rfl rfl (by decide +kernel) ⟨Nat.le_of_ble_eq_true rfl, Nat.le_of_ble_eq_true rfl⟩) (pvW 4 0 hK hP rfl rfl hc_13) rfl rfl hl.1 rfl (lv_room (Nat.le_of_ble_eq_true rfl)) dX4_bestFor_69 ⟨Nat.le_of_ble_eq_true rfl, Nat.le_of_ble_eq_true rfl⟩) hS (fun q _ h => hc_13.2.2 q h) hc_13.2.2 (fun u_13 t_13 H1 locs ht hvm h_13 hB hz1 hk1 hS => ?_)
      refine xl_2_2 hB (fun v3n_13 g1n_13 hP1 hD1 => ?_)
      clear hB
      rw [ht] at hP1
      obtain ⟨hP, hD⟩ := va_join (wr := [(xo_3_iiiiiiiirrrrr k0 u0n_12 u1n_12 u2n_12 u3n_12 u4n_12 u5n_12 u6n_12 u7n_12 o1 o2 o3 o4 o5), (xI o1 cI 6 f1n_12), (xI o2 cI 6 f2n_12), (xI o3 cI 6 f3n_12), (xI o4 cI 6 f4n_12), (xI o5 cI 6 f5n_12)]) (w1 := [(xo_4_rri p0 h k0 (nI hrs)), (xo_3_iiiiiiiirrrrr h v0 v1 v2 v3n_13 (nI hh) v5 (nI ww) (nI kk) b1 b2 b3 b4 b5), (xI b1 cI 6 g1n_13), (xI b2 cI 6 g2), (xI b3 cI 6 g3), (xI b4 cI 6 g4), (xI b5 cI 6 g5)]) hP hD [0, 1, 2, 3, 4, 5, 6] [7, 8, 9, 10, 11, 12] rfl rfl (by decide +kernel) (by decide +kernel) hk1 hc_13.2.2 hP1 hD1
      generalize H1 = H at hP hS ⊢
      have hP : va_P (dC, dI) vwCl [(xo_3_iiiiiiiirrrrr k0 u0n_12 u1n_12 u2n_12 u3n_12 u4n_12 u5n_12 u6n_12 u7n_12 o1 o2 o3 o4 o5), (xI o1 cI 6 f1n_12), (xI o2 cI 6 f2n_12), (xI o3 cI 6 f3n_12), (xI o4 cI 6 f4n_12), (xI o5 cI 6 f5n_12), (xo_4_rri p0 h k0 (nI hrs)), (xo_3_iiiiiiiirrrrr h v0 v1 v2 v3n_13 (nI hh) v5 (nI ww) (nI kk) b1 b2 b3 b4 b5), (xI b1 cI 6 g1n_13), (xI b2 cI 6 g2), (xI b3 cI 6 g3), (xI b4 cI 6 g4), (xI b5 cI 6 g5)] H := hP
      have hD := dto hP hD
      refine lv_iload_n hx hb dX4_bestFor_72 rfl (lv_at hl 3 rfl) ?_
      refine lv_if_eq (tgt := 85) hx hb dX4_bestFor_73 (by decide) (fun c_14 => ?_) (fun c_14 => ?_)
      · skip
        refine lv_iload_n hx hb dX4_bestFor_85 rfl (lv_at hl 1 rfl) ?_
        refine lv_iload hx hb dX4_bestFor_86 (lv_at hl 0 rfl) ?_
        refine va_mmin hx hb (by rw [hml]; exact hl.1.symm) hown (hts _ mx_X4_bestFor_8) (hts _ mx_X4_bestFor_9) (hts _ mx_X4_bestFor_6) (hts _ mx_X4_bestFor_10) (Nat.le_of_ble_eq_true rfl) (Nat.le_of_ble_eq_true rfl) (Nat.zero_le _) (Nat.zero_le _) dX4_bestFor_88 ?_
        refine lv_topi (fun v_15 e_15 => ?_)
        have hX9 := cut2 (wc := [(xo_4_rri p0 h k0 (nI hrs)), (xo_3_iiiiiiiirrrrr h v0 v1 v2 v3n_13 (nI hh) v5 (nI ww) (nI kk) b1 b2 b3 b4 b5), (xI b1 cI 6 g1n_13), (xI b2 cI 6 g2), (xI b3 cI 6 g3), (xI b4 cI 6 g4), (xI b5 cI 6 g5), (xo_3_iiiiiiiirrrrr k0 u0n_12 u1n_12 u2n_12 u3n_12 u4n_12 u5n_12 u6n_12 u7n_12 o1 o2 o3 o4 o5), (xI o1 cI 6 f1n_12), (xI o2 cI 6 f2n_12), (xI o3 cI 6 f3n_12), (xI o4 cI 6 f4n_12), (xI o5 cI 6 f5n_12)]) hP hD [6, 7, 8, 9, 10, 11, 12, 0, 1, 2, 3, 4, 5] (by decide +kernel) rfl
        exact W.iret (v := v_15) hx hb hr (fun t ht hW => ⟨⟨v_15, (), rfl, trivial, ⟨v3n_13, u0n_12, u1n_12, u2n_12, u3n_12, u4n_12, u5n_12, u6n_12, u7n_12, g1n_13, f1n_12, f2n_12, f3n_12, f4n_12, f5n_12, va_Ht ht hX9.1, hX9.2⟩⟩, hS.F ht⟩) hS.2.2 dX4_bestFor_91
      · skip
        refine lv_iload_n hx hb dX4_bestFor_76 rfl (lv_at hl 1 rfl) ?_
        refine lv_iload hx hb dX4_bestFor_77 (lv_at hl 0 rfl) ?_
        refine va_mmax hx hb (by rw [hml]; exact hl.1.symm) hown (hts _ mx_X4_bestFor_4) (hts _ mx_X4_bestFor_5) (hts _ mx_X4_bestFor_6) (hts _ mx_X4_bestFor_7) (Nat.le_of_ble_eq_true rfl) (Nat.le_of_ble_eq_true rfl) (Nat.zero_le _) (Nat.zero_le _) dX4_bestFor_79 ?_
        refine lv_topi (fun v_16 e_16 => ?_)
        refine lv_goto (tgt := 91) hx hb dX4_bestFor_82 (by decide) ?_
        have hX9 := cut2 (wc := [(xo_4_rri p0 h k0 (nI hrs)), (xo_3_iiiiiiiirrrrr h v0 v1 v2 v3n_13 (nI hh) v5 (nI ww) (nI kk) b1 b2 b3 b4 b5), (xI b1 cI 6 g1n_13), (xI b2 cI 6 g2), (xI b3 cI 6 g3), (xI b4 cI 6 g4), (xI b5 cI 6 g5), (xo_3_iiiiiiiirrrrr k0 u0n_12 u1n_12 u2n_12 u3n_12 u4n_12 u5n_12 u6n_12 u7n_12 o1 o2 o3 o4 o5), (xI o1 cI 6 f1n_12), (xI o2 cI 6 f2n_12), (xI o3 cI 6 f3n_12), (xI o4 cI 6 f4n_12), (xI o5 cI 6 f5n_12)]) hP hD [6, 7, 8, 9, 10, 11, 12, 0, 1, 2, 3, 4, 5] (by decide +kernel) rfl
        exact W.iret (v := v_16) hx hb hr (fun t ht hW => ⟨⟨v_16, (), rfl, trivial, ⟨v3n_13, u0n_12, u1n_12, u2n_12, u3n_12, u4n_12, u5n_12, u6n_12, u7n_12, g1n_13, f1n_12, f2n_12, f3n_12, f4n_12, f5n_12, va_Ht ht hX9.1, hX9.2⟩⟩, hS.F ht⟩) hS.2.2 dX4_bestFor_91
    · intro jk_10
      refine lv_if_ne (tgt := 58) hx hb dX4_bestFor_51 (by decide) (fun c_17 => ?_) (fun c_17 => ?_)
      · skip
        refine lv_iconst (v := 0) hx hb dX4_bestFor_58 (by decide) ?_
        exact jk_10 (0) _ _ _ ⟨ls, rfl, lv_sub hl [0, 1, 2, 3] rfl, hP.sub (ws' := [(xo_3_iiiiiiiirrrrr k0 u0n_6 u1n_6 u2n_6 u3n_6 u4n_6 u5n_6 u6n_6 u7n_6 o1 o2 o3 o4 o5), (xI o1 cI 6 f1n_6), (xI o2 cI 6 f2n_6), (xI o3 cI 6 f3n_6), (xI o4 cI 6 f4n_6), (xI o5 cI 6 f5n_6), (xo_4_rri p0 h k0 (nI hrs)), (xo_3_iiiiiiiirrrrr h v0 v1 v2 v3n_7 (nI hh) v5 (nI ww) (nI kk) b1 b2 b3 b4 b5), (xI b1 cI 6 g1n_7), (xI b2 cI 6 g2), (xI b3 cI 6 g3), (xI b4 cI 6 g4), (xI b5 cI 6 g5)]) [0, 1, 2, 3, 4, 5, 6, 7, 8, 9, 10, 11, 12] rfl, hD.sub (ws' := [(xo_3_iiiiiiiirrrrr k0 u0n_6 u1n_6 u2n_6 u3n_6 u4n_6 u5n_6 u6n_6 u7n_6 o1 o2 o3 o4 o5), (xI o1 cI 6 f1n_6), (xI o2 cI 6 f2n_6), (xI o3 cI 6 f3n_6), (xI o4 cI 6 f4n_6), (xI o5 cI 6 f5n_6), (xo_4_rri p0 h k0 (nI hrs)), (xo_3_iiiiiiiirrrrr h v0 v1 v2 v3n_7 (nI hh) v5 (nI ww) (nI kk) b1 b2 b3 b4 b5), (xI b1 cI 6 g1n_7), (xI b2 cI 6 g2), (xI b3 cI 6 g3), (xI b4 cI 6 g4), (xI b5 cI 6 g5)]) [0, 1, 2, 3, 4, 5, 6, 7, 8, 9, 10, 11, 12] (by decide +kernel) rfl, hS⟩
      · skip
        refine lv_iconst (v := 1) hx hb dX4_bestFor_54 (by decide) ?_
        refine lv_goto (tgt := 59) hx hb dX4_bestFor_55 (by decide) ?_
        exact jk_10 (1) _ _ _ ⟨ls, rfl, lv_sub hl [0, 1, 2, 3] rfl, hP.sub (ws' := [(xo_3_iiiiiiiirrrrr k0 u0n_6 u1n_6 u2n_6 u3n_6 u4n_6 u5n_6 u6n_6 u7n_6 o1 o2 o3 o4 o5), (xI o1 cI 6 f1n_6), (xI o2 cI 6 f2n_6), (xI o3 cI 6 f3n_6), (xI o4 cI 6 f4n_6), (xI o5 cI 6 f5n_6), (xo_4_rri p0 h k0 (nI hrs)), (xo_3_iiiiiiiirrrrr h v0 v1 v2 v3n_7 (nI hh) v5 (nI ww) (nI kk) b1 b2 b3 b4 b5), (xI b1 cI 6 g1n_7), (xI b2 cI 6 g2), (xI b3 cI 6 g3), (xI b4 cI 6 g4), (xI b5 cI 6 g5)]) [0, 1, 2, 3, 4, 5, 6, 7, 8, 9, 10, 11, 12] rfl, hD.sub (ws' := [(xo_3_iiiiiiiirrrrr k0 u0n_6 u1n_6 u2n_6 u3n_6 u4n_6 u5n_6 u6n_6 u7n_6 o1 o2 o3 o4 o5), (xI o1 cI 6 f1n_6), (xI o2 cI 6 f2n_6), (xI o3 cI 6 f3n_6), (xI o4 cI 6 f4n_6), (xI o5 cI 6 f5n_6), (xo_4_rri p0 h k0 (nI hrs)), (xo_3_iiiiiiiirrrrr h v0 v1 v2 v3n_7 (nI hh) v5 (nI ww) (nI kk) b1 b2 b3 b4 b5), (xI b1 cI 6 g1n_7), (xI b2 cI 6 g2), (xI b3 cI 6 g3), (xI b4 cI 6 g4), (xI b5 cI 6 g5)]) [0, 1, 2, 3, 4, 5, 6, 7, 8, 9, 10, 11, 12] (by decide +kernel) rfl, hS⟩
  · intro jk_4
    refine lv_if_ne (tgt := 36) hx hb dX4_bestFor_29 (by decide) (fun c_18 => ?_) (fun c_18 => ?_)
    · skip
      refine lv_iconst (v := 0) hx hb dX4_bestFor_36 (by decide) ?_
      exact jk_4 (0) _ _ _ ⟨ls, rfl, lv_sub hl [0, 1, 2] rfl, hP.sub (ws' := [(xo_4_rri p0 h k0 (nI hrs)), (xo_3_iiiiiiiirrrrr h v0 v1 v2 v3 (nI hh) v5 (nI ww) (nI kk) b1 b2 b3 b4 b5), (xI b1 cI 6 g1), (xI b2 cI 6 g2), (xI b3 cI 6 g3), (xI b4 cI 6 g4), (xI b5 cI 6 g5), (xo_3_iiiiiiiirrrrr k0 u0 u1 u2 u3 u4 u5 u6 u7 o1 o2 o3 o4 o5), (xI o1 cI 6 f1), (xI o2 cI 6 f2), (xI o3 cI 6 f3), (xI o4 cI 6 f4), (xI o5 cI 6 f5)]) [0, 1, 2, 3, 4, 5, 6, 7, 8, 9, 10, 11, 12] rfl, hD.sub (ws' := [(xo_4_rri p0 h k0 (nI hrs)), (xo_3_iiiiiiiirrrrr h v0 v1 v2 v3 (nI hh) v5 (nI ww) (nI kk) b1 b2 b3 b4 b5), (xI b1 cI 6 g1), (xI b2 cI 6 g2), (xI b3 cI 6 g3), (xI b4 cI 6 g4), (xI b5 cI 6 g5), (xo_3_iiiiiiiirrrrr k0 u0 u1 u2 u3 u4 u5 u6 u7 o1 o2 o3 o4 o5), (xI o1 cI 6 f1), (xI o2 cI 6 f2), (xI o3 cI 6 f3), (xI o4 cI 6 f4), (xI o5 cI 6 f5)]) [0, 1, 2, 3, 4, 5, 6, 7, 8, 9, 10, 11, 12] (by decide +kernel) rfl, hS⟩
    · skip
      refine lv_iconst (v := 1) hx hb dX4_bestFor_32 (by decide) ?_
      refine lv_goto (tgt := 37) hx hb dX4_bestFor_33 (by decide) ?_
      exact jk_4 (1) _ _ _ ⟨ls, rfl, lv_sub hl [0, 1, 2] rfl, hP.sub (ws' := [(xo_4_rri p0 h k0 (nI hrs)), (xo_3_iiiiiiiirrrrr h v0 v1 v2 v3 (nI hh) v5 (nI ww) (nI kk) b1 b2 b3 b4 b5), (xI b1 cI 6 g1), (xI b2 cI 6 g2), (xI b3 cI 6 g3), (xI b4 cI 6 g4), (xI b5 cI 6 g5), (xo_3_iiiiiiiirrrrr k0 u0 u1 u2 u3 u4 u5 u6 u7 o1 o2 o3 o4 o5), (xI o1 cI 6 f1), (xI o2 cI 6 f2), (xI o3 cI 6 f3), (xI o4 cI 6 f4), (xI o5 cI 6 f5)]) [0, 1, 2, 3, 4, 5, 6, 7, 8, 9, 10, 11, 12] rfl, hD.sub (ws' := [(xo_4_rri p0 h k0 (nI hrs)), (xo_3_iiiiiiiirrrrr h v0 v1 v2 v3 (nI hh) v5 (nI ww) (nI kk) b1 b2 b3 b4 b5), (xI b1 cI 6 g1), (xI b2 cI 6 g2), (xI b3 cI 6 g3), (xI b4 cI 6 g4), (xI b5 cI 6 g5), (xo_3_iiiiiiiirrrrr k0 u0 u1 u2 u3 u4 u5 u6 u7 o1 o2 o3 o4 o5), (xI o1 cI 6 f1), (xI o2 cI 6 f2), (xI o3 cI 6 f3), (xI o4 cI 6 f4), (xI o5 cI 6 f5)]) [0, 1, 2, 3, 4, 5, 6, 7, 8, 9, 10, 11, 12] (by decide +kernel) rfl, hS⟩
set_option maxHeartbeats 4000000 in
set_option maxRecDepth 100000 in
theorem r_X4_bestFor_2 (l : Launch) (dC : Nat → ClassId) (dI : Nat → Nat → Nat) (cI cZ cL cJ : ClassId) (sz : Nat) (p0 : Nat) (hrs : Nat) (h : Nat) (v0 : Int32) (v1 : Int32) (v2 : Int32) (v3 : Int32) (v5 : Int32) (hh : Nat) (ww : Nat) (kk : Nat) (b1 : Nat) (b2 : Nat) (b3 : Nat) (b4 : Nat) (b5 : Nat) (g1 : Nat → Int32) (g2 : Nat → Int32) (g3 : Nat → Int32) (g4 : Nat → Int32) (g5 : Nat → Int32) (k0 : Nat) (u0 : Int32) (u1 : Int32) (u2 : Int32) (u3 : Int32) (u4 : Int32) (u5 : Int32) (u6 : Int32) (u7 : Int32) (o1 : Nat) (o2 : Nat) (o3 : Nat) (o4 : Nat) (o5 : Nat) (f1 : Nat → Int32) (f2 : Nat → Int32) (f3 : Nat → Int32) (f4 : Nat → Int32) (f5 : Nat → Int32) (x : Int32) (hr20 : hrs ≤ 20) (hhb : hh ≤ 999) (hww : ww ≤ 6) (hkk : kk ≤ 6) : Met l yX4_bestFor wsX4_bestFor ({ frames := 7, cells := 0, slots := 0, locals := 158 }) (va_Pc [.ref p0, .int x, .int 2] (fun U => U.heap.size = sz ∧ va_P (dC, dI) vwCl [(xo_4_rri p0 h k0 (nI hrs)), (xo_3_iiiiiiiirrrrr h v0 v1 v2 v3 (nI hh) v5 (nI ww) (nI kk) b1 b2 b3 b4 b5), (xI b1 cI 6 g1), (xI b2 cI 6 g2), (xI b3 cI 6 g3), (xI b4 cI 6 g4), (xI b5 cI 6 g5), (xo_3_iiiiiiiirrrrr k0 u0 u1 u2 u3 u4 u5 u6 u7 o1 o2 o3 o4 o5), (xI o1 cI 6 f1), (xI o2 cI 6 f2), (xI o3 cI 6 f3), (xI o4 cI 6 f4), (xI o5 cI 6 f5)] U.heap ∧ va_K (dC, dI) vwCl [(cI, .int), (cZ, .boolean), (cL, .object RX3), (cJ, .array .int)] U ∧ va_D (fun _ => True) [(xo_4_rri p0 h k0 (nI hrs)), (xo_3_iiiiiiiirrrrr h v0 v1 v2 v3 (nI hh) v5 (nI ww) (nI kk) b1 b2 b3 b4 b5), (xI b1 cI 6 g1), (xI b2 cI 6 g2), (xI b3 cI 6 g3), (xI b4 cI 6 g4), (xI b5 cI 6 g5), (xo_3_iiiiiiiirrrrr k0 u0 u1 u2 u3 u4 u5 u6 u7 o1 o2 o3 o4 o5), (xI o1 cI 6 f1), (xI o2 cI 6 f2), (xI o3 cI 6 f3), (xI o4 cI 6 f4), (xI o5 cI 6 f5)])) (va_Qi (fun r (_ : Unit) => True) (fun (_ : Unit) t => ∃ (v3n : Int32) (u0n : Int32) (u1n : Int32) (u2n : Int32) (u3n : Int32) (u4n : Int32) (u5n : Int32) (u6n : Int32) (u7n : Int32) (g1n : Nat → Int32) (f1n : Nat → Int32) (f2n : Nat → Int32) (f3n : Nat → Int32) (f4n : Nat → Int32) (f5n : Nat → Int32), va_P (dC, dI) vwCl [(xo_4_rri p0 h k0 (nI hrs)), (xo_3_iiiiiiiirrrrr h v0 v1 v2 v3n (nI hh) v5 (nI ww) (nI kk) b1 b2 b3 b4 b5), (xI b1 cI 6 g1n), (xI b2 cI 6 g2), (xI b3 cI 6 g3), (xI b4 cI 6 g4), (xI b5 cI 6 g5), (xo_3_iiiiiiiirrrrr k0 u0n u1n u2n u3n u4n u5n u6n u7n o1 o2 o3 o4 o5), (xI o1 cI 6 f1n), (xI o2 cI 6 f2n), (xI o3 cI 6 f3n), (xI o4 cI 6 f4n), (xI o5 cI 6 f5n)] t.heap ∧ va_D (va_A [(xo_4_rri p0 h k0 (nI hrs)), (xo_3_iiiiiiiirrrrr h v0 v1 v2 v3 (nI hh) v5 (nI ww) (nI kk) b1 b2 b3 b4 b5), (xI b1 cI 6 g1), (xI b2 cI 6 g2), (xI b3 cI 6 g3), (xI b4 cI 6 g4), (xI b5 cI 6 g5), (xo_3_iiiiiiiirrrrr k0 u0 u1 u2 u3 u4 u5 u6 u7 o1 o2 o3 o4 o5), (xI o1 cI 6 f1), (xI o2 cI 6 f2), (xI o3 cI 6 f3), (xI o4 cI 6 f4), (xI o5 cI 6 f5)] sz) [(xo_4_rri p0 h k0 (nI hrs)), (xo_3_iiiiiiiirrrrr h v0 v1 v2 v3n (nI hh) v5 (nI ww) (nI kk) b1 b2 b3 b4 b5), (xI b1 cI 6 g1n), (xI b2 cI 6 g2), (xI b3 cI 6 g3), (xI b4 cI 6 g4), (xI b5 cI 6 g5), (xo_3_iiiiiiiirrrrr k0 u0n u1n u2n u3n u4n u5n u6n u7n o1 o2 o3 o4 o5), (xI o1 cI 6 f1n), (xI o2 cI 6 f2n), (xI o3 cI 6 f3n), (xI o4 cI 6 f4n), (xI o5 cI 6 f5n)]) (va_A [(xo_4_rri p0 h k0 (nI hrs)), (xo_3_iiiiiiiirrrrr h v0 v1 v2 v3 (nI hh) v5 (nI ww) (nI kk) b1 b2 b3 b4 b5), (xI b1 cI 6 g1), (xI b2 cI 6 g2), (xI b3 cI 6 g3), (xI b4 cI 6 g4), (xI b5 cI 6 g5), (xo_3_iiiiiiiirrrrr k0 u0 u1 u2 u3 u4 u5 u6 u7 o1 o2 o3 o4 o5), (xI o1 cI 6 f1), (xI o2 cI 6 f2), (xI o3 cI 6 f3), (xI o4 cI 6 f4), (xI o5 cI 6 f5)] sz)) 0 0 (va_A [(xo_4_rri p0 h k0 (nI hrs)), (xo_3_iiiiiiiirrrrr h v0 v1 v2 v3 (nI hh) v5 (nI ww) (nI kk) b1 b2 b3 b4 b5), (xI b1 cI 6 g1), (xI b2 cI 6 g2), (xI b3 cI 6 g3), (xI b4 cI 6 g4), (xI b5 cI 6 g5), (xo_3_iiiiiiiirrrrr k0 u0 u1 u2 u3 u4 u5 u6 u7 o1 o2 o3 o4 o5), (xI o1 cI 6 f1), (xI o2 cI 6 f2), (xI o3 cI 6 f3), (xI o4 cI 6 f4), (xI o5 cI 6 f5)] sz) := by
  refine Met.ofW (cc := cX4_bestFor) (maxL := 5) (ret := (some .int)) (by decide) rfl ?_
  intro p e s m args below meth c s₁ B hml hv
  obtain ⟨rfl, hsz, hP, hK, hD0⟩ := hv
  have hx := B.exec
  have hb := B.bytes
  have hr := B.returns
  have hts := atoms_spec (ws := wsX4_bestFor) B.pre
  have hown : s.vm.findClass RX4 = some m.cls := findClass_of_methodNamed B.named
  have hlocks := B.notSynchronized
  subst hsz
  have hD := hD0.self (sz := s.heap.size)
  generalize hAe : va_A [(xo_4_rri p0 h k0 (nI hrs)), (xo_3_iiiiiiiirrrrr h v0 v1 v2 v3 (nI hh) v5 (nI ww) (nI kk) b1 b2 b3 b4 b5), (xI b1 cI 6 g1), (xI b2 cI 6 g2), (xI b3 cI 6 g3), (xI b4 cI 6 g4), (xI b5 cI 6 g5), (xo_3_iiiiiiiirrrrr k0 u0 u1 u2 u3 u4 u5 u6 u7 o1 o2 o3 o4 o5), (xI o1 cI 6 f1), (xI o2 cI 6 f2), (xI o3 cI 6 f3), (xI o4 cI 6 f4), (xI o5 cI 6 f5)] s.heap.size = A at hD ⊢
  have hA : ∀ q : Nat, s.heap.size ≤ q → A q := fun q h => by rw [← hAe]; exact Or.inr h
  have hS : va_S A s.heap s.heap [] := va_S.rf
  have hP : va_P (dC, dI) vwCl [(xo_4_rri p0 h k0 (nI hrs)), (xo_3_iiiiiiiirrrrr h v0 v1 v2 v3 (nI hh) v5 (nI ww) (nI kk) b1 b2 b3 b4 b5), (xI b1 cI 6 g1), (xI b2 cI 6 g2), (xI b3 cI 6 g3), (xI b4 cI 6 g4), (xI b5 cI 6 g5), (xo_3_iiiiiiiirrrrr k0 u0 u1 u2 u3 u4 u5 u6 u7 o1 o2 o3 o4 o5), (xI o1 cI 6 f1), (xI o2 cI 6 f2), (xI o3 cI 6 f3), (xI o4 cI 6 f4), (xI o5 cI 6 f5)] s.heap := hP
  have hl := lv_entry ([.ref p0, .int x, .int 2]) (n := 5) (Nat.le_of_ble_eq_true rfl)
  rw [lg_entry_eq]
  generalize (lg_sl ([.ref p0, .int x, .int 2]) ++ List.replicate (5 - (lg_sl ([.ref p0, .int x, .int 2])).length) Slot.unset).toArray = ls at hl ⊢
  have hl : lv_has ls 5 [(0, .ref p0), (1, .int x), (2, .int 2)] := hl
  refine lv_iload_n hx hb dX4_bestFor_0 rfl (lv_at hl 2 rfl) ?_
  refine lv_if_gt (tgt := 27) hx hb dX4_bestFor_1 (by decide) (fun _ => ?_) (fun c_ => absurd (by decide) c_)
  refine lv_aload_n hx hb dX4_bestFor_27 rfl (lv_at hl 0 rfl) ?_
  refine lv_iload_n hx hb dX4_bestFor_28 rfl (lv_at hl 1 rfl) ?_
  refine jn (σ := (Int32)) (fun (st : (Int32)) H locs g => match st with | w_3 => ∃ ls : Array Slot, g = F0 m 37 ls [.int w_3, .ref p0] ∧ lv_has ls 5 [(0, .ref p0), (1, .int x), (2, .int 2)] ∧ va_P (dC, dI) vwCl [(xo_4_rri p0 h k0 (nI hrs)), (xo_3_iiiiiiiirrrrr h v0 v1 v2 v3 (nI hh) v5 (nI ww) (nI kk) b1 b2 b3 b4 b5), (xI b1 cI 6 g1), (xI b2 cI 6 g2), (xI b3 cI 6 g3), (xI b4 cI 6 g4), (xI b5 cI 6 g5), (xo_3_iiiiiiiirrrrr k0 u0 u1 u2 u3 u4 u5 u6 u7 o1 o2 o3 o4 o5), (xI o1 cI 6 f1), (xI o2 cI 6 f2), (xI o3 cI 6 f3), (xI o4 cI 6 f4), (xI o5 cI 6 f5)] H ∧ va_D A [(xo_4_rri p0 h k0 (nI hrs)), (xo_3_iiiiiiiirrrrr h v0 v1 v2 v3 (nI hh) v5 (nI ww) (nI kk) b1 b2 b3 b4 b5), (xI b1 cI 6 g1), (xI b2 cI 6 g2), (xI b3 cI 6 g3), (xI b4 cI 6 g4), (xI b5 cI 6 g5), (xo_3_iiiiiiiirrrrr k0 u0 u1 u2 u3 u4 u5 u6 u7 o1 o2 o3 o4 o5), (xI o1 cI 6 f1), (xI o2 cI 6 f2), (xI o3 cI 6 f3), (xI o4 cI 6 f4), (xI o5 cI 6 f5)] ∧ va_S A s.heap H locs) ?_ ?_
  · rintro w_3 H locs _ ⟨ls, rfl, hl, hP, hD, hS⟩
    refine lv_iload_n hx hb dX4_bestFor_37 rfl (lv_at hl 2 rfl) ?_
    refine lv_iconst (v := 1) hx hb dX4_bestFor_38 (by decide) ?_
    refine lv_isub hx hb dX4_bestFor_39 ?_
    refine lv_topi (fun v_5 e_5 => ?_)
    obtain rfl : v_5 = 1 := (e_5).trans (by decide)
    have hc_6 := cutW (wc := [(xo_4_rri p0 h k0 (nI hrs)), (xo_3_iiiiiiiirrrrr h v0 v1 v2 v3 (nI hh) v5 (nI ww) (nI kk) b1 b2 b3 b4 b5), (xI b1 cI 6 g1), (xI b2 cI 6 g2), (xI b3 cI 6 g3), (xI b4 cI 6 g4), (xI b5 cI 6 g5), (xo_3_iiiiiiiirrrrr k0 u0 u1 u2 u3 u4 u5 u6 u7 o1 o2 o3 o4 o5), (xI o1 cI 6 f1), (xI o2 cI 6 f2), (xI o3 cI 6 f3), (xI o4 cI 6 f4), (xI o5 cI 6 f5)]) hP hD hS hA [0, 1, 2, 3, 4, 5, 6, 7, 8, 9, 10, 11, 12] (by decide +kernel) rfl
    refine va_calli (va_runV (As := [.int w_3, .int 1]) (rest := []) ⟨hx, hb, hml, hown, hts⟩ (r_X4_bestFor_1 l dC dI cI cZ cL cJ H.size p0 hrs h v0 v1 v2 v3 v5 hh ww kk b1 b2 b3 b4 b5 g1 g2 g3 g4 g5 k0 u0 u1 u2 u3 u4 u5 u6 u7 o1 o2 o3 o4 o5 f1 f2 f3 f4 f5 w_3 (hr20) (hhb) (hww) (hkk)) (cwV 2 hts gX4_bestFor_X4_bestFor rfl rfl rfl (by decide +kernel) ⟨Nat.le_of_ble_eq_true rfl, Nat.le_of_ble_eq_true rfl⟩) (pvW 4 0 hK hP rfl rfl hc_6) rfl rfl hl.1 rfl (lv_room (Nat.le_of_ble_eq_true rfl)) dX4_bestFor_40 ⟨Nat.le_of_ble_eq_true rfl, Nat.le_of_ble_eq_true rfl⟩) hS (fun q _ h => hc_6.2.2 q h) hc_6.2.2 (fun r_6 u_6 t_6 H1 locs ht hvm h_6 hB hz1 hk1 hS => ?_)
    refine xl_15_2 hB (fun v3n_6 u0n_6 u1n_6 u2n_6 u3n_6 u4n_6 u5n_6 u6n_6 u7n_6 g1n_6 f1n_6 f2n_6 f3n_6 f4n_6 f5n_6 hP1 hD1 => ?_)
    clear hB
    rw [ht] at hP1
    obtain ⟨hP, hD⟩ := va_join (wr := []) (w1 := [(xo_4_rri p0 h k0 (nI hrs)), (xo_3_iiiiiiiirrrrr h v0 v1 v2 v3n_6 (nI hh) v5 (nI ww) (nI kk) b1 b2 b3 b4 b5), (xI b1 cI 6 g1n_6), (xI b2 cI 6 g2), (xI b3 cI 6 g3), (xI b4 cI 6 g4), (xI b5 cI 6 g5), (xo_3_iiiiiiiirrrrr k0 u0n_6 u1n_6 u2n_6 u3n_6 u4n_6 u5n_6 u6n_6 u7n_6 o1 o2 o3 o4 o5), (xI o1 cI 6 f1n_6), (xI o2 cI 6 f2n_6), (xI o3 cI 6 f3n_6), (xI o4 cI 6 f4n_6), (xI o5 cI 6 f5n_6)]) hP hD [0, 1, 2, 3, 4, 5, 6, 7, 8, 9, 10, 11, 12] [] rfl rfl (by decide +kernel) (by decide +kernel) hk1 hc_6.2.2 hP1 hD1
    generalize H1 = H at hP hS ⊢
    have hP : va_P (dC, dI) vwCl [(xo_4_rri p0 h k0 (nI hrs)), (xo_3_iiiiiiiirrrrr h v0 v1 v2 v3n_6 (nI hh) v5 (nI ww) (nI kk) b1 b2 b3 b4 b5), (xI b1 cI 6 g1n_6), (xI b2 cI 6 g2), (xI b3 cI 6 g3), (xI b4 cI 6 g4), (xI b5 cI 6 g5), (xo_3_iiiiiiiirrrrr k0 u0n_6 u1n_6 u2n_6 u3n_6 u4n_6 u5n_6 u6n_6 u7n_6 o1 o2 o3 o4 o5), (xI o1 cI 6 f1n_6), (xI o2 cI 6 f2n_6), (xI o3 cI 6 f3n_6), (xI o4 cI 6 f4n_6), (xI o5 cI 6 f5n_6)] H := hP
    have hD := dto hP hD
    refine lv_istore_n (lv' := [(3, .int r_6), (0, .ref p0), (1, .int x), (2, .int 2)]) hx hb dX4_bestFor_43 rfl hl (by decide) rfl (fun ls hl => ?_)
    refine lv_aload_n hx hb dX4_bestFor_44 rfl (lv_at hl 1 rfl) ?_
    refine lv_iload_n hx hb dX4_bestFor_45 rfl (lv_at hl 2 rfl) ?_
    have hc_7 := cutW (wc := [(xo_4_rri p0 h k0 (nI hrs)), (xo_3_iiiiiiiirrrrr h v0 v1 v2 v3n_6 (nI hh) v5 (nI ww) (nI kk) b1 b2 b3 b4 b5), (xI b1 cI 6 g1n_6), (xI b2 cI 6 g2), (xI b3 cI 6 g3), (xI b4 cI 6 g4), (xI b5 cI 6 g5)]) hP hD hS hA [0, 1, 2, 3, 4, 5, 6] (by decide +kernel) rfl
    refine va_callv (va_runV (As := [.int x]) (rest := []) ⟨hx, hb, hml, hown, hts⟩ (r_X4_turn l dC dI cI cZ cL cJ H.size p0 hrs h v0 v1 v2 v3n_6 v5 hh ww kk b1 b2 b3 b4 b5 g1n_6 g2 g3 g4 g5 k0 x (hr20) (hhb) (hww) (hkk)) (cwV 1 hts gX4_bestFor_X4_turn rfl rfl rfl (by decide +kernel) ⟨Nat.le_of_ble_eq_true rfl, Nat.le_of_ble_eq_true rfl⟩) (pvW 4 0 hK hP rfl rfl hc_7) rfl rfl hl.1 rfl (lv_room (Nat.le_of_ble_eq_true rfl)) dX4_bestFor_46 ⟨Nat.le_of_ble_eq_true rfl, Nat.le_of_ble_eq_true rfl⟩) hS (fun q _ h => hc_7.2.2 q h) hc_7.2.2 (fun u_7 t_7 H1 locs ht hvm h_7 hB hz1 hk1 hS => ?_)
    refine xl_2_2 hB (fun v3n_7 g1n_7 hP1 hD1 => ?_)
    clear hB
    rw [ht] at hP1
    obtain ⟨hP, hD⟩ := va_join (wr := [(xo_3_iiiiiiiirrrrr k0 u0n_6 u1n_6 u2n_6 u3n_6 u4n_6 u5n_6 u6n_6 u7n_6 o1 o2 o3 o4 o5), (xI o1 cI 6 f1n_6), (xI o2 cI 6 f2n_6), (xI o3 cI 6 f3n_6), (xI o4 cI 6 f4n_6), (xI o5 cI 6 f5n_6)]) (w1 := [(xo_4_rri p0 h k0 (nI hrs)), (xo_3_iiiiiiiirrrrr h v0 v1 v2 v3n_7 (nI hh) v5 (nI ww) (nI kk) b1 b2 b3 b4 b5), (xI b1 cI 6 g1n_7), (xI b2 cI 6 g2), (xI b3 cI 6 g3), (xI b4 cI 6 g4), (xI b5 cI 6 g5)]) hP hD [0, 1, 2, 3, 4, 5, 6] [7, 8, 9, 10, 11, 12] rfl rfl (by decide +kernel) (by decide +kernel) hk1 hc_7.2.2 hP1 hD1
    generalize H1 = H at hP hS ⊢
    have hP : va_P (dC, dI) vwCl [(xo_3_iiiiiiiirrrrr k0 u0n_6 u1n_6 u2n_6 u3n_6 u4n_6 u5n_6 u6n_6 u7n_6 o1 o2 o3 o4 o5), (xI o1 cI 6 f1n_6), (xI o2 cI 6 f2n_6), (xI o3 cI 6 f3n_6), (xI o4 cI 6 f4n_6), (xI o5 cI 6 f5n_6), (xo_4_rri p0 h k0 (nI hrs)), (xo_3_iiiiiiiirrrrr h v0 v1 v2 v3n_7 (nI hh) v5 (nI ww) (nI kk) b1 b2 b3 b4 b5), (xI b1 cI 6 g1n_7), (xI b2 cI 6 g2), (xI b3 cI 6 g3), (xI b4 cI 6 g4), (xI b5 cI 6 g5)] H := hP
    have hD := dto hP hD
    refine lv_aload_n hx hb dX4_bestFor_49 rfl (lv_at hl 1 rfl) ?_
    refine lv_iload_n hx hb dX4_bestFor_50 rfl (lv_at hl 2 rfl) ?_
    refine jn (σ := (Int32)) (fun (st : (Int32)) H locs g => match st with | w_9 => ∃ ls : Array Slot, g = F0 m 59 ls [.int w_9, .ref p0] ∧ lv_has ls 5 [(3, .int r_6), (0, .ref p0), (1, .int x), (2, .int 2)] ∧ va_P (dC, dI) vwCl [(xo_3_iiiiiiiirrrrr k0 u0n_6 u1n_6 u2n_6 u3n_6 u4n_6 u5n_6 u6n_6 u7n_6 o1 o2 o3 o4 o5), (xI o1 cI 6 f1n_6), (xI o2 cI 6 f2n_6), (xI o3 cI 6 f3n_6), (xI o4 cI 6 f4n_6), (xI o5 cI 6 f5n_6), (xo_4_rri p0 h k0 (nI hrs)), (xo_3_iiiiiiiirrrrr h v0 v1 v2 v3n_7 (nI hh) v5 (nI ww) (nI kk) b1 b2 b3 b4 b5), (xI b1 cI 6 g1n_7), (xI b2 cI 6 g2), (xI b3 cI 6 g3), (xI b4 cI 6 g4), (xI b5 cI 6 g5)] H ∧ va_D A [(xo_3_iiiiiiiirrrrr k0 u0n_6 u1n_6 u2n_6 u3n_6 u4n_6 u5n_6 u6n_6 u7n_6 o1 o2 o3 o4 o5), (xI o1 cI 6 f1n_6), (xI o2 cI 6 f2n_6), (xI o3 cI 6 f3n_6), (xI o4 cI 6 f4n_6), (xI o5 cI 6 f5n_6), (xo_4_rri p0 h k0 (nI hrs)), (xo_3_iiiiiiiirrrrr h v0 v1 v2 v3n_7 (nI hh) v5 (nI ww) (nI kk) b1 b2 b3 b4 b5), (xI b1 cI 6 g1n_7), (xI b2 cI 6 g2), (xI b3 cI 6 g3), (xI b4 cI 6 g4), (xI b5 cI 6 g5)] ∧ va_S A s.heap H locs) ?_ ?_
    · rintro w_9 H locs _ ⟨ls, rfl, hl, hP, hD, hS⟩
      refine lv_iload_n hx hb dX4_bestFor_59 rfl (lv_at hl 3 rfl) ?_
      refine lv_iconst (v := 1) hx hb dX4_bestFor_60 (by decide) ?_
      refine lv_isub hx hb dX4_bestFor_61 ?_
      refine lv_topi (fun v_11 e_11 => ?_)
      obtain rfl : v_11 = 1 := (e_11).trans (by decide)
      have hc_12 := cutW (wc := [(xo_4_rri p0 h k0 (nI hrs)), (xo_3_iiiiiiiirrrrr h v0 v1 v2 v3n_7 (nI hh) v5 (nI ww) (nI kk) b1 b2 b3 b4 b5), (xI b1 cI 6 g1n_7), (xI b2 cI 6 g2), (xI b3 cI 6 g3), (xI b4 cI 6 g4), (xI b5 cI 6 g5), (xo_3_iiiiiiiirrrrr k0 u0n_6 u1n_6 u2n_6 u3n_6 u4n_6 u5n_6 u6n_6 u7n_6 o1 o2 o3 o4 o5), (xI o1 cI 6 f1n_6), (xI o2 cI 6 f2n_6), (xI o3 cI 6 f3n_6), (xI o4 cI 6 f4n_6), (xI o5 cI 6 f5n_6)]) hP hD hS hA [6, 7, 8, 9, 10, 11, 12, 0, 1, 2, 3, 4, 5] (by decide +kernel) rfl
      refine va_calli (va_runV (As := [.int w_9, .int 1]) (rest := []) ⟨hx, hb, hml, hown, hts⟩ (r_X4_bestFor_1 l dC dI cI cZ cL cJ H.size p0 hrs h v0 v1 v2 v3n_7 v5 hh ww kk b1 b2 b3 b4 b5 g1n_7 g2 g3 g4 g5 k0 u0n_6 u1n_6 u2n_6 u3n_6 u4n_6 u5n_6 u6n_6 u7n_6 o1 o2 o3 o4 o5 f1n_6 f2n_6 f3n_6 f4n_6 f5n_6 w_9 (hr20) (hhb) (hww) (hkk)) (cwV 2 hts gX4_bestFor_X4_bestFor rfl rfl rfl (by decide +kernel) ⟨Nat.le_of_ble_eq_true rfl, Nat.le_of_ble_eq_true rfl⟩) (pvW 4 6 hK hP rfl rfl hc_12) rfl rfl hl.1 rfl (lv_room (Nat.le_of_ble_eq_true rfl)) dX4_bestFor_62 ⟨Nat.le_of_ble_eq_true rfl, Nat.le_of_ble_eq_true rfl⟩) hS (fun q _ h => hc_12.2.2 q h) hc_12.2.2 (fun r_12 u_12 t_12 H1 locs ht hvm h_12 hB hz1 hk1 hS => ?_)
      refine xl_15_2 hB (fun v3n_12 u0n_12 u1n_12 u2n_12 u3n_12 u4n_12 u5n_12 u6n_12 u7n_12 g1n_12 f1n_12 f2n_12 f3n_12 f4n_12 f5n_12 hP1 hD1 => ?_)
      clear hB
      rw [ht] at hP1
      obtain ⟨hP, hD⟩ := va_join (wr := []) (w1 := [(xo_4_rri p0 h k0 (nI hrs)), (xo_3_iiiiiiiirrrrr h v0 v1 v2 v3n_12 (nI hh) v5 (nI ww) (nI kk) b1 b2 b3 b4 b5), (xI b1 cI 6 g1n_12), (xI b2 cI 6 g2), (xI b3 cI 6 g3), (xI b4 cI 6 g4), (xI b5 cI 6 g5), (xo_3_iiiiiiiirrrrr k0 u0n_12 u1n_12 u2n_12 u3n_12 u4n_12 u5n_12 u6n_12 u7n_12 o1 o2 o3 o4 o5), (xI o1 cI 6 f1n_12), (xI o2 cI 6 f2n_12), (xI o3 cI 6 f3n_12), (xI o4 cI 6 f4n_12), (xI o5 cI 6 f5n_12)]) hP hD [6, 7, 8, 9, 10, 11, 12, 0, 1, 2, 3, 4, 5] [] rfl rfl (by decide +kernel) (by decide +kernel) hk1 hc_12.2.2 hP1 hD1
      generalize H1 = H at hP hS ⊢
      have hP : va_P (dC, dI) vwCl [(xo_4_rri p0 h k0 (nI hrs)), (xo_3_iiiiiiiirrrrr h v0 v1 v2 v3n_12 (nI hh) v5 (nI ww) (nI kk) b1 b2 b3 b4 b5), (xI b1 cI 6 g1n_12), (xI b2 cI 6 g2), (xI b3 cI 6 g3), (xI b4 cI 6 g4), (xI b5 cI 6 g5), (xo_3_iiiiiiiirrrrr k0 u0n_12 u1n_12 u2n_12 u3n_12 u4n_12 u5n_12 u6n_12 u7n_12 o1 o2 o3 o4 o5), (xI o1 cI 6 f1n_12), (xI o2 cI 6 f2n_12), (xI o3 cI 6 f3n_12), (xI o4 cI 6 f4n_12), (xI o5 cI 6 f5n_12)] H := hP
      have hD := dto hP hD
      refine lv_istore (lv' := [(4, .int r_12), (3, .int r_6), (0, .ref p0), (1, .int x), (2, .int 2)]) hx hb dX4_bestFor_65 hl (by decide) rfl (fun ls hl => ?_)
      refine lv_aload_n hx hb dX4_bestFor_67 rfl (lv_at hl 2 rfl) ?_
      refine lv_iload_n hx hb dX4_bestFor_68 rfl (lv_at hl 3 rfl) ?_
      have hc_13 := cutW (wc := [(xo_4_rri p0 h k0 (nI hrs)), (xo_3_iiiiiiiirrrrr h v0 v1 v2 v3n_12 (nI hh) v5 (nI ww) (nI kk) b1 b2 b3 b4 b5), (xI b1 cI 6 g1n_12), (xI b2 cI 6 g2), (xI b3 cI 6 g3), (xI b4 cI 6 g4), (xI b5 cI 6 g5)]) hP hD hS hA [0, 1, 2, 3, 4, 5, 6] (by decide +kernel) rfl
      refine va_callv (va_runV (As := [.int x]) (rest := []) ⟨hx, hb, hml, hown, hts⟩ (r_X4_turn l dC dI cI cZ cL cJ H.size p0 hrs h v0 v1 v2 v3n_12 v5 hh ww kk b1 b2 b3 b4 b5 g1n_12 g2 g3 g4 g5 k0 x (hr20) (hhb) (hww) (hkk)) (cwV 1 hts gX4_bestFor_X4_turn rfl rfl rfl (by decide +kernel) ⟨Nat.le_of_ble_eq_true rfl, Nat.le_of_ble_eq_true rfl⟩) (pvW 4 0 hK hP rfl rfl hc_13) rfl rfl hl.1 rfl (lv_room (Nat.le_of_ble_eq_true rfl)) dX4_bestFor_69 ⟨Nat.le_of_ble_eq_true rfl, Nat.le_of_ble_eq_true rfl⟩) hS (fun q _ h => hc_13.2.2 q h) hc_13.2.2 (fun u_13 t_13 H1 locs ht hvm h_13 hB hz1 hk1 hS => ?_)
      refine xl_2_2 hB (fun v3n_13 g1n_13 hP1 hD1 => ?_)
      clear hB
      rw [ht] at hP1
      obtain ⟨hP, hD⟩ := va_join (wr := [(xo_3_iiiiiiiirrrrr k0 u0n_12 u1n_12 u2n_12 u3n_12 u4n_12 u5n_12 u6n_12 u7n_12 o1 o2 o3 o4 o5), (xI o1 cI 6 f1n_12), (xI o2 cI 6 f2n_12), (xI o3 cI 6 f3n_12), (xI o4 cI 6 f4n_12), (xI o5 cI 6 f5n_12)]) (w1 := [(xo_4_rri p0 h k0 (nI hrs)), (xo_3_iiiiiiiirrrrr h v0 v1 v2 v3n_13 (nI hh) v5 (nI ww) (nI kk) b1 b2 b3 b4 b5), (xI b1 cI 6 g1n_13), (xI b2 cI 6 g2), (xI b3 cI 6 g3), (xI b4 cI 6 g4), (xI b5 cI 6 g5)]) hP hD [0, 1, 2, 3, 4, 5, 6] [7, 8, 9, 10, 11, 12] rfl rfl (by decide +kernel) (by decide +kernel) hk1 hc_13.2.2 hP1 hD1
      generalize H1 = H at hP hS ⊢
      have hP : va_P (dC, dI) vwCl [(xo_3_iiiiiiiirrrrr k0 u0n_12 u1n_12 u2n_12 u3n_12 u4n_12 u5n_12 u6n_12 u7n_12 o1 o2 o3 o4 o5), (xI o1 cI 6 f1n_12), (xI o2 cI 6 f2n_12), (xI o3 cI 6 f3n_12), (xI o4 cI 6 f4n_12), (xI o5 cI 6 f5n_12), (xo_4_rri p0 h k0 (nI hrs)), (xo_3_iiiiiiiirrrrr h v0 v1 v2 v3n_13 (nI hh) v5 (nI ww) (nI kk) b1 b2 b3 b4 b5), (xI b1 cI 6 g1n_13), (xI b2 cI 6 g2), (xI b3 cI 6 g3), (xI b4 cI 6 g4), (xI b5 cI 6 g5)] H := hP
      have hD := dto hP hD
      refine lv_iload_n hx hb dX4_bestFor_72 rfl (lv_at hl 3 rfl) ?_
      refine lv_if_eq (tgt := 85) hx hb dX4_bestFor_73 (by decide) (fun c_14 => ?_) (fun c_14 => ?_)
      · skip
        refine lv_iload_n hx hb dX4_bestFor_85 rfl (lv_at hl 1 rfl) ?_
        refine lv_iload hx hb dX4_bestFor_86 (lv_at hl 0 rfl) ?_
        refine va_mmin hx hb (by rw [hml]; exact hl.1.symm) hown (hts _ mx_X4_bestFor_8) (hts _ mx_X4_bestFor_9) (hts _ mx_X4_bestFor_6) (hts _ mx_X4_bestFor_10) (Nat.le_of_ble_eq_true rfl) (Nat.le_of_ble_eq_true rfl) (Nat.zero_le _) (Nat.zero_le _) dX4_bestFor_88 ?_
        refine lv_topi (fun v_15 e_15 => ?_)
        have hX9 := cut2 (wc := [(xo_4_rri p0 h k0 (nI hrs)), (xo_3_iiiiiiiirrrrr h v0 v1 v2 v3n_13 (nI hh) v5 (nI ww) (nI kk) b1 b2 b3 b4 b5), (xI b1 cI 6 g1n_13), (xI b2 cI 6 g2), (xI b3 cI 6 g3), (xI b4 cI 6 g4), (xI b5 cI 6 g5), (xo_3_iiiiiiiirrrrr k0 u0n_12 u1n_12 u2n_12 u3n_12 u4n_12 u5n_12 u6n_12 u7n_12 o1 o2 o3 o4 o5), (xI o1 cI 6 f1n_12), (xI o2 cI 6 f2n_12), (xI o3 cI 6 f3n_12), (xI o4 cI 6 f4n_12), (xI o5 cI 6 f5n_12)]) hP hD [6, 7, 8, 9, 10, 11, 12, 0, 1, 2, 3, 4, 5] (by decide +kernel) rfl
        exact W.iret (v := v_15) hx hb hr (fun t ht hW => ⟨⟨v_15, (), rfl, trivial, ⟨v3n_13, u0n_12, u1n_12, u2n_12, u3n_12, u4n_12, u5n_12, u6n_12, u7n_12, g1n_13, f1n_12, f2n_12, f3n_12, f4n_12, f5n_12, va_Ht ht hX9.1, hX9.2⟩⟩, hS.F ht⟩) hS.2.2 dX4_bestFor_91
      · skip
        refine lv_iload_n hx hb dX4_bestFor_76 rfl (lv_at hl 1 rfl) ?_
        refine lv_iload hx hb dX4_bestFor_77 (lv_at hl 0 rfl) ?_
        refine va_mmax hx hb (by rw [hml]; exact hl.1.symm) hown (hts _ mx_X4_bestFor_4) (hts _ mx_X4_bestFor_5) (hts _ mx_X4_bestFor_6) (hts _ mx_X4_bestFor_7) (Nat.le_of_ble_eq_true rfl) (Nat.le_of_ble_eq_true rfl) (Nat.zero_le _) (Nat.zero_le _) dX4_bestFor_79 ?_
        refine lv_topi (fun v_16 e_16 => ?_)
        refine lv_goto (tgt := 91) hx hb dX4_bestFor_82 (by decide) ?_
        have hX9 := cut2 (wc := [(xo_4_rri p0 h k0 (nI hrs)), (xo_3_iiiiiiiirrrrr h v0 v1 v2 v3n_13 (nI hh) v5 (nI ww) (nI kk) b1 b2 b3 b4 b5), (xI b1 cI 6 g1n_13), (xI b2 cI 6 g2), (xI b3 cI 6 g3), (xI b4 cI 6 g4), (xI b5 cI 6 g5), (xo_3_iiiiiiiirrrrr k0 u0n_12 u1n_12 u2n_12 u3n_12 u4n_12 u5n_12 u6n_12 u7n_12 o1 o2 o3 o4 o5), (xI o1 cI 6 f1n_12), (xI o2 cI 6 f2n_12), (xI o3 cI 6 f3n_12), (xI o4 cI 6 f4n_12), (xI o5 cI 6 f5n_12)]) hP hD [6, 7, 8, 9, 10, 11, 12, 0, 1, 2, 3, 4, 5] (by decide +kernel) rfl
        exact W.iret (v := v_16) hx hb hr (fun t ht hW => ⟨⟨v_16, (), rfl, trivial, ⟨v3n_13, u0n_12, u1n_12, u2n_12, u3n_12, u4n_12, u5n_12, u6n_12, u7n_12, g1n_13, f1n_12, f2n_12, f3n_12, f4n_12, f5n_12, va_Ht ht hX9.1, hX9.2⟩⟩, hS.F ht⟩) hS.2.2 dX4_bestFor_91
    · intro jk_10
      refine lv_if_ne (tgt := 58) hx hb dX4_bestFor_51 (by decide) (fun c_17 => ?_) (fun c_17 => ?_)
      · skip
        refine lv_iconst (v := 0) hx hb dX4_bestFor_58 (by decide) ?_
        exact jk_10 (0) _ _ _ ⟨ls, rfl, lv_sub hl [0, 1, 2, 3] rfl, hP.sub (ws' := [(xo_3_iiiiiiiirrrrr k0 u0n_6 u1n_6 u2n_6 u3n_6 u4n_6 u5n_6 u6n_6 u7n_6 o1 o2 o3 o4 o5), (xI o1 cI 6 f1n_6), (xI o2 cI 6 f2n_6), (xI o3 cI 6 f3n_6), (xI o4 cI 6 f4n_6), (xI o5 cI 6 f5n_6), (xo_4_rri p0 h k0 (nI hrs)), (xo_3_iiiiiiiirrrrr h v0 v1 v2 v3n_7 (nI hh) v5 (nI ww) (nI kk) b1 b2 b3 b4 b5), (xI b1 cI 6 g1n_7), (xI b2 cI 6 g2), (xI b3 cI 6 g3), (xI b4 cI 6 g4), (xI b5 cI 6 g5)]) [0, 1, 2, 3, 4, 5, 6, 7, 8, 9, 10, 11, 12] rfl, hD.sub (ws' := [(xo_3_iiiiiiiirrrrr k0 u0n_6 u1n_6 u2n_6 u3n_6 u4n_6 u5n_6 u6n_6 u7n_6 o1 o2 o3 o4 o5), (xI o1 cI 6 f1n_6), (xI o2 cI 6 f2n_6), (xI o3 cI 6 f3n_6), (xI o4 cI 6 f4n_6), (xI o5 cI 6 f5n_6), (xo_4_rri p0 h k0 (nI hrs)), (xo_3_iiiiiiiirrrrr h v0 v1 v2 v3n_7 (nI hh) v5 (nI ww) (nI kk) b1 b2 b3 b4 b5), (xI b1 cI 6 g1n_7), (xI b2 cI 6 g2), (xI b3 cI 6 g3), (xI b4 cI 6 g4), (xI b5 cI 6 g5)]) [0, 1, 2, 3, 4, 5, 6, 7, 8, 9, 10, 11, 12] (by decide +kernel) rfl, hS⟩
      · skip
        refine lv_iconst (v := 1) hx hb dX4_bestFor_54 (by decide) ?_
        refine lv_goto (tgt := 59) hx hb dX4_bestFor_55 (by decide) ?_
        exact jk_10 (1) _ _ _ ⟨ls, rfl, lv_sub hl [0, 1, 2, 3] rfl, hP.sub (ws' := [(xo_3_iiiiiiiirrrrr k0 u0n_6 u1n_6 u2n_6 u3n_6 u4n_6 u5n_6 u6n_6 u7n_6 o1 o2 o3 o4 o5), (xI o1 cI 6 f1n_6), (xI o2 cI 6 f2n_6), (xI o3 cI 6 f3n_6), (xI o4 cI 6 f4n_6), (xI o5 cI 6 f5n_6), (xo_4_rri p0 h k0 (nI hrs)), (xo_3_iiiiiiiirrrrr h v0 v1 v2 v3n_7 (nI hh) v5 (nI ww) (nI kk) b1 b2 b3 b4 b5), (xI b1 cI 6 g1n_7), (xI b2 cI 6 g2), (xI b3 cI 6 g3), (xI b4 cI 6 g4), (xI b5 cI 6 g5)]) [0, 1, 2, 3, 4, 5, 6, 7, 8, 9, 10, 11, 12] rfl, hD.sub (ws' := [(xo_3_iiiiiiiirrrrr k0 u0n_6 u1n_6 u2n_6 u3n_6 u4n_6 u5n_6 u6n_6 u7n_6 o1 o2 o3 o4 o5), (xI o1 cI 6 f1n_6), (xI o2 cI 6 f2n_6), (xI o3 cI 6 f3n_6), (xI o4 cI 6 f4n_6), (xI o5 cI 6 f5n_6), (xo_4_rri p0 h k0 (nI hrs)), (xo_3_iiiiiiiirrrrr h v0 v1 v2 v3n_7 (nI hh) v5 (nI ww) (nI kk) b1 b2 b3 b4 b5), (xI b1 cI 6 g1n_7), (xI b2 cI 6 g2), (xI b3 cI 6 g3), (xI b4 cI 6 g4), (xI b5 cI 6 g5)]) [0, 1, 2, 3, 4, 5, 6, 7, 8, 9, 10, 11, 12] (by decide +kernel) rfl, hS⟩
  · intro jk_4
    refine lv_if_ne (tgt := 36) hx hb dX4_bestFor_29 (by decide) (fun c_18 => ?_) (fun c_18 => ?_)
    · skip
      refine lv_iconst (v := 0) hx hb dX4_bestFor_36 (by decide) ?_
      exact jk_4 (0) _ _ _ ⟨ls, rfl, lv_sub hl [0, 1, 2] rfl, hP.sub (ws' := [(xo_4_rri p0 h k0 (nI hrs)), (xo_3_iiiiiiiirrrrr h v0 v1 v2 v3 (nI hh) v5 (nI ww) (nI kk) b1 b2 b3 b4 b5), (xI b1 cI 6 g1), (xI b2 cI 6 g2), (xI b3 cI 6 g3), (xI b4 cI 6 g4), (xI b5 cI 6 g5), (xo_3_iiiiiiiirrrrr k0 u0 u1 u2 u3 u4 u5 u6 u7 o1 o2 o3 o4 o5), (xI o1 cI 6 f1), (xI o2 cI 6 f2), (xI o3 cI 6 f3), (xI o4 cI 6 f4), (xI o5 cI 6 f5)]) [0, 1, 2, 3, 4, 5, 6, 7, 8, 9, 10, 11, 12] rfl, hD.sub (ws' := [(xo_4_rri p0 h k0 (nI hrs)), (xo_3_iiiiiiiirrrrr h v0 v1 v2 v3 (nI hh) v5 (nI ww) (nI kk) b1 b2 b3 b4 b5), (xI b1 cI 6 g1), (xI b2 cI 6 g2), (xI b3 cI 6 g3), (xI b4 cI 6 g4), (xI b5 cI 6 g5), (xo_3_iiiiiiiirrrrr k0 u0 u1 u2 u3 u4 u5 u6 u7 o1 o2 o3 o4 o5), (xI o1 cI 6 f1), (xI o2 cI 6 f2), (xI o3 cI 6 f3), (xI o4 cI 6 f4), (xI o5 cI 6 f5)]) [0, 1, 2, 3, 4, 5, 6, 7, 8, 9, 10, 11, 12] (by decide +kernel) rfl, hS⟩
    · skip
      refine lv_iconst (v := 1) hx hb dX4_bestFor_32 (by decide) ?_
      refine lv_goto (tgt := 37) hx hb dX4_bestFor_33 (by decide) ?_
      exact jk_4 (1) _ _ _ ⟨ls, rfl, lv_sub hl [0, 1, 2] rfl, hP.sub (ws' := [(xo_4_rri p0 h k0 (nI hrs)), (xo_3_iiiiiiiirrrrr h v0 v1 v2 v3 (nI hh) v5 (nI ww) (nI kk) b1 b2 b3 b4 b5), (xI b1 cI 6 g1), (xI b2 cI 6 g2), (xI b3 cI 6 g3), (xI b4 cI 6 g4), (xI b5 cI 6 g5), (xo_3_iiiiiiiirrrrr k0 u0 u1 u2 u3 u4 u5 u6 u7 o1 o2 o3 o4 o5), (xI o1 cI 6 f1), (xI o2 cI 6 f2), (xI o3 cI 6 f3), (xI o4 cI 6 f4), (xI o5 cI 6 f5)]) [0, 1, 2, 3, 4, 5, 6, 7, 8, 9, 10, 11, 12] rfl, hD.sub (ws' := [(xo_4_rri p0 h k0 (nI hrs)), (xo_3_iiiiiiiirrrrr h v0 v1 v2 v3 (nI hh) v5 (nI ww) (nI kk) b1 b2 b3 b4 b5), (xI b1 cI 6 g1), (xI b2 cI 6 g2), (xI b3 cI 6 g3), (xI b4 cI 6 g4), (xI b5 cI 6 g5), (xo_3_iiiiiiiirrrrr k0 u0 u1 u2 u3 u4 u5 u6 u7 o1 o2 o3 o4 o5), (xI o1 cI 6 f1), (xI o2 cI 6 f2), (xI o3 cI 6 f3), (xI o4 cI 6 f4), (xI o5 cI 6 f5)]) [0, 1, 2, 3, 4, 5, 6, 7, 8, 9, 10, 11, 12] (by decide +kernel) rfl, hS⟩
set_option maxHeartbeats 4000000 in
set_option maxRecDepth 100000 in
theorem r_X4_bestFor_3 (l : Launch) (dC : Nat → ClassId) (dI : Nat → Nat → Nat) (cI cZ cL cJ : ClassId) (sz : Nat) (p0 : Nat) (hrs : Nat) (h : Nat) (v0 : Int32) (v1 : Int32) (v2 : Int32) (v3 : Int32) (v5 : Int32) (hh : Nat) (ww : Nat) (kk : Nat) (b1 : Nat) (b2 : Nat) (b3 : Nat) (b4 : Nat) (b5 : Nat) (g1 : Nat → Int32) (g2 : Nat → Int32) (g3 : Nat → Int32) (g4 : Nat → Int32) (g5 : Nat → Int32) (k0 : Nat) (u0 : Int32) (u1 : Int32) (u2 : Int32) (u3 : Int32) (u4 : Int32) (u5 : Int32) (u6 : Int32) (u7 : Int32) (o1 : Nat) (o2 : Nat) (o3 : Nat) (o4 : Nat) (o5 : Nat) (f1 : Nat → Int32) (f2 : Nat → Int32) (f3 : Nat → Int32) (f4 : Nat → Int32) (f5 : Nat → Int32) (x : Int32) (hr20 : hrs ≤ 20) (hhb : hh ≤ 999) (hww : ww ≤ 6) (hkk : kk ≤ 6) : Met l yX4_bestFor wsX4_bestFor ({ frames := 8, cells := 0, slots := 0, locals := 182 }) (va_Pc [.ref p0, .int x, .int 3] (fun U => U.heap.size = sz ∧ va_P (dC, dI) vwCl [(xo_4_rri p0 h k0 (nI hrs)), (xo_3_iiiiiiiirrrrr h v0 v1 v2 v3 (nI hh) v5 (nI ww) (nI kk) b1 b2 b3 b4 b5), (xI b1 cI 6 g1), (xI b2 cI 6 g2), (xI b3 cI 6 g3), (xI b4 cI 6 g4), (xI b5 cI 6 g5), (xo_3_iiiiiiiirrrrr k0 u0 u1 u2 u3 u4 u5 u6 u7 o1 o2 o3 o4 o5), (xI o1 cI 6 f1), (xI o2 cI 6 f2), (xI o3 cI 6 f3), (xI o4 cI 6 f4), (xI o5 cI 6 f5)] U.heap ∧ va_K (dC, dI) vwCl [(cI, .int), (cZ, .boolean), (cL, .object RX3), (cJ, .array .int)] U ∧ va_D (fun _ => True) [(xo_4_rri p0 h k0 (nI hrs)), (xo_3_iiiiiiiirrrrr h v0 v1 v2 v3 (nI hh) v5 (nI ww) (nI kk) b1 b2 b3 b4 b5), (xI b1 cI 6 g1), (xI b2 cI 6 g2), (xI b3 cI 6 g3), (xI b4 cI 6 g4), (xI b5 cI 6 g5), (xo_3_iiiiiiiirrrrr k0 u0 u1 u2 u3 u4 u5 u6 u7 o1 o2 o3 o4 o5), (xI o1 cI 6 f1), (xI o2 cI 6 f2), (xI o3 cI 6 f3), (xI o4 cI 6 f4), (xI o5 cI 6 f5)])) (va_Qi (fun r (_ : Unit) => True) (fun (_ : Unit) t => ∃ (v3n : Int32) (u0n : Int32) (u1n : Int32) (u2n : Int32) (u3n : Int32) (u4n : Int32) (u5n : Int32) (u6n : Int32) (u7n : Int32) (g1n : Nat → Int32) (f1n : Nat → Int32) (f2n : Nat → Int32) (f3n : Nat → Int32) (f4n : Nat → Int32) (f5n : Nat → Int32), va_P (dC, dI) vwCl [(xo_4_rri p0 h k0 (nI hrs)), (xo_3_iiiiiiiirrrrr h v0 v1 v2 v3n (nI hh) v5 (nI ww) (nI kk) b1 b2 b3 b4 b5), (xI b1 cI 6 g1n), (xI b2 cI 6 g2), (xI b3 cI 6 g3), (xI b4 cI 6 g4), (xI b5 cI 6 g5), (xo_3_iiiiiiiirrrrr k0 u0n u1n u2n u3n u4n u5n u6n u7n o1 o2 o3 o4 o5), (xI o1 cI 6 f1n), (xI o2 cI 6 f2n), (xI o3 cI 6 f3n), (xI o4 cI 6 f4n), (xI o5 cI 6 f5n)] t.heap ∧ va_D (va_A [(xo_4_rri p0 h k0 (nI hrs)), (xo_3_iiiiiiiirrrrr h v0 v1 v2 v3 (nI hh) v5 (nI ww) (nI kk) b1 b2 b3 b4 b5), (xI b1 cI 6 g1), (xI b2 cI 6 g2), (xI b3 cI 6 g3), (xI b4 cI 6 g4), (xI b5 cI 6 g5), (xo_3_iiiiiiiirrrrr k0 u0 u1 u2 u3 u4 u5 u6 u7 o1 o2 o3 o4 o5), (xI o1 cI 6 f1), (xI o2 cI 6 f2), (xI o3 cI 6 f3), (xI o4 cI 6 f4), (xI o5 cI 6 f5)] sz) [(xo_4_rri p0 h k0 (nI hrs)), (xo_3_iiiiiiiirrrrr h v0 v1 v2 v3n (nI hh) v5 (nI ww) (nI kk) b1 b2 b3 b4 b5), (xI b1 cI 6 g1n), (xI b2 cI 6 g2), (xI b3 cI 6 g3), (xI b4 cI 6 g4), (xI b5 cI 6 g5), (xo_3_iiiiiiiirrrrr k0 u0n u1n u2n u3n u4n u5n u6n u7n o1 o2 o3 o4 o5), (xI o1 cI 6 f1n), (xI o2 cI 6 f2n), (xI o3 cI 6 f3n), (xI o4 cI 6 f4n), (xI o5 cI 6 f5n)]) (va_A [(xo_4_rri p0 h k0 (nI hrs)), (xo_3_iiiiiiiirrrrr h v0 v1 v2 v3 (nI hh) v5 (nI ww) (nI kk) b1 b2 b3 b4 b5), (xI b1 cI 6 g1), (xI b2 cI 6 g2), (xI b3 cI 6 g3), (xI b4 cI 6 g4), (xI b5 cI 6 g5), (xo_3_iiiiiiiirrrrr k0 u0 u1 u2 u3 u4 u5 u6 u7 o1 o2 o3 o4 o5), (xI o1 cI 6 f1), (xI o2 cI 6 f2), (xI o3 cI 6 f3), (xI o4 cI 6 f4), (xI o5 cI 6 f5)] sz)) 0 0 (va_A [(xo_4_rri p0 h k0 (nI hrs)), (xo_3_iiiiiiiirrrrr h v0 v1 v2 v3 (nI hh) v5 (nI ww) (nI kk) b1 b2 b3 b4 b5), (xI b1 cI 6 g1), (xI b2 cI 6 g2), (xI b3 cI 6 g3), (xI b4 cI 6 g4), (xI b5 cI 6 g5), (xo_3_iiiiiiiirrrrr k0 u0 u1 u2 u3 u4 u5 u6 u7 o1 o2 o3 o4 o5), (xI o1 cI 6 f1), (xI o2 cI 6 f2), (xI o3 cI 6 f3), (xI o4 cI 6 f4), (xI o5 cI 6 f5)] sz) := by
  refine Met.ofW (cc := cX4_bestFor) (maxL := 5) (ret := (some .int)) (by decide) rfl ?_
  intro p e s m args below meth c s₁ B hml hv
  obtain ⟨rfl, hsz, hP, hK, hD0⟩ := hv
  have hx := B.exec
  have hb := B.bytes
  have hr := B.returns
  have hts := atoms_spec (ws := wsX4_bestFor) B.pre
  have hown : s.vm.findClass RX4 = some m.cls := findClass_of_methodNamed B.named
  have hlocks := B.notSynchronized
  subst hsz
  have hD := hD0.self (sz := s.heap.size)
  generalize hAe : va_A [(xo_4_rri p0 h k0 (nI hrs)), (xo_3_iiiiiiiirrrrr h v0 v1 v2 v3 (nI hh) v5 (nI ww) (nI kk) b1 b2 b3 b4 b5), (xI b1 cI 6 g1), (xI b2 cI 6 g2), (xI b3 cI 6 g3), (xI b4 cI 6 g4), (xI b5 cI 6 g5), (xo_3_iiiiiiiirrrrr k0 u0 u1 u2 u3 u4 u5 u6 u7 o1 o2 o3 o4 o5), (xI o1 cI 6 f1), (xI o2 cI 6 f2), (xI o3 cI 6 f3), (xI o4 cI 6 f4), (xI o5 cI 6 f5)] s.heap.size = A at hD ⊢
  have hA : ∀ q : Nat, s.heap.size ≤ q → A q := fun q h => by rw [← hAe]; exact Or.inr h
  have hS : va_S A s.heap s.heap [] := va_S.rf
  have hP : va_P (dC, dI) vwCl [(xo_4_rri p0 h k0 (nI hrs)), (xo_3_iiiiiiiirrrrr h v0 v1 v2 v3 (nI hh) v5 (nI ww) (nI kk) b1 b2 b3 b4 b5), (xI b1 cI 6 g1), (xI b2 cI 6 g2), (xI b3 cI 6 g3), (xI b4 cI 6 g4), (xI b5 cI 6 g5), (xo_3_iiiiiiiirrrrr k0 u0 u1 u2 u3 u4 u5 u6 u7 o1 o2 o3 o4 o5), (xI o1 cI 6 f1), (xI o2 cI 6 f2), (xI o3 cI 6 f3), (xI o4 cI 6 f4), (xI o5 cI 6 f5)] s.heap := hP
  have hl := lv_entry ([.ref p0, .int x, .int 3]) (n := 5) (Nat.le_of_ble_eq_true rfl)
  rw [lg_entry_eq]
  generalize (lg_sl ([.ref p0, .int x, .int 3]) ++ List.replicate (5 - (lg_sl ([.ref p0, .int x, .int 3])).length) Slot.unset).toArray = ls at hl ⊢
  have hl : lv_has ls 5 [(0, .ref p0), (1, .int x), (2, .int 3)] := hl
  refine lv_iload_n hx hb dX4_bestFor_0 rfl (lv_at hl 2 rfl) ?_
  refine lv_if_gt (tgt := 27) hx hb dX4_bestFor_1 (by decide) (fun _ => ?_) (fun c_ => absurd (by decide) c_)
  refine lv_aload_n hx hb dX4_bestFor_27 rfl (lv_at hl 0 rfl) ?_
  refine lv_iload_n hx hb dX4_bestFor_28 rfl (lv_at hl 1 rfl) ?_
  refine jn (σ := (Int32)) (fun (st : (Int32)) H locs g => match st with | w_3 => ∃ ls : Array Slot, g = F0 m 37 ls [.int w_3, .ref p0] ∧ lv_has ls 5 [(0, .ref p0), (1, .int x), (2, .int 3)] ∧ va_P (dC, dI) vwCl [(xo_4_rri p0 h k0 (nI hrs)), (xo_3_iiiiiiiirrrrr h v0 v1 v2 v3 (nI hh) v5 (nI ww) (nI kk) b1 b2 b3 b4 b5), (xI b1 cI 6 g1), (xI b2 cI 6 g2), (xI b3 cI 6 g3), (xI b4 cI 6 g4), (xI b5 cI 6 g5), (xo_3_iiiiiiiirrrrr k0 u0 u1 u2 u3 u4 u5 u6 u7 o1 o2 o3 o4 o5), (xI o1 cI 6 f1), (xI o2 cI 6 f2), (xI o3 cI 6 f3), (xI o4 cI 6 f4), (xI o5 cI 6 f5)] H ∧ va_D A [(xo_4_rri p0 h k0 (nI hrs)), (xo_3_iiiiiiiirrrrr h v0 v1 v2 v3 (nI hh) v5 (nI ww) (nI kk) b1 b2 b3 b4 b5), (xI b1 cI 6 g1), (xI b2 cI 6 g2), (xI b3 cI 6 g3), (xI b4 cI 6 g4), (xI b5 cI 6 g5), (xo_3_iiiiiiiirrrrr k0 u0 u1 u2 u3 u4 u5 u6 u7 o1 o2 o3 o4 o5), (xI o1 cI 6 f1), (xI o2 cI 6 f2), (xI o3 cI 6 f3), (xI o4 cI 6 f4), (xI o5 cI 6 f5)] ∧ va_S A s.heap H locs) ?_ ?_
  · rintro w_3 H locs _ ⟨ls, rfl, hl, hP, hD, hS⟩
    refine lv_iload_n hx hb dX4_bestFor_37 rfl (lv_at hl 2 rfl) ?_
    refine lv_iconst (v := 1) hx hb dX4_bestFor_38 (by decide) ?_
    refine lv_isub hx hb dX4_bestFor_39 ?_
    refine lv_topi (fun v_5 e_5 => ?_)
    obtain rfl : v_5 = 2 := (e_5).trans (by decide)
    have hc_6 := cutW (wc := [(xo_4_rri p0 h k0 (nI hrs)), (xo_3_iiiiiiiirrrrr h v0 v1 v2 v3 (nI hh) v5 (nI ww) (nI kk) b1 b2 b3 b4 b5), (xI b1 cI 6 g1), (xI b2 cI 6 g2), (xI b3 cI 6 g3), (xI b4 cI 6 g4), (xI b5 cI 6 g5), (xo_3_iiiiiiiirrrrr k0 u0 u1 u2 u3 u4 u5 u6 u7 o1 o2 o3 o4 o5), (xI o1 cI 6 f1), (xI o2 cI 6 f2), (xI o3 cI 6 f3), (xI o4 cI 6 f4), (xI o5 cI 6 f5)]) hP hD hS hA [0, 1, 2, 3, 4, 5, 6, 7, 8, 9, 10, 11, 12] (by decide +kernel) rfl
    refine va_calli (va_runV (As := [.int w_3, .int 2]) (rest := []) ⟨hx, hb, hml, hown, hts⟩ (r_X4_bestFor_2 l dC dI cI cZ cL cJ H.size p0 hrs h v0 v1 v2 v3 v5 hh ww kk b1 b2 b3 b4 b5 g1 g2 g3 g4 g5 k0 u0 u1 u2 u3 u4 u5 u6 u7 o1 o2 o3 o4 o5 f1 f2 f3 f4 f5 w_3 (hr20) (hhb) (hww) (hkk)) (cwV 2 hts gX4_bestFor_X4_bestFor rfl rfl rfl (by decide +kernel) ⟨Nat.le_of_ble_eq_true rfl, Nat.le_of_ble_eq_true rfl⟩) (pvW 4 0 hK hP rfl rfl hc_6) rfl rfl hl.1 rfl (lv_room (Nat.le_of_ble_eq_true rfl)) dX4_bestFor_40 ⟨Nat.le_of_ble_eq_true rfl, Nat.le_of_ble_eq_true rfl⟩) hS (fun q _ h => hc_6.2.2 q h) hc_6.2.2 (fun r_6 u_6 t_6 H1 locs ht hvm h_6 hB hz1 hk1 hS => ?_)
    refine xl_15_2 hB (fun v3n_6 u0n_6 u1n_6 u2n_6 u3n_6 u4n_6 u5n_6 u6n_6 u7n_6 g1n_6 f1n_6 f2n_6 f3n_6 f4n_6 f5n_6 hP1 hD1 => ?_)
    clear hB
    rw [ht] at hP1
    obtain ⟨hP, hD⟩ := va_join (wr := []) (w1 := [(xo_4_rri p0 h k0 (nI hrs)), (xo_3_iiiiiiiirrrrr h v0 v1 v2 v3n_6 (nI hh) v5 (nI ww) (nI kk) b1 b2 b3 b4 b5), (xI b1 cI 6 g1n_6), (xI b2 cI 6 g2), (xI b3 cI 6 g3), (xI b4 cI 6 g4), (xI b5 cI 6 g5), (xo_3_iiiiiiiirrrrr k0 u0n_6 u1n_6 u2n_6 u3n_6 u4n_6 u5n_6 u6n_6 u7n_6 o1 o2 o3 o4 o5), (xI o1 cI 6 f1n_6), (xI o2 cI 6 f2n_6), (xI o3 cI 6 f3n_6), (xI o4 cI 6 f4n_6), (xI o5 cI 6 f5n_6)]) hP hD [0, 1, 2, 3, 4, 5, 6, 7, 8, 9, 10, 11, 12] [] rfl rfl (by decide +kernel) (by decide +kernel) hk1 hc_6.2.2 hP1 hD1
    generalize H1 = H at hP hS ⊢
    have hP : va_P (dC, dI) vwCl [(xo_4_rri p0 h k0 (nI hrs)), (xo_3_iiiiiiiirrrrr h v0 v1 v2 v3n_6 (nI hh) v5 (nI ww) (nI kk) b1 b2 b3 b4 b5), (xI b1 cI 6 g1n_6), (xI b2 cI 6 g2), (xI b3 cI 6 g3), (xI b4 cI 6 g4), (xI b5 cI 6 g5), (xo_3_iiiiiiiirrrrr k0 u0n_6 u1n_6 u2n_6 u3n_6 u4n_6 u5n_6 u6n_6 u7n_6 o1 o2 o3 o4 o5), (xI o1 cI 6 f1n_6), (xI o2 cI 6 f2n_6), (xI o3 cI 6 f3n_6), (xI o4 cI 6 f4n_6), (xI o5 cI 6 f5n_6)] H := hP
    have hD := dto hP hD
    refine lv_istore_n (lv' := [(3, .int r_6), (0, .ref p0), (1, .int x), (2, .int 3)]) hx hb dX4_bestFor_43 rfl hl (by decide) rfl (fun ls hl => ?_)
    refine lv_aload_n hx hb dX4_bestFor_44 rfl (lv_at hl 1 rfl) ?_
    refine lv_iload_n hx hb dX4_bestFor_45 rfl (lv_at hl 2 rfl) ?_
    have hc_7 := cutW (wc := [(xo_4_rri p0 h k0 (nI hrs)), (xo_3_iiiiiiiirrrrr h v0 v1 v2 v3n_6 (nI hh) v5 (nI ww) (nI kk) b1 b2 b3 b4 b5), (xI b1 cI 6 g1n_6), (xI b2 cI 6 g2), (xI b3 cI 6 g3), (xI b4 cI 6 g4), (xI b5 cI 6 g5)]) hP hD hS hA [0, 1, 2, 3, 4, 5, 6] (by decide +kernel) rfl
    refine va_callv (va_runV (As := [.int x]) (rest := []) ⟨hx, hb, hml, hown, hts⟩ (r_X4_turn l dC dI cI cZ cL cJ H.size p0 hrs h v0 v1 v2 v3n_6 v5 hh ww kk b1 b2 b3 b4 b5 g1n_6 g2 g3 g4 g5 k0 x (hr20) (hhb) (hww) (hkk)) (cwV 1 hts gX4_bestFor_X4_turn rfl rfl rfl (by decide +kernel) ⟨Nat.le_of_ble_eq_true rfl, Nat.le_of_ble_eq_true rfl⟩) (pvW 4 0 hK hP rfl rfl hc_7) rfl rfl hl.1 rfl (lv_room (Nat.le_of_ble_eq_true rfl)) dX4_bestFor_46 ⟨Nat.le_of_ble_eq_true rfl, Nat.le_of_ble_eq_true rfl⟩) hS (fun q _ h => hc_7.2.2 q h) hc_7.2.2 (fun u_7 t_7 H1 locs ht hvm h_7 hB hz1 hk1 hS => ?_)
    refine xl_2_2 hB (fun v3n_7 g1n_7 hP1 hD1 => ?_)
    clear hB
    rw [ht] at hP1
    obtain ⟨hP, hD⟩ := va_join (wr := [(xo_3_iiiiiiiirrrrr k0 u0n_6 u1n_6 u2n_6 u3n_6 u4n_6 u5n_6 u6n_6 u7n_6 o1 o2 o3 o4 o5), (xI o1 cI 6 f1n_6), (xI o2 cI 6 f2n_6), (xI o3 cI 6 f3n_6), (xI o4 cI 6 f4n_6), (xI o5 cI 6 f5n_6)]) (w1 := [(xo_4_rri p0 h k0 (nI hrs)), (xo_3_iiiiiiiirrrrr h v0 v1 v2 v3n_7 (nI hh) v5 (nI ww) (nI kk) b1 b2 b3 b4 b5), (xI b1 cI 6 g1n_7), (xI b2 cI 6 g2), (xI b3 cI 6 g3), (xI b4 cI 6 g4), (xI b5 cI 6 g5)]) hP hD [0, 1, 2, 3, 4, 5, 6] [7, 8, 9, 10, 11, 12] rfl rfl (by decide +kernel) (by decide +kernel) hk1 hc_7.2.2 hP1 hD1
    generalize H1 = H at hP hS ⊢
    have hP : va_P (dC, dI) vwCl [(xo_3_iiiiiiiirrrrr k0 u0n_6 u1n_6 u2n_6 u3n_6 u4n_6 u5n_6 u6n_6 u7n_6 o1 o2 o3 o4 o5), (xI o1 cI 6 f1n_6), (xI o2 cI 6 f2n_6), (xI o3 cI 6 f3n_6), (xI o4 cI 6 f4n_6), (xI o5 cI 6 f5n_6), (xo_4_rri p0 h k0 (nI hrs)), (xo_3_iiiiiiiirrrrr h v0 v1 v2 v3n_7 (nI hh) v5 (nI ww) (nI kk) b1 b2 b3 b4 b5), (xI b1 cI 6 g1n_7), (xI b2 cI 6 g2), (xI b3 cI 6 g3), (xI b4 cI 6 g4), (xI b5 cI 6 g5)] H := hP
    have hD := dto hP hD
    refine lv_aload_n hx hb dX4_bestFor_49 rfl (lv_at hl 1 rfl) ?_
    refine lv_iload_n hx hb dX4_bestFor_50 rfl (lv_at hl 2 rfl) ?_
    refine jn (σ := (Int32)) (fun (st : (Int32)) H locs g => match st with | w_9 => ∃ ls : Array Slot, g = F0 m 59 ls [.int w_9, .ref p0] ∧ lv_has ls 5 [(3, .int r_6), (0, .ref p0), (1, .int x), (2, .int 3)] ∧ va_P (dC, dI) vwCl [(xo_3_iiiiiiiirrrrr k0 u0n_6 u1n_6 u2n_6 u3n_6 u4n_6 u5n_6 u6n_6 u7n_6 o1 o2 o3 o4 o5), (xI o1 cI 6 f1n_6), (xI o2 cI 6 f2n_6), (xI o3 cI 6 f3n_6), (xI o4 cI 6 f4n_6), (xI o5 cI 6 f5n_6), (xo_4_rri p0 h k0 (nI hrs)), (xo_3_iiiiiiiirrrrr h v0 v1 v2 v3n_7 (nI hh) v5 (nI ww) (nI kk) b1 b2 b3 b4 b5), (xI b1 cI 6 g1n_7), (xI b2 cI 6 g2), (xI b3 cI 6 g3), (xI b4 cI 6 g4), (xI b5 cI 6 g5)] H ∧ va_D A [(xo_3_iiiiiiiirrrrr k0 u0n_6 u1n_6 u2n_6 u3n_6 u4n_6 u5n_6 u6n_6 u7n_6 o1 o2 o3 o4 o5), (xI o1 cI 6 f1n_6), (xI o2 cI 6 f2n_6), (xI o3 cI 6 f3n_6), (xI o4 cI 6 f4n_6), (xI o5 cI 6 f5n_6), (xo_4_rri p0 h k0 (nI hrs)), (xo_3_iiiiiiiirrrrr h v0 v1 v2 v3n_7 (nI hh) v5 (nI ww) (nI kk) b1 b2 b3 b4 b5), (xI b1 cI 6 g1n_7), (xI b2 cI 6 g2), (xI b3 cI 6 g3), (xI b4 cI 6 g4), (xI b5 cI 6 g5)] ∧ va_S A s.heap H locs) ?_ ?_
    · rintro w_9 H locs _ ⟨ls, rfl, hl, hP, hD, hS⟩
      refine lv_iload_n hx hb dX4_bestFor_59 rfl (lv_at hl 3 rfl) ?_
      refine lv_iconst (v := 1) hx hb dX4_bestFor_60 (by decide) ?_
      refine lv_isub hx hb dX4_bestFor_61 ?_
      refine lv_topi (fun v_11 e_11 => ?_)
      obtain rfl : v_11 = 2 := (e_11).trans (by decide)
      have hc_12 := cutW (wc := [(xo_4_rri p0 h k0 (nI hrs)), (xo_3_iiiiiiiirrrrr h v0 v1 v2 v3n_7 (nI hh) v5 (nI ww) (nI kk) b1 b2 b3 b4 b5), (xI b1 cI 6 g1n_7), (xI b2 cI 6 g2), (xI b3 cI 6 g3), (xI b4 cI 6 g4), (xI b5 cI 6 g5), (xo_3_iiiiiiiirrrrr k0 u0n_6 u1n_6 u2n_6 u3n_6 u4n_6 u5n_6 u6n_6 u7n_6 o1 o2 o3 o4 o5), (xI o1 cI 6 f1n_6), (xI o2 cI 6 f2n_6), (xI o3 cI 6 f3n_6), (xI o4 cI 6 f4n_6), (xI o5 cI 6 f5n_6)]) hP hD hS hA [6, 7, 8, 9, 10, 11, 12, 0, 1, 2, 3, 4, 5] (by decide +kernel) rfl
      refine va_calli (va_runV (As := [.int w_9, .int 2]) (rest := []) ⟨hx, hb, hml, hown, hts⟩ (r_X4_bestFor_2 l dC dI cI cZ cL cJ H.size p0 hrs h v0 v1 v2 v3n_7 v5 hh ww kk b1 b2 b3 b4 b5 g1n_7 g2 g3 g4 g5 k0 u0n_6 u1n_6 u2n_6 u3n_6 u4n_6 u5n_6 u6n_6 u7n_6 o1 o2 o3 o4 o5 f1n_6 f2n_6 f3n_6 f4n_6 f5n_6 w_9 (hr20) (hhb) (hww) (hkk)) (cwV 2 hts gX4_bestFor_X4_bestFor rfl rfl rfl (by decide +kernel) ⟨Nat.le_of_ble_eq_true rfl, Nat.le_of_ble_eq_true rfl⟩) (pvW 4 6 hK hP rfl rfl hc_12) rfl rfl hl.1 rfl (lv_room (Nat.le_of_ble_eq_true rfl)) dX4_bestFor_62 ⟨Nat.le_of_ble_eq_true rfl, Nat.le_of_ble_eq_true rfl⟩) hS (fun q _ h => hc_12.2.2 q h) hc_12.2.2 (fun r_12 u_12 t_12 H1 locs ht hvm h_12 hB hz1 hk1 hS => ?_)
      refine xl_15_2 hB (fun v3n_12 u0n_12 u1n_12 u2n_12 u3n_12 u4n_12 u5n_12 u6n_12 u7n_12 g1n_12 f1n_12 f2n_12 f3n_12 f4n_12 f5n_12 hP1 hD1 => ?_)
      clear hB
      rw [ht] at hP1
      obtain ⟨hP, hD⟩ := va_join (wr := []) (w1 := [(xo_4_rri p0 h k0 (nI hrs)), (xo_3_iiiiiiiirrrrr h v0 v1 v2 v3n_12 (nI hh) v5 (nI ww) (nI kk) b1 b2 b3 b4 b5), (xI b1 cI 6 g1n_12), (xI b2 cI 6 g2), (xI b3 cI 6 g3), (xI b4 cI 6 g4), (xI b5 cI 6 g5), (xo_3_iiiiiiiirrrrr k0 u0n_12 u1n_12 u2n_12 u3n_12 u4n_12 u5n_12 u6n_12 u7n_12 o1 o2 o3 o4 o5), (xI o1 cI 6 f1n_12), (xI o2 cI 6 f2n_12), (xI o3 cI 6 f3n_12), (xI o4 cI 6 f4n_12), (xI o5 cI 6 f5n_12)]) hP hD [6, 7, 8, 9, 10, 11, 12, 0, 1, 2, 3, 4, 5] [] rfl rfl (by decide +kernel) (by decide +kernel) hk1 hc_12.2.2 hP1 hD1
      generalize H1 = H at hP hS ⊢
      have hP : va_P (dC, dI) vwCl [(xo_4_rri p0 h k0 (nI hrs)), (xo_3_iiiiiiiirrrrr h v0 v1 v2 v3n_12 (nI hh) v5 (nI ww) (nI kk) b1 b2 b3 b4 b5), (xI b1 cI 6 g1n_12), (xI b2 cI 6 g2), (xI b3 cI 6 g3), (xI b4 cI 6 g4), (xI b5 cI 6 g5), (xo_3_iiiiiiiirrrrr k0 u0n_12 u1n_12 u2n_12 u3n_12 u4n_12 u5n_12 u6n_12 u7n_12 o1 o2 o3 o4 o5), (xI o1 cI 6 f1n_12), (xI o2 cI 6 f2n_12), (xI o3 cI 6 f3n_12), (xI o4 cI 6 f4n_12), (xI o5 cI 6 f5n_12)] H := hP
      have hD := dto hP hD
      refine lv_istore (lv' := [(4, .int r_12), (3, .int r_6), (0, .ref p0), (1, .int x), (2, .int 3)]) hx hb dX4_bestFor_65 hl (by decide) rfl (fun ls hl => ?_)
      refine lv_aload_n hx hb dX4_bestFor_67 rfl (lv_at hl 2 rfl) ?_
      refine lv_iload_n hx hb dX4_bestFor_68 rfl (lv_at hl 3 rfl) ?_
      have hc_13 := cutW (wc := [(xo_4_rri p0 h k0 (nI hrs)), (xo_3_iiiiiiiirrrrr h v0 v1 v2 v3n_12 (nI hh) v5 (nI ww) (nI kk) b1 b2 b3 b4 b5), (xI b1 cI 6 g1n_12), (xI b2 cI 6 g2), (xI b3 cI 6 g3), (xI b4 cI 6 g4), (xI b5 cI 6 g5)]) hP hD hS hA [0, 1, 2, 3, 4, 5, 6] (by decide +kernel) rfl
      refine va_callv (va_runV (As := [.int x]) (rest := []) ⟨hx, hb, hml, hown, hts⟩ (r_X4_turn l dC dI cI cZ cL cJ H.size p0 hrs h v0 v1 v2 v3n_12 v5 hh ww kk b1 b2 b3 b4 b5 g1n_12 g2 g3 g4 g5 k0 x (hr20) (hhb) (hww) (hkk)) (cwV 1 hts gX4_bestFor_X4_turn rfl rfl rfl (by decide +kernel) ⟨Nat.le_of_ble_eq_true rfl, Nat.le_of_ble_eq_true rfl⟩) (pvW 4 0 hK hP rfl rfl hc_13) rfl rfl hl.1 rfl (lv_room (Nat.le_of_ble_eq_true rfl)) dX4_bestFor_69 ⟨Nat.le_of_ble_eq_true rfl, Nat.le_of_ble_eq_true rfl⟩) hS (fun q _ h => hc_13.2.2 q h) hc_13.2.2 (fun u_13 t_13 H1 locs ht hvm h_13 hB hz1 hk1 hS => ?_)
      refine xl_2_2 hB (fun v3n_13 g1n_13 hP1 hD1 => ?_)
      clear hB
      rw [ht] at hP1
      obtain ⟨hP, hD⟩ := va_join (wr := [(xo_3_iiiiiiiirrrrr k0 u0n_12 u1n_12 u2n_12 u3n_12 u4n_12 u5n_12 u6n_12 u7n_12 o1 o2 o3 o4 o5), (xI o1 cI 6 f1n_12), (xI o2 cI 6 f2n_12), (xI o3 cI 6 f3n_12), (xI o4 cI 6 f4n_12), (xI o5 cI 6 f5n_12)]) (w1 := [(xo_4_rri p0 h k0 (nI hrs)), (xo_3_iiiiiiiirrrrr h v0 v1 v2 v3n_13 (nI hh) v5 (nI ww) (nI kk) b1 b2 b3 b4 b5), (xI b1 cI 6 g1n_13), (xI b2 cI 6 g2), (xI b3 cI 6 g3), (xI b4 cI 6 g4), (xI b5 cI 6 g5)]) hP hD [0, 1, 2, 3, 4, 5, 6] [7, 8, 9, 10, 11, 12] rfl rfl (by decide +kernel) (by decide +kernel) hk1 hc_13.2.2 hP1 hD1
      generalize H1 = H at hP hS ⊢
      have hP : va_P (dC, dI) vwCl [(xo_3_iiiiiiiirrrrr k0 u0n_12 u1n_12 u2n_12 u3n_12 u4n_12 u5n_12 u6n_12 u7n_12 o1 o2 o3 o4 o5), (xI o1 cI 6 f1n_12), (xI o2 cI 6 f2n_12), (xI o3 cI 6 f3n_12), (xI o4 cI 6 f4n_12), (xI o5 cI 6 f5n_12), (xo_4_rri p0 h k0 (nI hrs)), (xo_3_iiiiiiiirrrrr h v0 v1 v2 v3n_13 (nI hh) v5 (nI ww) (nI kk) b1 b2 b3 b4 b5), (xI b1 cI 6 g1n_13), (xI b2 cI 6 g2), (xI b3 cI 6 g3), (xI b4 cI 6 g4), (xI b5 cI 6 g5)] H := hP
      have hD := dto hP hD
      refine lv_iload_n hx hb dX4_bestFor_72 rfl (lv_at hl 3 rfl) ?_
      refine lv_if_eq (tgt := 85) hx hb dX4_bestFor_73 (by decide) (fun c_14 => ?_) (fun c_14 => ?_)
      · skip
        refine lv_iload_n hx hb dX4_bestFor_85 rfl (lv_at hl 1 rfl) ?_
        refine lv_iload hx hb dX4_bestFor_86 (lv_at hl 0 rfl) ?_
        refine va_mmin hx hb (by rw [hml]; exact hl.1.symm) hown (hts _ mx_X4_bestFor_8) (hts _ mx_X4_bestFor_9) (hts _ mx_X4_bestFor_6) (hts _ mx_X4_bestFor_10) (Nat.le_of_ble_eq_true rfl) (Nat.le_of_ble_eq_true rfl) (Nat.zero_le _) (Nat.zero_le _) dX4_bestFor_88 ?_
        refine lv_topi (fun v_15 e_15 => ?_)
        have hX9 := cut2 (wc := [(xo_4_rri p0 h k0 (nI hrs)), (xo_3_iiiiiiiirrrrr h v0 v1 v2 v3n_13 (nI hh) v5 (nI ww) (nI kk) b1 b2 b3 b4 b5), (xI b1 cI 6 g1n_13), (xI b2 cI 6 g2), (xI b3 cI 6 g3), (xI b4 cI 6 g4), (xI b5 cI 6 g5), (xo_3_iiiiiiiirrrrr k0 u0n_12 u1n_12 u2n_12 u3n_12 u4n_12 u5n_12 u6n_12 u7n_12 o1 o2 o3 o4 o5), (xI o1 cI 6 f1n_12), (xI o2 cI 6 f2n_12), (xI o3 cI 6 f3n_12), (xI o4 cI 6 f4n_12), (xI o5 cI 6 f5n_12)]) hP hD [6, 7, 8, 9, 10, 11, 12, 0, 1, 2, 3, 4, 5] (by decide +kernel) rfl
        exact W.iret (v := v_15) hx hb hr (fun t ht hW => ⟨⟨v_15, (), rfl, trivial, ⟨v3n_13, u0n_12, u1n_12, u2n_12, u3n_12, u4n_12, u5n_12, u6n_12, u7n_12, g1n_13, f1n_12, f2n_12, f3n_12, f4n_12, f5n_12, va_Ht ht hX9.1, hX9.2⟩⟩, hS.F ht⟩) hS.2.2 dX4_bestFor_91
      · skip
        refine lv_iload_n hx hb dX4_bestFor_76 rfl (lv_at hl 1 rfl) ?_
        refine lv_iload hx hb dX4_bestFor_77 (lv_at hl 0 rfl) ?_
        refine va_mmax hx hb (by rw [hml]; exact hl.1.symm) hown (hts _ mx_X4_bestFor_4) (hts _ mx_X4_bestFor_5) (hts _ mx_X4_bestFor_6) (hts _ mx_X4_bestFor_7) (Nat.le_of_ble_eq_true rfl) (Nat.le_of_ble_eq_true rfl) (Nat.zero_le _) (Nat.zero_le _) dX4_bestFor_79 ?_
        refine lv_topi (fun v_16 e_16 => ?_)
        refine lv_goto (tgt := 91) hx hb dX4_bestFor_82 (by decide) ?_
        have hX9 := cut2 (wc := [(xo_4_rri p0 h k0 (nI hrs)), (xo_3_iiiiiiiirrrrr h v0 v1 v2 v3n_13 (nI hh) v5 (nI ww) (nI kk) b1 b2 b3 b4 b5), (xI b1 cI 6 g1n_13), (xI b2 cI 6 g2), (xI b3 cI 6 g3), (xI b4 cI 6 g4), (xI b5 cI 6 g5), (xo_3_iiiiiiiirrrrr k0 u0n_12 u1n_12 u2n_12 u3n_12 u4n_12 u5n_12 u6n_12 u7n_12 o1 o2 o3 o4 o5), (xI o1 cI 6 f1n_12), (xI o2 cI 6 f2n_12), (xI o3 cI 6 f3n_12), (xI o4 cI 6 f4n_12), (xI o5 cI 6 f5n_12)]) hP hD [6, 7, 8, 9, 10, 11, 12, 0, 1, 2, 3, 4, 5] (by decide +kernel) rfl
        exact W.iret (v := v_16) hx hb hr (fun t ht hW => ⟨⟨v_16, (), rfl, trivial, ⟨v3n_13, u0n_12, u1n_12, u2n_12, u3n_12, u4n_12, u5n_12, u6n_12, u7n_12, g1n_13, f1n_12, f2n_12, f3n_12, f4n_12, f5n_12, va_Ht ht hX9.1, hX9.2⟩⟩, hS.F ht⟩) hS.2.2 dX4_bestFor_91
    · intro jk_10
      refine lv_if_ne (tgt := 58) hx hb dX4_bestFor_51 (by decide) (fun c_17 => ?_) (fun c_17 => ?_)
      · skip
        refine lv_iconst (v := 0) hx hb dX4_bestFor_58 (by decide) ?_
        exact jk_10 (0) _ _ _ ⟨ls, rfl, lv_sub hl [0, 1, 2, 3] rfl, hP.sub (ws' := [(xo_3_iiiiiiiirrrrr k0 u0n_6 u1n_6 u2n_6 u3n_6 u4n_6 u5n_6 u6n_6 u7n_6 o1 o2 o3 o4 o5), (xI o1 cI 6 f1n_6), (xI o2 cI 6 f2n_6), (xI o3 cI 6 f3n_6), (xI o4 cI 6 f4n_6), (xI o5 cI 6 f5n_6), (xo_4_rri p0 h k0 (nI hrs)), (xo_3_iiiiiiiirrrrr h v0 v1 v2 v3n_7 (nI hh) v5 (nI ww) (nI kk) b1 b2 b3 b4 b5), (xI b1 cI 6 g1n_7), (xI b2 cI 6 g2), (xI b3 cI 6 g3), (xI b4 cI 6 g4), (xI b5 cI 6 g5)]) [0, 1, 2, 3, 4, 5, 6, 7, 8, 9, 10, 11, 12] rfl, hD.sub (ws' := [(xo_3_iiiiiiiirrrrr k0 u0n_6 u1n_6 u2n_6 u3n_6 u4n_6 u5n_6 u6n_6 u7n_6 o1 o2 o3 o4 o5), (xI o1 cI 6 f1n_6), (xI o2 cI 6 f2n_6), (xI o3 cI 6 f3n_6), (xI o4 cI 6 f4n_6), (xI o5 cI 6 f5n_6), (xo_4_rri p0 h k0 (nI hrs)), (xo_3_iiiiiiiirrrrr h v0 v1 v2 v3n_7 (nI hh) v5 (nI ww) (nI kk) b1 b2 b3 b4 b5), (xI b1 cI 6 g1n_7), (xI b2 cI 6 g2), (xI b3 cI 6 g3), (xI b4 cI 6 g4), (xI b5 cI 6 g5)]) [0, 1, 2, 3, 4, 5, 6, 7, 8, 9, 10, 11, 12] (by decide +kernel) rfl, hS⟩
      · skip
        refine lv_iconst (v := 1) hx hb dX4_bestFor_54 (by decide) ?_
        refine lv_goto (tgt := 59) hx hb dX4_bestFor_55 (by decide) ?_
        exact jk_10 (1) _ _ _ ⟨ls, rfl, lv_sub hl [0, 1, 2, 3] rfl, hP.sub (ws' := [(xo_3_iiiiiiiirrrrr k0 u0n_6 u1n_6 u2n_6 u3n_6 u4n_6 u5n_6 u6n_6 u7n_6 o1 o2 o3 o4 o5), (xI o1 cI 6 f1n_6), (xI o2 cI 6 f2n_6), (xI o3 cI 6 f3n_6), (xI o4 cI 6 f4n_6), (xI o5 cI 6 f5n_6), (xo_4_rri p0 h k0 (nI hrs)), (xo_3_iiiiiiiirrrrr h v0 v1 v2 v3n_7 (nI hh) v5 (nI ww) (nI kk) b1 b2 b3 b4 b5), (xI b1 cI 6 g1n_7), (xI b2 cI 6 g2), (xI b3 cI 6 g3), (xI b4 cI 6 g4), (xI b5 cI 6 g5)]) [0, 1, 2, 3, 4, 5, 6, 7, 8, 9, 10, 11, 12] rfl, hD.sub (ws' := [(xo_3_iiiiiiiirrrrr k0 u0n_6 u1n_6 u2n_6 u3n_6 u4n_6 u5n_6 u6n_6 u7n_6 o1 o2 o3 o4 o5), (xI o1 cI 6 f1n_6), (xI o2 cI 6 f2n_6), (xI o3 cI 6 f3n_6), (xI o4 cI 6 f4n_6), (xI o5 cI 6 f5n_6), (xo_4_rri p0 h k0 (nI hrs)), (xo_3_iiiiiiiirrrrr h v0 v1 v2 v3n_7 (nI hh) v5 (nI ww) (nI kk) b1 b2 b3 b4 b5), (xI b1 cI 6 g1n_7), (xI b2 cI 6 g2), (xI b3 cI 6 g3), (xI b4 cI 6 g4), (xI b5 cI 6 g5)]) [0, 1, 2, 3, 4, 5, 6, 7, 8, 9, 10, 11, 12] (by decide +kernel) rfl, hS⟩
  · intro jk_4
    refine lv_if_ne (tgt := 36) hx hb dX4_bestFor_29 (by decide) (fun c_18 => ?_) (fun c_18 => ?_)
    · skip
      refine lv_iconst (v := 0) hx hb dX4_bestFor_36 (by decide) ?_
      exact jk_4 (0) _ _ _ ⟨ls, rfl, lv_sub hl [0, 1, 2] rfl, hP.sub (ws' := [(xo_4_rri p0 h k0 (nI hrs)), (xo_3_iiiiiiiirrrrr h v0 v1 v2 v3 (nI hh) v5 (nI ww) (nI kk) b1 b2 b3 b4 b5), (xI b1 cI 6 g1), (xI b2 cI 6 g2), (xI b3 cI 6 g3), (xI b4 cI 6 g4), (xI b5 cI 6 g5), (xo_3_iiiiiiiirrrrr k0 u0 u1 u2 u3 u4 u5 u6 u7 o1 o2 o3 o4 o5), (xI o1 cI 6 f1), (xI o2 cI 6 f2), (xI o3 cI 6 f3), (xI o4 cI 6 f4), (xI o5 cI 6 f5)]) [0, 1, 2, 3, 4, 5, 6, 7, 8, 9, 10, 11, 12] rfl, hD.sub (ws' := [(xo_4_rri p0 h k0 (nI hrs)), (xo_3_iiiiiiiirrrrr h v0 v1 v2 v3 (nI hh) v5 (nI ww) (nI kk) b1 b2 b3 b4 b5), (xI b1 cI 6 g1), (xI b2 cI 6 g2), (xI b3 cI 6 g3), (xI b4 cI 6 g4), (xI b5 cI 6 g5), (xo_3_iiiiiiiirrrrr k0 u0 u1 u2 u3 u4 u5 u6 u7 o1 o2 o3 o4 o5), (xI o1 cI 6 f1), (xI o2 cI 6 f2), (xI o3 cI 6 f3), (xI o4 cI 6 f4), (xI o5 cI 6 f5)]) [0, 1, 2, 3, 4, 5, 6, 7, 8, 9, 10, 11, 12] (by decide +kernel) rfl, hS⟩
    · skip
      refine lv_iconst (v := 1) hx hb dX4_bestFor_32 (by decide) ?_
      refine lv_goto (tgt := 37) hx hb dX4_bestFor_33 (by decide) ?_
      exact jk_4 (1) _ _ _ ⟨ls, rfl, lv_sub hl [0, 1, 2] rfl, hP.sub (ws' := [(xo_4_rri p0 h k0 (nI hrs)), (xo_3_iiiiiiiirrrrr h v0 v1 v2 v3 (nI hh) v5 (nI ww) (nI kk) b1 b2 b3 b4 b5), (xI b1 cI 6 g1), (xI b2 cI 6 g2), (xI b3 cI 6 g3), (xI b4 cI 6 g4), (xI b5 cI 6 g5), (xo_3_iiiiiiiirrrrr k0 u0 u1 u2 u3 u4 u5 u6 u7 o1 o2 o3 o4 o5), (xI o1 cI 6 f1), (xI o2 cI 6 f2), (xI o3 cI 6 f3), (xI o4 cI 6 f4), (xI o5 cI 6 f5)]) [0, 1, 2, 3, 4, 5, 6, 7, 8, 9, 10, 11, 12] rfl, hD.sub (ws' := [(xo_4_rri p0 h k0 (nI hrs)), (xo_3_iiiiiiiirrrrr h v0 v1 v2 v3 (nI hh) v5 (nI ww) (nI kk) b1 b2 b3 b4 b5), (xI b1 cI 6 g1), (xI b2 cI 6 g2), (xI b3 cI 6 g3), (xI b4 cI 6 g4), (xI b5 cI 6 g5), (xo_3_iiiiiiiirrrrr k0 u0 u1 u2 u3 u4 u5 u6 u7 o1 o2 o3 o4 o5), (xI o1 cI 6 f1), (xI o2 cI 6 f2), (xI o3 cI 6 f3), (xI o4 cI 6 f4), (xI o5 cI 6 f5)]) [0, 1, 2, 3, 4, 5, 6, 7, 8, 9, 10, 11, 12] (by decide +kernel) rfl, hS⟩
set_option maxHeartbeats 4000000 in
set_option maxRecDepth 100000 in
theorem r_X4_bestFor_4 (l : Launch) (dC : Nat → ClassId) (dI : Nat → Nat → Nat) (cI cZ cL cJ : ClassId) (sz : Nat) (p0 : Nat) (hrs : Nat) (h : Nat) (v0 : Int32) (v1 : Int32) (v2 : Int32) (v3 : Int32) (v5 : Int32) (hh : Nat) (ww : Nat) (kk : Nat) (b1 : Nat) (b2 : Nat) (b3 : Nat) (b4 : Nat) (b5 : Nat) (g1 : Nat → Int32) (g2 : Nat → Int32) (g3 : Nat → Int32) (g4 : Nat → Int32) (g5 : Nat → Int32) (k0 : Nat) (u0 : Int32) (u1 : Int32) (u2 : Int32) (u3 : Int32) (u4 : Int32) (u5 : Int32) (u6 : Int32) (u7 : Int32) (o1 : Nat) (o2 : Nat) (o3 : Nat) (o4 : Nat) (o5 : Nat) (f1 : Nat → Int32) (f2 : Nat → Int32) (f3 : Nat → Int32) (f4 : Nat → Int32) (f5 : Nat → Int32) (x : Int32) (hr20 : hrs ≤ 20) (hhb : hh ≤ 999) (hww : ww ≤ 6) (hkk : kk ≤ 6) : Met l yX4_bestFor wsX4_bestFor ({ frames := 9, cells := 0, slots := 0, locals := 206 }) (va_Pc [.ref p0, .int x, .int 4] (fun U => U.heap.size = sz ∧ va_P (dC, dI) vwCl [(xo_4_rri p0 h k0 (nI hrs)), (xo_3_iiiiiiiirrrrr h v0 v1 v2 v3 (nI hh) v5 (nI ww) (nI kk) b1 b2 b3 b4 b5), (xI b1 cI 6 g1), (xI b2 cI 6 g2), (xI b3 cI 6 g3), (xI b4 cI 6 g4), (xI b5 cI 6 g5), (xo_3_iiiiiiiirrrrr k0 u0 u1 u2 u3 u4 u5 u6 u7 o1 o2 o3 o4 o5), (xI o1 cI 6 f1), (xI o2 cI 6 f2), (xI o3 cI 6 f3), (xI o4 cI 6 f4), (xI o5 cI 6 f5)] U.heap ∧ va_K (dC, dI) vwCl [(cI, .int), (cZ, .boolean), (cL, .object RX3), (cJ, .array .int)] U ∧ va_D (fun _ => True) [(xo_4_rri p0 h k0 (nI hrs)), (xo_3_iiiiiiiirrrrr h v0 v1 v2 v3 (nI hh) v5 (nI ww) (nI kk) b1 b2 b3 b4 b5), (xI b1 cI 6 g1), (xI b2 cI 6 g2), (xI b3 cI 6 g3), (xI b4 cI 6 g4), (xI b5 cI 6 g5), (xo_3_iiiiiiiirrrrr k0 u0 u1 u2 u3 u4 u5 u6 u7 o1 o2 o3 o4 o5), (xI o1 cI 6 f1), (xI o2 cI 6 f2), (xI o3 cI 6 f3), (xI o4 cI 6 f4), (xI o5 cI 6 f5)])) (va_Qi (fun r (_ : Unit) => True) (fun (_ : Unit) t => ∃ (v3n : Int32) (u0n : Int32) (u1n : Int32) (u2n : Int32) (u3n : Int32) (u4n : Int32) (u5n : Int32) (u6n : Int32) (u7n : Int32) (g1n : Nat → Int32) (f1n : Nat → Int32) (f2n : Nat → Int32) (f3n : Nat → Int32) (f4n : Nat → Int32) (f5n : Nat → Int32), va_P (dC, dI) vwCl [(xo_4_rri p0 h k0 (nI hrs)), (xo_3_iiiiiiiirrrrr h v0 v1 v2 v3n (nI hh) v5 (nI ww) (nI kk) b1 b2 b3 b4 b5), (xI b1 cI 6 g1n), (xI b2 cI 6 g2), (xI b3 cI 6 g3), (xI b4 cI 6 g4), (xI b5 cI 6 g5), (xo_3_iiiiiiiirrrrr k0 u0n u1n u2n u3n u4n u5n u6n u7n o1 o2 o3 o4 o5), (xI o1 cI 6 f1n), (xI o2 cI 6 f2n), (xI o3 cI 6 f3n), (xI o4 cI 6 f4n), (xI o5 cI 6 f5n)] t.heap ∧ va_D (va_A [(xo_4_rri p0 h k0 (nI hrs)), (xo_3_iiiiiiiirrrrr h v0 v1 v2 v3 (nI hh) v5 (nI ww) (nI kk) b1 b2 b3 b4 b5), (xI b1 cI 6 g1), (xI b2 cI 6 g2), (xI b3 cI 6 g3), (xI b4 cI 6 g4), (xI b5 cI 6 g5), (xo_3_iiiiiiiirrrrr k0 u0 u1 u2 u3 u4 u5 u6 u7 o1 o2 o3 o4 o5), (xI o1 cI 6 f1), (xI o2 cI 6 f2), (xI o3 cI 6 f3), (xI o4 cI 6 f4), (xI o5 cI 6 f5)] sz) [(xo_4_rri p0 h k0 (nI hrs)), (xo_3_iiiiiiiirrrrr h v0 v1 v2 v3n (nI hh) v5 (nI ww) (nI kk) b1 b2 b3 b4 b5), (xI b1 cI 6 g1n), (xI b2 cI 6 g2), (xI b3 cI 6 g3), (xI b4 cI 6 g4), (xI b5 cI 6 g5), (xo_3_iiiiiiiirrrrr k0 u0n u1n u2n u3n u4n u5n u6n u7n o1 o2 o3 o4 o5), (xI o1 cI 6 f1n), (xI o2 cI 6 f2n), (xI o3 cI 6 f3n), (xI o4 cI 6 f4n), (xI o5 cI 6 f5n)]) (va_A [(xo_4_rri p0 h k0 (nI hrs)), (xo_3_iiiiiiiirrrrr h v0 v1 v2 v3 (nI hh) v5 (nI ww) (nI kk) b1 b2 b3 b4 b5), (xI b1 cI 6 g1), (xI b2 cI 6 g2), (xI b3 cI 6 g3), (xI b4 cI 6 g4), (xI b5 cI 6 g5), (xo_3_iiiiiiiirrrrr k0 u0 u1 u2 u3 u4 u5 u6 u7 o1 o2 o3 o4 o5), (xI o1 cI 6 f1), (xI o2 cI 6 f2), (xI o3 cI 6 f3), (xI o4 cI 6 f4), (xI o5 cI 6 f5)] sz)) 0 0 (va_A [(xo_4_rri p0 h k0 (nI hrs)), (xo_3_iiiiiiiirrrrr h v0 v1 v2 v3 (nI hh) v5 (nI ww) (nI kk) b1 b2 b3 b4 b5), (xI b1 cI 6 g1), (xI b2 cI 6 g2), (xI b3 cI 6 g3), (xI b4 cI 6 g4), (xI b5 cI 6 g5), (xo_3_iiiiiiiirrrrr k0 u0 u1 u2 u3 u4 u5 u6 u7 o1 o2 o3 o4 o5), (xI o1 cI 6 f1), (xI o2 cI 6 f2), (xI o3 cI 6 f3), (xI o4 cI 6 f4), (xI o5 cI 6 f5)] sz) := by
  refine Met.ofW (cc := cX4_bestFor) (maxL := 5) (ret := (some .int)) (by decide) rfl ?_
  intro p e s m args below meth c s₁ B hml hv
  obtain ⟨rfl, hsz, hP, hK, hD0⟩ := hv
  have hx := B.exec
  have hb := B.bytes
  have hr := B.returns
  have hts := atoms_spec (ws := wsX4_bestFor) B.pre
  have hown : s.vm.findClass RX4 = some m.cls := findClass_of_methodNamed B.named
  have hlocks := B.notSynchronized
  subst hsz
  have hD := hD0.self (sz := s.heap.size)
  generalize hAe : va_A [(xo_4_rri p0 h k0 (nI hrs)), (xo_3_iiiiiiiirrrrr h v0 v1 v2 v3 (nI hh) v5 (nI ww) (nI kk) b1 b2 b3 b4 b5), (xI b1 cI 6 g1), (xI b2 cI 6 g2), (xI b3 cI 6 g3), (xI b4 cI 6 g4), (xI b5 cI 6 g5), (xo_3_iiiiiiiirrrrr k0 u0 u1 u2 u3 u4 u5 u6 u7 o1 o2 o3 o4 o5), (xI o1 cI 6 f1), (xI o2 cI 6 f2), (xI o3 cI 6 f3), (xI o4 cI 6 f4), (xI o5 cI 6 f5)] s.heap.size = A at hD ⊢
  have hA : ∀ q : Nat, s.heap.size ≤ q → A q := fun q h => by rw [← hAe]; exact Or.inr h
  have hS : va_S A s.heap s.heap [] := va_S.rf
  have hP : va_P (dC, dI) vwCl [(xo_4_rri p0 h k0 (nI hrs)), (xo_3_iiiiiiiirrrrr h v0 v1 v2 v3 (nI hh) v5 (nI ww) (nI kk) b1 b2 b3 b4 b5), (xI b1 cI 6 g1), (xI b2 cI 6 g2), (xI b3 cI 6 g3), (xI b4 cI 6 g4), (xI b5 cI 6 g5), (xo_3_iiiiiiiirrrrr k0 u0 u1 u2 u3 u4 u5 u6 u7 o1 o2 o3 o4 o5), (xI o1 cI 6 f1), (xI o2 cI 6 f2), (xI o3 cI 6 f3), (xI o4 cI 6 f4), (xI o5 cI 6 f5)] s.heap := hP
  have hl := lv_entry ([.ref p0, .int x, .int 4]) (n := 5) (Nat.le_of_ble_eq_true rfl)
  rw [lg_entry_eq]
  generalize (lg_sl ([.ref p0, .int x, .int 4]) ++ List.replicate (5 - (lg_sl ([.ref p0, .int x, .int 4])).length) Slot.unset).toArray = ls at hl ⊢
  have hl : lv_has ls 5 [(0, .ref p0), (1, .int x), (2, .int 4)] := hl
  refine lv_iload_n hx hb dX4_bestFor_0 rfl (lv_at hl 2 rfl) ?_
  refine lv_if_gt (tgt := 27) hx hb dX4_bestFor_1 (by decide) (fun _ => ?_) (fun c_ => absurd (by decide) c_)
  refine lv_aload_n hx hb dX4_bestFor_27 rfl (lv_at hl 0 rfl) ?_
  refine lv_iload_n hx hb dX4_bestFor_28 rfl (lv_at hl 1 rfl) ?_
  refine jn (σ := (Int32)) (fun (st : (Int32)) H locs g => match st with | w_3 => ∃ ls : Array Slot, g = F0 m 37 ls [.int w_3, .ref p0] ∧ lv_has ls 5 [(0, .ref p0), (1, .int x), (2, .int 4)] ∧ va_P (dC, dI) vwCl [(xo_4_rri p0 h k0 (nI hrs)), (xo_3_iiiiiiiirrrrr h v0 v1 v2 v3 (nI hh) v5 (nI ww) (nI kk) b1 b2 b3 b4 b5), (xI b1 cI 6 g1), (xI b2 cI 6 g2), (xI b3 cI 6 g3), (xI b4 cI 6 g4), (xI b5 cI 6 g5), (xo_3_iiiiiiiirrrrr k0 u0 u1 u2 u3 u4 u5 u6 u7 o1 o2 o3 o4 o5), (xI o1 cI 6 f1), (xI o2 cI 6 f2), (xI o3 cI 6 f3), (xI o4 cI 6 f4), (xI o5 cI 6 f5)] H ∧ va_D A [(xo_4_rri p0 h k0 (nI hrs)), (xo_3_iiiiiiiirrrrr h v0 v1 v2 v3 (nI hh) v5 (nI ww) (nI kk) b1 b2 b3 b4 b5), (xI b1 cI 6 g1), (xI b2 cI 6 g2), (xI b3 cI 6 g3), (xI b4 cI 6 g4), (xI b5 cI 6 g5), (xo_3_iiiiiiiirrrrr k0 u0 u1 u2 u3 u4 u5 u6 u7 o1 o2 o3 o4 o5), (xI o1 cI 6 f1), (xI o2 cI 6 f2), (xI o3 cI 6 f3), (xI o4 cI 6 f4), (xI o5 cI 6 f5)] ∧ va_S A s.heap H locs) ?_ ?_
  · rintro w_3 H locs _ ⟨ls, rfl, hl, hP, hD, hS⟩
    refine lv_iload_n hx hb dX4_bestFor_37 rfl (lv_at hl 2 rfl) ?_
    refine lv_iconst (v := 1) hx hb dX4_bestFor_38 (by decide) ?_
    refine lv_isub hx hb dX4_bestFor_39 ?_
    refine lv_topi (fun v_5 e_5 => ?_)
    obtain rfl : v_5 = 3 := (e_5).trans (by decide)
    have hc_6 := cutW (wc := [(xo_4_rri p0 h k0 (nI hrs)), (xo_3_iiiiiiiirrrrr h v0 v1 v2 v3 (nI hh) v5 (nI ww) (nI kk) b1 b2 b3 b4 b5), (xI b1 cI 6 g1), (xI b2 cI 6 g2), (xI b3 cI 6 g3), (xI b4 cI 6 g4), (xI b5 cI 6 g5), (xo_3_iiiiiiiirrrrr k0 u0 u1 u2 u3 u4 u5 u6 u7 o1 o2 o3 o4 o5), (xI o1 cI 6 f1), (xI o2 cI 6 f2), (xI o3 cI 6 f3), (xI o4 cI 6 f4), (xI o5 cI 6 f5)]) hP hD hS hA [0, 1, 2, 3, 4, 5, 6, 7, 8, 9, 10, 11, 12] (by decide +kernel) rfl
    refine va_calli (va_runV (As := [.int w_3, .int 3]) (rest := []) ⟨hx, hb, hml, hown, hts⟩ (r_X4_bestFor_3 l dC dI cI cZ cL cJ H.size p0 hrs h v0 v1 v2 v3 v5 hh ww kk b1 b2 b3 b4 b5 g1 g2 g3 g4 g5 k0 u0 u1 u2 u3 u4 u5 u6 u7 o1 o2 o3 o4 o5 f1 f2 f3 f4 f5 w_3 (hr20) (hhb) (hww) (hkk)) (cwV 2 hts gX4_bestFor_X4_bestFor rfl rfl rfl (by decide +kernel) ⟨Nat.le_of_ble_eq_true rfl, Nat.le_of_ble_eq_true rfl⟩) (pvW 4 0 hK hP rfl rfl hc_6) rfl rfl hl.1 rfl (lv_room (Nat.le_of_ble_eq_true rfl)) dX4_bestFor_40 ⟨Nat.le_of_ble_eq_true rfl, Nat.le_of_ble_eq_true rfl⟩) hS (fun q _ h => hc_6.2.2 q h) hc_6.2.2 (fun r_6 u_6 t_6 H1 locs ht hvm h_6 hB hz1 hk1 hS => ?_)
    refine xl_15_2 hB (fun v3n_6 u0n_6 u1n_6 u2n_6 u3n_6 u4n_6 u5n_6 u6n_6 u7n_6 g1n_6 f1n_6 f2n_6 f3n_6 f4n_6 f5n_6 hP1 hD1 => ?_)
    clear hB
    rw [ht] at hP1
    obtain ⟨hP, hD⟩ := va_join (wr := []) (w1 := [(xo_4_rri p0 h k0 (nI hrs)), (xo_3_iiiiiiiirrrrr h v0 v1 v2 v3n_6 (nI hh) v5 (nI ww) (nI kk) b1 b2 b3 b4 b5), (xI b1 cI 6 g1n_6), (xI b2 cI 6 g2), (xI b3 cI 6 g3), (xI b4 cI 6 g4), (xI b5 cI 6 g5), (xo_3_iiiiiiiirrrrr k0 u0n_6 u1n_6 u2n_6 u3n_6 u4n_6 u5n_6 u6n_6 u7n_6 o1 o2 o3 o4 o5), (xI o1 cI 6 f1n_6), (xI o2 cI 6 f2n_6), (xI o3 cI 6 f3n_6), (xI o4 cI 6 f4n_6), (xI o5 cI 6 f5n_6)]) hP hD [0, 1, 2, 3, 4, 5, 6, 7, 8, 9, 10, 11, 12] [] rfl rfl (by decide +kernel) (by decide +kernel) hk1 hc_6.2.2 hP1 hD1
    generalize H1 = H at hP hS ⊢
    have hP : va_P (dC, dI) vwCl [(xo_4_rri p0 h k0 (nI hrs)), (xo_3_iiiiiiiirrrrr h v0 v1 v2 v3n_6 (nI hh) v5 (nI ww) (nI kk) b1 b2 b3 b4 b5), (xI b1 cI 6 g1n_6), (xI b2 cI 6 g2), (xI b3 cI 6 g3), (xI b4 cI 6 g4), (xI b5 cI 6 g5), (xo_3_iiiiiiiirrrrr k0 u0n_6 u1n_6 u2n_6 u3n_6 u4n_6 u5n_6 u6n_6 u7n_6 o1 o2 o3 o4 o5), (xI o1 cI 6 f1n_6), (xI o2 cI 6 f2n_6), (xI o3 cI 6 f3n_6), (xI o4 cI 6 f4n_6), (xI o5 cI 6 f5n_6)] H := hP
    have hD := dto hP hD
    refine lv_istore_n (lv' := [(3, .int r_6), (0, .ref p0), (1, .int x), (2, .int 4)]) hx hb dX4_bestFor_43 rfl hl (by decide) rfl (fun ls hl => ?_)
    refine lv_aload_n hx hb dX4_bestFor_44 rfl (lv_at hl 1 rfl) ?_
    refine lv_iload_n hx hb dX4_bestFor_45 rfl (lv_at hl 2 rfl) ?_
    have hc_7 := cutW (wc := [(xo_4_rri p0 h k0 (nI hrs)), (xo_3_iiiiiiiirrrrr h v0 v1 v2 v3n_6 (nI hh) v5 (nI ww) (nI kk) b1 b2 b3 b4 b5), (xI b1 cI 6 g1n_6), (xI b2 cI 6 g2), (xI b3 cI 6 g3), (xI b4 cI 6 g4), (xI b5 cI 6 g5)]) hP hD hS hA [0, 1, 2, 3, 4, 5, 6] (by decide +kernel) rfl
    refine va_callv (va_runV (As := [.int x]) (rest := []) ⟨hx, hb, hml, hown, hts⟩ (r_X4_turn l dC dI cI cZ cL cJ H.size p0 hrs h v0 v1 v2 v3n_6 v5 hh ww kk b1 b2 b3 b4 b5 g1n_6 g2 g3 g4 g5 k0 x (hr20) (hhb) (hww) (hkk)) (cwV 1 hts gX4_bestFor_X4_turn rfl rfl rfl (by decide +kernel) ⟨Nat.le_of_ble_eq_true rfl, Nat.le_of_ble_eq_true rfl⟩) (pvW 4 0 hK hP rfl rfl hc_7) rfl rfl hl.1 rfl (lv_room (Nat.le_of_ble_eq_true rfl)) dX4_bestFor_46 ⟨Nat.le_of_ble_eq_true rfl, Nat.le_of_ble_eq_true rfl⟩) hS (fun q _ h => hc_7.2.2 q h) hc_7.2.2 (fun u_7 t_7 H1 locs ht hvm h_7 hB hz1 hk1 hS => ?_)
    refine xl_2_2 hB (fun v3n_7 g1n_7 hP1 hD1 => ?_)
    clear hB
    rw [ht] at hP1
    obtain ⟨hP, hD⟩ := va_join (wr := [(xo_3_iiiiiiiirrrrr k0 u0n_6 u1n_6 u2n_6 u3n_6 u4n_6 u5n_6 u6n_6 u7n_6 o1 o2 o3 o4 o5), (xI o1 cI 6 f1n_6), (xI o2 cI 6 f2n_6), (xI o3 cI 6 f3n_6), (xI o4 cI 6 f4n_6), (xI o5 cI 6 f5n_6)]) (w1 := [(xo_4_rri p0 h k0 (nI hrs)), (xo_3_iiiiiiiirrrrr h v0 v1 v2 v3n_7 (nI hh) v5 (nI ww) (nI kk) b1 b2 b3 b4 b5), (xI b1 cI 6 g1n_7), (xI b2 cI 6 g2), (xI b3 cI 6 g3), (xI b4 cI 6 g4), (xI b5 cI 6 g5)]) hP hD [0, 1, 2, 3, 4, 5, 6] [7, 8, 9, 10, 11, 12] rfl rfl (by decide +kernel) (by decide +kernel) hk1 hc_7.2.2 hP1 hD1
    generalize H1 = H at hP hS ⊢
    have hP : va_P (dC, dI) vwCl [(xo_3_iiiiiiiirrrrr k0 u0n_6 u1n_6 u2n_6 u3n_6 u4n_6 u5n_6 u6n_6 u7n_6 o1 o2 o3 o4 o5), (xI o1 cI 6 f1n_6), (xI o2 cI 6 f2n_6), (xI o3 cI 6 f3n_6), (xI o4 cI 6 f4n_6), (xI o5 cI 6 f5n_6), (xo_4_rri p0 h k0 (nI hrs)), (xo_3_iiiiiiiirrrrr h v0 v1 v2 v3n_7 (nI hh) v5 (nI ww) (nI kk) b1 b2 b3 b4 b5), (xI b1 cI 6 g1n_7), (xI b2 cI 6 g2), (xI b3 cI 6 g3), (xI b4 cI 6 g4), (xI b5 cI 6 g5)] H := hP
    have hD := dto hP hD
    refine lv_aload_n hx hb dX4_bestFor_49 rfl (lv_at hl 1 rfl) ?_
    refine lv_iload_n hx hb dX4_bestFor_50 rfl (lv_at hl 2 rfl) ?_
    refine jn (σ := (Int32)) (fun (st : (Int32)) H locs g => match st with | w_9 => ∃ ls : Array Slot, g = F0 m 59 ls [.int w_9, .ref p0] ∧ lv_has ls 5 [(3, .int r_6), (0, .ref p0), (1, .int x), (2, .int 4)] ∧ va_P (dC, dI) vwCl [(xo_3_iiiiiiiirrrrr k0 u0n_6 u1n_6 u2n_6 u3n_6 u4n_6 u5n_6 u6n_6 u7n_6 o1 o2 o3 o4 o5), (xI o1 cI 6 f1n_6), (xI o2 cI 6 f2n_6), (xI o3 cI 6 f3n_6), (xI o4 cI 6 f4n_6), (xI o5 cI 6 f5n_6), (xo_4_rri p0 h k0 (nI hrs)), (xo_3_iiiiiiiirrrrr h v0 v1 v2 v3n_7 (nI hh) v5 (nI ww) (nI kk) b1 b2 b3 b4 b5), (xI b1 cI 6 g1n_7), (xI b2 cI 6 g2), (xI b3 cI 6 g3), (xI b4 cI 6 g4), (xI b5 cI 6 g5)] H ∧ va_D A [(xo_3_iiiiiiiirrrrr k0 u0n_6 u1n_6 u2n_6 u3n_6 u4n_6 u5n_6 u6n_6 u7n_6 o1 o2 o3 o4 o5), (xI o1 cI 6 f1n_6), (xI o2 cI 6 f2n_6), (xI o3 cI 6 f3n_6), (xI o4 cI 6 f4n_6), (xI o5 cI 6 f5n_6), (xo_4_rri p0 h k0 (nI hrs)), (xo_3_iiiiiiiirrrrr h v0 v1 v2 v3n_7 (nI hh) v5 (nI ww) (nI kk) b1 b2 b3 b4 b5), (xI b1 cI 6 g1n_7), (xI b2 cI 6 g2), (xI b3 cI 6 g3), (xI b4 cI 6 g4), (xI b5 cI 6 g5)] ∧ va_S A s.heap H locs) ?_ ?_
    · rintro w_9 H locs _ ⟨ls, rfl, hl, hP, hD, hS⟩
      refine lv_iload_n hx hb dX4_bestFor_59 rfl (lv_at hl 3 rfl) ?_
      refine lv_iconst (v := 1) hx hb dX4_bestFor_60 (by decide) ?_
      refine lv_isub hx hb dX4_bestFor_61 ?_
      refine lv_topi (fun v_11 e_11 => ?_)
      obtain rfl : v_11 = 3 := (e_11).trans (by decide)
      have hc_12 := cutW (wc := [(xo_4_rri p0 h k0 (nI hrs)), (xo_3_iiiiiiiirrrrr h v0 v1 v2 v3n_7 (nI hh) v5 (nI ww) (nI kk) b1 b2 b3 b4 b5), (xI b1 cI 6 g1n_7), (xI b2 cI 6 g2), (xI b3 cI 6 g3), (xI b4 cI 6 g4), (xI b5 cI 6 g5), (xo_3_iiiiiiiirrrrr k0 u0n_6 u1n_6 u2n_6 u3n_6 u4n_6 u5n_6 u6n_6 u7n_6 o1 o2 o3 o4 o5), (xI o1 cI 6 f1n_6), (xI o2 cI 6 f2n_6), (xI o3 cI 6 f3n_6), (xI o4 cI 6 f4n_6), (xI o5 cI 6 f5n_6)]) hP hD hS hA [6, 7, 8, 9, 10, 11, 12, 0, 1, 2, 3, 4, 5] (by decide +kernel) rfl
      refine va_calli (va_runV (As := [.int w_9, .int 3]) (rest := []) ⟨hx, hb, hml, hown, hts⟩ (r_X4_bestFor_3 l dC dI cI cZ cL cJ H.size p0 hrs h v0 v1 v2 v3n_7 v5 hh ww kk b1 b2 b3 b4 b5 g1n_7 g2 g3 g4 g5 k0 u0n_6 u1n_6 u2n_6 u3n_6 u4n_6 u5n_6 u6n_6 u7n_6 o1 o2 o3 o4 o5 f1n_6 f2n_6 f3n_6 f4n_6 f5n_6 w_9 (hr20) (hhb) (hww) (hkk)) (cwV 2 hts gX4_bestFor_X4_bestFor rfl rfl rfl (by decide +kernel) ⟨Nat.le_of_ble_eq_true rfl, Nat.le_of_ble_eq_true rfl⟩) (pvW 4 6 hK hP rfl rfl hc_12) rfl rfl hl.1 rfl (lv_room (Nat.le_of_ble_eq_true rfl)) dX4_bestFor_62 ⟨Nat.le_of_ble_eq_true rfl, Nat.le_of_ble_eq_true rfl⟩) hS (fun q _ h => hc_12.2.2 q h) hc_12.2.2 (fun r_12 u_12 t_12 H1 locs ht hvm h_12 hB hz1 hk1 hS => ?_)
      refine xl_15_2 hB (fun v3n_12 u0n_12 u1n_12 u2n_12 u3n_12 u4n_12 u5n_12 u6n_12 u7n_12 g1n_12 f1n_12 f2n_12 f3n_12 f4n_12 f5n_12 hP1 hD1 => ?_)
      clear hB
      rw [ht] at hP1
      obtain ⟨hP, hD⟩ := va_join (wr := []) (w1 := [(xo_4_rri p0 h k0 (nI hrs)), (xo_3_iiiiiiiirrrrr h v0 v1 v2 v3n_12 (nI hh) v5 (nI ww) (nI kk) b1 b2 b3 b4 b5), (xI b1 cI 6 g1n_12), (xI b2 cI 6 g2), (xI b3 cI 6 g3), (xI b4 cI 6 g4), (xI b5 cI 6 g5), (xo_3_iiiiiiiirrrrr k0 u0n_12 u1n_12 u2n_12 u3n_12 u4n_12 u5n_12 u6n_12 u7n_12 o1 o2 o3 o4 o5), (xI o1 cI 6 f1n_12), (xI o2 cI 6 f2n_12), (xI o3 cI 6 f3n_12), (xI o4 cI 6 f4n_12), (xI o5 cI 6 f5n_12)]) hP hD [6, 7, 8, 9, 10, 11, 12, 0, 1, 2, 3, 4, 5] [] rfl rfl (by decide +kernel) (by decide +kernel) hk1 hc_12.2.2 hP1 hD1
      generalize H1 = H at hP hS ⊢
      have hP : va_P (dC, dI) vwCl [(xo_4_rri p0 h k0 (nI hrs)), (xo_3_iiiiiiiirrrrr h v0 v1 v2 v3n_12 (nI hh) v5 (nI ww) (nI kk) b1 b2 b3 b4 b5), (xI b1 cI 6 g1n_12), (xI b2 cI 6 g2), (xI b3 cI 6 g3), (xI b4 cI 6 g4), (xI b5 cI 6 g5), (xo_3_iiiiiiiirrrrr k0 u0n_12 u1n_12 u2n_12 u3n_12 u4n_12 u5n_12 u6n_12 u7n_12 o1 o2 o3 o4 o5), (xI o1 cI 6 f1n_12), (xI o2 cI 6 f2n_12), (xI o3 cI 6 f3n_12), (xI o4 cI 6 f4n_12), (xI o5 cI 6 f5n_12)] H := hP
      have hD := dto hP hD
      refine lv_istore (lv' := [(4, .int r_12), (3, .int r_6), (0, .ref p0), (1, .int x), (2, .int 4)]) hx hb dX4_bestFor_65 hl (by decide) rfl (fun ls hl => ?_)
      refine lv_aload_n hx hb dX4_bestFor_67 rfl (lv_at hl 2 rfl) ?_
      refine lv_iload_n hx hb dX4_bestFor_68 rfl (lv_at hl 3 rfl) ?_
      have hc_13 := cutW (wc := [(xo_4_rri p0 h k0 (nI hrs)), (xo_3_iiiiiiiirrrrr h v0 v1 v2 v3n_12 (nI hh) v5 (nI ww) (nI kk) b1 b2 b3 b4 b5), (xI b1 cI 6 g1n_12), (xI b2 cI 6 g2), (xI b3 cI 6 g3), (xI b4 cI 6 g4), (xI b5 cI 6 g5)]) hP hD hS hA [0, 1, 2, 3, 4, 5, 6] (by decide +kernel) rfl
      refine va_callv (va_runV (As := [.int x]) (rest := []) ⟨hx, hb, hml, hown, hts⟩ (r_X4_turn l dC dI cI cZ cL cJ H.size p0 hrs h v0 v1 v2 v3n_12 v5 hh ww kk b1 b2 b3 b4 b5 g1n_12 g2 g3 g4 g5 k0 x (hr20) (hhb) (hww) (hkk)) (cwV 1 hts gX4_bestFor_X4_turn rfl rfl rfl (by decide +kernel) ⟨Nat.le_of_ble_eq_true rfl, Nat.le_of_ble_eq_true rfl⟩) (pvW 4 0 hK hP rfl rfl hc_13) rfl rfl hl.1 rfl (lv_room (Nat.le_of_ble_eq_true rfl)) dX4_bestFor_69 ⟨Nat.le_of_ble_eq_true rfl, Nat.le_of_ble_eq_true rfl⟩) hS (fun q _ h => hc_13.2.2 q h) hc_13.2.2 (fun u_13 t_13 H1 locs ht hvm h_13 hB hz1 hk1 hS => ?_)
      refine xl_2_2 hB (fun v3n_13 g1n_13 hP1 hD1 => ?_)
      clear hB
      rw [ht] at hP1
      obtain ⟨hP, hD⟩ := va_join (wr := [(xo_3_iiiiiiiirrrrr k0 u0n_12 u1n_12 u2n_12 u3n_12 u4n_12 u5n_12 u6n_12 u7n_12 o1 o2 o3 o4 o5), (xI o1 cI 6 f1n_12), (xI o2 cI 6 f2n_12), (xI o3 cI 6 f3n_12), (xI o4 cI 6 f4n_12), (xI o5 cI 6 f5n_12)]) (w1 := [(xo_4_rri p0 h k0 (nI hrs)), (xo_3_iiiiiiiirrrrr h v0 v1 v2 v3n_13 (nI hh) v5 (nI ww) (nI kk) b1 b2 b3 b4 b5), (xI b1 cI 6 g1n_13), (xI b2 cI 6 g2), (xI b3 cI 6 g3), (xI b4 cI 6 g4), (xI b5 cI 6 g5)]) hP hD [0, 1, 2, 3, 4, 5, 6] [7, 8, 9, 10, 11, 12] rfl rfl (by decide +kernel) (by decide +kernel) hk1 hc_13.2.2 hP1 hD1
      generalize H1 = H at hP hS ⊢
      have hP : va_P (dC, dI) vwCl [(xo_3_iiiiiiiirrrrr k0 u0n_12 u1n_12 u2n_12 u3n_12 u4n_12 u5n_12 u6n_12 u7n_12 o1 o2 o3 o4 o5), (xI o1 cI 6 f1n_12), (xI o2 cI 6 f2n_12), (xI o3 cI 6 f3n_12), (xI o4 cI 6 f4n_12), (xI o5 cI 6 f5n_12), (xo_4_rri p0 h k0 (nI hrs)), (xo_3_iiiiiiiirrrrr h v0 v1 v2 v3n_13 (nI hh) v5 (nI ww) (nI kk) b1 b2 b3 b4 b5), (xI b1 cI 6 g1n_13), (xI b2 cI 6 g2), (xI b3 cI 6 g3), (xI b4 cI 6 g4), (xI b5 cI 6 g5)] H := hP
      have hD := dto hP hD
      refine lv_iload_n hx hb dX4_bestFor_72 rfl (lv_at hl 3 rfl) ?_
      refine lv_if_eq (tgt := 85) hx hb dX4_bestFor_73 (by decide) (fun c_14 => ?_) (fun c_14 => ?_)
      · skip
        refine lv_iload_n hx hb dX4_bestFor_85 rfl (lv_at hl 1 rfl) ?_
        refine lv_iload hx hb dX4_bestFor_86 (lv_at hl 0 rfl) ?_
        refine va_mmin hx hb (by rw [hml]; exact hl.1.symm) hown (hts _ mx_X4_bestFor_8) (hts _ mx_X4_bestFor_9) (hts _ mx_X4_bestFor_6) (hts _ mx_X4_bestFor_10) (Nat.le_of_ble_eq_true rfl) (Nat.le_of_ble_eq_true rfl) (Nat.zero_le _) (Nat.zero_le _) dX4_bestFor_88 ?_
        refine lv_topi (fun v_15 e_15 => ?_)
        have hX9 := cut2 (wc := [(xo_4_rri p0 h k0 (nI hrs)), (xo_3_iiiiiiiirrrrr h v0 v1 v2 v3n_13 (nI hh) v5 (nI ww) (nI kk) b1 b2 b3 b4 b5), (xI b1 cI 6 g1n_13), (xI b2 cI 6 g2), (xI b3 cI 6 g3), (xI b4 cI 6 g4), (xI b5 cI 6 g5), (xo_3_iiiiiiiirrrrr k0 u0n_12 u1n_12 u2n_12 u3n_12 u4n_12 u5n_12 u6n_12 u7n_12 o1 o2 o3 o4 o5), (xI o1 cI 6 f1n_12), (xI o2 cI 6 f2n_12), (xI o3 cI 6 f3n_12), (xI o4 cI 6 f4n_12), (xI o5 cI 6 f5n_12)]) hP hD [6, 7, 8, 9, 10, 11, 12, 0, 1, 2, 3, 4, 5] (by decide +kernel) rfl
        exact W.iret (v := v_15) hx hb hr (fun t ht hW => ⟨⟨v_15, (), rfl, trivial, ⟨v3n_13, u0n_12, u1n_12, u2n_12, u3n_12, u4n_12, u5n_12, u6n_12, u7n_12, g1n_13, f1n_12, f2n_12, f3n_12, f4n_12, f5n_12, va_Ht ht hX9.1, hX9.2⟩⟩, hS.F ht⟩) hS.2.2 dX4_bestFor_91
      · skip
        refine lv_iload_n hx hb dX4_bestFor_76 rfl (lv_at hl 1 rfl) ?_
        refine lv_iload hx hb dX4_bestFor_77 (lv_at hl 0 rfl) ?_
        refine va_mmax hx hb (by rw [hml]; exact hl.1.symm) hown (hts _ mx_X4_bestFor_4) (hts _ mx_X4_bestFor_5) (hts _ mx_X4_bestFor_6) (hts _ mx_X4_bestFor_7) (Nat.le_of_ble_eq_true rfl) (Nat.le_of_ble_eq_true rfl) (Nat.zero_le _) (Nat.zero_le _) dX4_bestFor_79 ?_
        refine lv_topi (fun v_16 e_16 => ?_)
        refine lv_goto (tgt := 91) hx hb dX4_bestFor_82 (by decide) ?_
        have hX9 := cut2 (wc := [(xo_4_rri p0 h k0 (nI hrs)), (xo_3_iiiiiiiirrrrr h v0 v1 v2 v3n_13 (nI hh) v5 (nI ww) (nI kk) b1 b2 b3 b4 b5), (xI b1 cI 6 g1n_13), (xI b2 cI 6 g2), (xI b3 cI 6 g3), (xI b4 cI 6 g4), (xI b5 cI 6 g5), (xo_3_iiiiiiiirrrrr k0 u0n_12 u1n_12 u2n_12 u3n_12 u4n_12 u5n_12 u6n_12 u7n_12 o1 o2 o3 o4 o5), (xI o1 cI 6 f1n_12), (xI o2 cI 6 f2n_12), (xI o3 cI 6 f3n_12), (xI o4 cI 6 f4n_12), (xI o5 cI 6 f5n_12)]) hP hD [6, 7, 8, 9, 10, 11, 12, 0, 1, 2, 3, 4, 5] (by decide +kernel) rfl
        exact W.iret (v := v_16) hx hb hr (fun t ht hW => ⟨⟨v_16, (), rfl, trivial, ⟨v3n_13, u0n_12, u1n_12, u2n_12, u3n_12, u4n_12, u5n_12, u6n_12, u7n_12, g1n_13, f1n_12, f2n_12, f3n_12, f4n_12, f5n_12, va_Ht ht hX9.1, hX9.2⟩⟩, hS.F ht⟩) hS.2.2 dX4_bestFor_91
    · intro jk_10
      refine lv_if_ne (tgt := 58) hx hb dX4_bestFor_51 (by decide) (fun c_17 => ?_) (fun c_17 => ?_)
      · skip
        refine lv_iconst (v := 0) hx hb dX4_bestFor_58 (by decide) ?_
        exact jk_10 (0) _ _ _ ⟨ls, rfl, lv_sub hl [0, 1, 2, 3] rfl, hP.sub (ws' := [(xo_3_iiiiiiiirrrrr k0 u0n_6 u1n_6 u2n_6 u3n_6 u4n_6 u5n_6 u6n_6 u7n_6 o1 o2 o3 o4 o5), (xI o1 cI 6 f1n_6), (xI o2 cI 6 f2n_6), (xI o3 cI 6 f3n_6), (xI o4 cI 6 f4n_6), (xI o5 cI 6 f5n_6), (xo_4_rri p0 h k0 (nI hrs)), (xo_3_iiiiiiiirrrrr h v0 v1 v2 v3n_7 (nI hh) v5 (nI ww) (nI kk) b1 b2 b3 b4 b5), (xI b1 cI 6 g1n_7), (xI b2 cI 6 g2), (xI b3 cI 6 g3), (xI b4 cI 6 g4), (xI b5 cI 6 g5)]) [0, 1, 2, 3, 4, 5, 6, 7, 8, 9, 10, 11, 12] rfl, hD.sub (ws' := [(xo_3_iiiiiiiirrrrr k0 u0n_6 u1n_6 u2n_6 u3n_6 u4n_6 u5n_6 u6n_6 u7n_6 o1 o2 o3 o4 o5), (xI o1 cI 6 f1n_6), (xI o2 cI 6 f2n_6), (xI o3 cI 6 f3n_6), (xI o4 cI 6 f4n_6), (xI o5 cI 6 f5n_6), (xo_4_rri p0 h k0 (nI hrs)), (xo_3_iiiiiiiirrrrr h v0 v1 v2 v3n_7 (nI hh) v5 (nI ww) (nI kk) b1 b2 b3 b4 b5), (xI b1 cI 6 g1n_7), (xI b2 cI 6 g2), (xI b3 cI 6 g3), (xI b4 cI 6 g4), (xI b5 cI 6 g5)]) [0, 1, 2, 3, 4, 5, 6, 7, 8, 9, 10, 11, 12] (by decide +kernel) rfl, hS⟩
      · skip
        refine lv_iconst (v := 1) hx hb dX4_bestFor_54 (by decide) ?_
        refine lv_goto (tgt := 59) hx hb dX4_bestFor_55 (by decide) ?_
        exact jk_10 (1) _ _ _ ⟨ls, rfl, lv_sub hl [0, 1, 2, 3] rfl, hP.sub (ws' := [(xo_3_iiiiiiiirrrrr k0 u0n_6 u1n_6 u2n_6 u3n_6 u4n_6 u5n_6 u6n_6 u7n_6 o1 o2 o3 o4 o5), (xI o1 cI 6 f1n_6), (xI o2 cI 6 f2n_6), (xI o3 cI 6 f3n_6), (xI o4 cI 6 f4n_6), (xI o5 cI 6 f5n_6), (xo_4_rri p0 h k0 (nI hrs)), (xo_3_iiiiiiiirrrrr h v0 v1 v2 v3n_7 (nI hh) v5 (nI ww) (nI kk) b1 b2 b3 b4 b5), (xI b1 cI 6 g1n_7), (xI b2 cI 6 g2), (xI b3 cI 6 g3), (xI b4 cI 6 g4), (xI b5 cI 6 g5)]) [0, 1, 2, 3, 4, 5, 6, 7, 8, 9, 10, 11, 12] rfl, hD.sub (ws' := [(xo_3_iiiiiiiirrrrr k0 u0n_6 u1n_6 u2n_6 u3n_6 u4n_6 u5n_6 u6n_6 u7n_6 o1 o2 o3 o4 o5), (xI o1 cI 6 f1n_6), (xI o2 cI 6 f2n_6), (xI o3 cI 6 f3n_6), (xI o4 cI 6 f4n_6), (xI o5 cI 6 f5n_6), (xo_4_rri p0 h k0 (nI hrs)), (xo_3_iiiiiiiirrrrr h v0 v1 v2 v3n_7 (nI hh) v5 (nI ww) (nI kk) b1 b2 b3 b4 b5), (xI b1 cI 6 g1n_7), (xI b2 cI 6 g2), (xI b3 cI 6 g3), (xI b4 cI 6 g4), (xI b5 cI 6 g5)]) [0, 1, 2, 3, 4, 5, 6, 7, 8, 9, 10, 11, 12] (by decide +kernel) rfl, hS⟩
  · intro jk_4
    refine lv_if_ne (tgt := 36) hx hb dX4_bestFor_29 (by decide) (fun c_18 => ?_) (fun c_18 => ?_)
    · skip
      refine lv_iconst (v := 0) hx hb dX4_bestFor_36 (by decide) ?_
      exact jk_4 (0) _ _ _ ⟨ls, rfl, lv_sub hl [0, 1, 2] rfl, hP.sub (ws' := [(xo_4_rri p0 h k0 (nI hrs)), (xo_3_iiiiiiiirrrrr h v0 v1 v2 v3 (nI hh) v5 (nI ww) (nI kk) b1 b2 b3 b4 b5), (xI b1 cI 6 g1), (xI b2 cI 6 g2), (xI b3 cI 6 g3), (xI b4 cI 6 g4), (xI b5 cI 6 g5), (xo_3_iiiiiiiirrrrr k0 u0 u1 u2 u3 u4 u5 u6 u7 o1 o2 o3 o4 o5), (xI o1 cI 6 f1), (xI o2 cI 6 f2), (xI o3 cI 6 f3), (xI o4 cI 6 f4), (xI o5 cI 6 f5)]) [0, 1, 2, 3, 4, 5, 6, 7, 8, 9, 10, 11, 12] rfl, hD.sub (ws' := [(xo_4_rri p0 h k0 (nI hrs)), (xo_3_iiiiiiiirrrrr h v0 v1 v2 v3 (nI hh) v5 (nI ww) (nI kk) b1 b2 b3 b4 b5), (xI b1 cI 6 g1), (xI b2 cI 6 g2), (xI b3 cI 6 g3), (xI b4 cI 6 g4), (xI b5 cI 6 g5), (xo_3_iiiiiiiirrrrr k0 u0 u1 u2 u3 u4 u5 u6 u7 o1 o2 o3 o4 o5), (xI o1 cI 6 f1), (xI o2 cI 6 f2), (xI o3 cI 6 f3), (xI o4 cI 6 f4), (xI o5 cI 6 f5)]) [0, 1, 2, 3, 4, 5, 6, 7, 8, 9, 10, 11, 12] (by decide +kernel) rfl, hS⟩
    · skip
      refine lv_iconst (v := 1) hx hb dX4_bestFor_32 (by decide) ?_
      refine lv_goto (tgt := 37) hx hb dX4_bestFor_33 (by decide) ?_
      exact jk_4 (1) _ _ _ ⟨ls, rfl, lv_sub hl [0, 1, 2] rfl, hP.sub (ws' := [(xo_4_rri p0 h k0 (nI hrs)), (xo_3_iiiiiiiirrrrr h v0 v1 v2 v3 (nI hh) v5 (nI ww) (nI kk) b1 b2 b3 b4 b5), (xI b1 cI 6 g1), (xI b2 cI 6 g2), (xI b3 cI 6 g3), (xI b4 cI 6 g4), (xI b5 cI 6 g5), (xo_3_iiiiiiiirrrrr k0 u0 u1 u2 u3 u4 u5 u6 u7 o1 o2 o3 o4 o5), (xI o1 cI 6 f1), (xI o2 cI 6 f2), (xI o3 cI 6 f3), (xI o4 cI 6 f4), (xI o5 cI 6 f5)]) [0, 1, 2, 3, 4, 5, 6, 7, 8, 9, 10, 11, 12] rfl, hD.sub (ws' := [(xo_4_rri p0 h k0 (nI hrs)), (xo_3_iiiiiiiirrrrr h v0 v1 v2 v3 (nI hh) v5 (nI ww) (nI kk) b1 b2 b3 b4 b5), (xI b1 cI 6 g1), (xI b2 cI 6 g2), (xI b3 cI 6 g3), (xI b4 cI 6 g4), (xI b5 cI 6 g5), (xo_3_iiiiiiiirrrrr k0 u0 u1 u2 u3 u4 u5 u6 u7 o1 o2 o3 o4 o5), (xI o1 cI 6 f1), (xI o2 cI 6 f2), (xI o3 cI 6 f3), (xI o4 cI 6 f4), (xI o5 cI 6 f5)]) [0, 1, 2, 3, 4, 5, 6, 7, 8, 9, 10, 11, 12] (by decide +kernel) rfl, hS⟩
-- 22.asks_d
/-! asks: the numbers that are left, what is answered -/
noncomputable abbrev T16 := Nat × RF
noncomputable def lvX (x : Int32) (s : T16) : T16 := if s.1 < 16 then (s.1 + 1, upd s.2 s.1 x) else s
noncomputable def bfX (a : Nat) (x : Int32) : Int32 := if x = 0 then (if a = 2 then 12 else if a = 4 then 13 else if a = 5 then 14 else 11) else (if a = 2 then 24 else if a = 3 then 22 else if a = 4 ∨ a = 5 then 23 else 21)
noncomputable abbrev R16 := Int32 × T16
noncomputable def bgX (nu : Int32) (a : Nat) (ce lo : Int32) : Nat → Int32 → T16 → R16
  | 0, _, s => (0, s)
  | n + 1, b, s =>
    if b = 10 then (lo, lvX b s)
    else if b = 11 then ((bgX nu a ce lo n 10 (lvX b s)).1 + (bgX nu a ce lo n (bfX a 1) (bgX nu a ce lo n 10 (lvX b s)).2).1, (bgX nu a ce lo n (bfX a 1) (bgX nu a ce lo n 10 (lvX b s)).2).2)
    else if b = 12 then (-(bgX nu a ce lo n 11 (lvX b s)).1, (bgX nu a ce lo n 11 (lvX b s)).2)
    else if b = 13 then ((bgX nu a ce lo n 10 (lvX b s)).1 - 100, (bgX nu a ce lo n 10 (lvX b s)).2)
    else if b = 14 then ((bgX nu a ce lo n 13 (lvX b s)).1 * 2, (bgX nu a ce lo n 13 (lvX b s)).2)
    else if b = 20 then (nu, lvX b s)
    else if b = 21 then ((bgX nu a ce lo n 20 (lvX b s)).1 + ce, (bgX nu a ce lo n 20 (lvX b s)).2)
    else if b = 22 then ((bgX nu a ce lo n 21 (lvX b s)).1 - 1000, (bgX nu a ce lo n 21 (lvX b s)).2)
    else if b = 23 then ((bgX nu a ce lo n 20 (lvX b s)).1 - (bgX nu a ce lo n (bfX a 0) (bgX nu a ce lo n 20 (lvX b s)).2).1, (bgX nu a ce lo n (bfX a 0) (bgX nu a ce lo n 20 (lvX b s)).2).2)
    else if b = 24 then ((bgX nu a ce lo n 21 (lvX b s)).1 * 2, (bgX nu a ce lo n 21 (lvX b s)).2)
    else (0, lvX b s)
/-! the other side's -/
noncomputable def lentM (f : RF) (w : Nat) (b : Int32) (s : T16) : R16 := (if b = 10 then f (32 + w) else nI w, lvX b s)
noncomputable def vmM (f : RF) (w : Nat) (s : T16) : R16 := ((lentM f w 20 (lvX 21 s)).1 + f (20 + w), (lentM f w 20 (lvX 21 s)).2)
noncomputable def dsM (f : RF) (w : Nat) (s : T16) : R16 := ((lentM f w 10 (lvX 13 s)).1 - 100, (lentM f w 10 (lvX 13 s)).2)
noncomputable def sdM (f : RF) (w : Nat) (s : T16) : R16 := if f (14 + w) = 5 then (2 * (dsM f w (lvX 14 s)).1, (dsM f w (lvX 14 s)).2) else dsM f w s
noncomputable def mkM (f : RF) (w : Nat) (s : T16) : R16 :=
  if f (14 + w) = 2 then (2 * (vmM f w (lvX 24 s)).1, (vmM f w (lvX 24 s)).2)
  else if f (14 + w) = 3 then ((vmM f w (lvX 22 s)).1 - 1000, (vmM f w (lvX 22 s)).2)
  else if f (14 + w) = 1 then vmM f w s
  else ((lentM f w 20 (lvX 23 s)).1 - (sdM f w (lentM f w 20 (lvX 23 s)).2).1, (sdM f w (lentM f w 20 (lvX 23 s)).2).2)
noncomputable def vsM (f : RF) (w : Nat) (s : T16) : R16 := ((lentM f w 10 (lvX 11 s)).1 + (mkM f w (lentM f w 10 (lvX 11 s)).2).1, (mkM f w (lentM f w 10 (lvX 11 s)).2).2)
noncomputable def szM (f : RF) (w : Nat) (s : T16) : R16 :=
  if f (14 + w) = 2 then (-(vsM f w (lvX 12 s)).1, (vsM f w (lvX 12 s)).2)
  else if 4 ≤ f (14 + w) then sdM f w s else vsM f w s
noncomputable def akM (f : RF) (w : Nat) (x : Int32) (s : T16) : R16 := if x = 0 then szM f w s else mkM f w s
section BG
variable {nu ce lo : Int32} {a n : Nat} {s : T16}
theorem bg10 : bgX nu a ce lo (n + 1) 10 s = (lo, lvX 10 s) := by
  unfold bgX
  rw [if_pos rfl]
theorem bg20 : bgX nu a ce lo (n + 1) 20 s = (nu, lvX 20 s) := by
  unfold bgX
  rw [if_neg (by decide), if_neg (by decide), if_neg (by decide), if_neg (by decide), if_neg (by decide), if_pos rfl]
theorem bg13 : bgX nu a ce lo (n + 2) 13 s = (lo - 100, lvX 10 (lvX 13 s)) := by
  rw [bgX]
  rw [if_neg (by decide), if_neg (by decide), if_neg (by decide), if_pos rfl, bg10]
theorem bg21 : bgX nu a ce lo (n + 2) 21 s = (nu + ce, lvX 20 (lvX 21 s)) := by
  rw [bgX]
  rw [if_neg (by decide), if_neg (by decide), if_neg (by decide), if_neg (by decide), if_neg (by decide), if_neg (by decide), if_pos rfl, bg20]
theorem bg14 : bgX nu a ce lo (n + 3) 14 s = ((lo - 100) * 2, lvX 10 (lvX 13 (lvX 14 s))) := by
  rw [bgX]
  rw [if_neg (by decide), if_neg (by decide), if_neg (by decide), if_neg (by decide), if_pos rfl, bg13]
theorem bg22 : bgX nu a ce lo (n + 3) 22 s = (nu + ce - 1000, lvX 20 (lvX 21 (lvX 22 s))) := by
  rw [bgX]
  rw [if_neg (by decide), if_neg (by decide), if_neg (by decide), if_neg (by decide), if_neg (by decide), if_neg (by decide), if_neg (by decide), if_pos rfl, bg21]
theorem bg24 : bgX nu a ce lo (n + 3) 24 s = ((nu + ce) * 2, lvX 20 (lvX 21 (lvX 24 s))) := by
  rw [bgX]
  rw [if_neg (by decide), if_neg (by decide), if_neg (by decide), if_neg (by decide), if_neg (by decide), if_neg (by decide), if_neg (by decide), if_neg (by decide), if_neg (by decide), if_pos rfl, bg21]
theorem bg11 : bgX nu a ce lo (n + 2) 11 s = (lo + (bgX nu a ce lo (n + 1) (bfX a 1) (lvX 10 (lvX 11 s))).1, (bgX nu a ce lo (n + 1) (bfX a 1) (lvX 10 (lvX 11 s))).2) := by
  rw [bgX]
  rw [if_neg (by decide), if_pos rfl, bg10]
theorem bg12 : bgX nu a ce lo (n + 1) 12 s = (-(bgX nu a ce lo n 11 (lvX 12 s)).1, (bgX nu a ce lo n 11 (lvX 12 s)).2) := by
  rw [bgX]
  rw [if_neg (by decide), if_neg (by decide), if_pos rfl]
theorem bg23 : bgX nu a ce lo (n + 2) 23 s = (nu - (bgX nu a ce lo (n + 1) (bfX a 0) (lvX 20 (lvX 23 s))).1, (bgX nu a ce lo (n + 1) (bfX a 0) (lvX 20 (lvX 23 s))).2) := by
  rw [bgX]
  rw [if_neg (by decide), if_neg (by decide), if_neg (by decide), if_neg (by decide), if_neg (by decide), if_neg (by decide), if_neg (by decide), if_neg (by decide), if_pos rfl, bg20]
end BG
theorem sdM_4 {f : RF} {w : Nat} {s : T16} (e : f (14 + w) = 4) : sdM f w s = (f (32 + w) - 100, lvX 10 (lvX 13 s)) := by
  unfold sdM dsM lentM
  rw [if_neg (by rw [e]; decide), if_pos rfl]
theorem sdM_5 {f : RF} {w : Nat} {s : T16} (e : f (14 + w) = 5) : sdM f w s = (2 * (f (32 + w) - 100), lvX 10 (lvX 13 (lvX 14 s))) := by
  unfold sdM dsM lentM
  rw [if_pos e, if_pos rfl]
theorem vmM_e {f : RF} {w : Nat} {s : T16} : vmM f w s = (nI w + f (20 + w), lvX 20 (lvX 21 s)) := by
  unfold vmM lentM
  rw [if_neg (by decide)]
theorem mkM_e {f : RF} {w a : Nat} {n : Nat} {s : T16} (h1 : 1 ≤ a) (h5 : a ≤ 5) (e : f (14 + w) = nI a) : bgX (nI w) a (f (20 + w)) (f (32 + w)) (n + 4) (bfX a 1) s = mkM f w s := by
  rcases (show a = 1 ∨ a = 2 ∨ a = 3 ∨ a = 4 ∨ a = 5 by omega) with rfl | rfl | rfl | rfl | rfl
  · have e1 : f (14 + w) = 1 := e
    unfold mkM
    rw [if_neg (by rw [e1]; decide), if_neg (by rw [e1]; decide), if_pos e1, vmM_e]
    exact bg21 (n := n + 2)
  · have e1 : f (14 + w) = 2 := e
    unfold mkM
    rw [if_pos e1, vmM_e, Int32.mul_comm]
    exact bg24 (n := n + 1)
  · have e1 : f (14 + w) = 3 := e
    unfold mkM
    rw [if_neg (by rw [e1]; decide), if_pos e1, vmM_e]
    exact bg22 (n := n + 1)
  · have e1 : f (14 + w) = 4 := e
    have b := bg23 (nu := nI w) (ce := f (20 + w)) (lo := f (32 + w)) (a := 4) (n := n + 2) (s := s)
    have c : bgX (nI w) 4 (f (20 + w)) (f (32 + w)) (n + 2 + 1) (bfX 4 0) (lvX 20 (lvX 23 s)) = _ := bg13 (n := n + 1)
    rw [c] at b
    unfold mkM
    rw [if_neg (by rw [e1]; decide), if_neg (by rw [e1]; decide), if_neg (by rw [e1]; decide), sdM_4 e1]
    unfold lentM
    rw [if_neg (by decide)]
    exact b
  · have e1 : f (14 + w) = 5 := e
    have b := bg23 (nu := nI w) (ce := f (20 + w)) (lo := f (32 + w)) (a := 5) (n := n + 2) (s := s)
    have c : bgX (nI w) 5 (f (20 + w)) (f (32 + w)) (n + 2 + 1) (bfX 5 0) (lvX 20 (lvX 23 s)) = _ := bg14 (n := n)
    rw [c] at b
    unfold mkM
    rw [if_neg (by rw [e1]; decide), if_neg (by rw [e1]; decide), if_neg (by rw [e1]; decide), sdM_5 e1, Int32.mul_comm 2]
    unfold lentM
    rw [if_neg (by decide)]
    exact b
theorem vsM_e {f : RF} {w a : Nat} {n : Nat} {s : T16} (h1 : 1 ≤ a) (h5 : a ≤ 5) (e : f (14 + w) = nI a) : bgX (nI w) a (f (20 + w)) (f (32 + w)) (n + 5) 11 s = vsM f w s := by
  have b := bg11 (nu := nI w) (ce := f (20 + w)) (lo := f (32 + w)) (a := a) (n := n + 3) (s := s)
  have c := mkM_e (n := n) (s := lvX 10 (lvX 11 s)) h1 h5 e
  have c' : bgX (nI w) a (f (20 + w)) (f (32 + w)) (n + 3 + 1) (bfX a 1) (lvX 10 (lvX 11 s)) = mkM f w (lvX 10 (lvX 11 s)) := c
  rw [c'] at b
  unfold vsM lentM
  rw [if_pos rfl]
  exact b
/-- the one and the other -/
theorem ak_eq {f : RF} {w a : Nat} {x : Int32} {s : T16} (h1 : 1 ≤ a) (h5 : a ≤ 5) (e : f (14 + w) = nI a) (hx : x = 0 ∨ x = 1) : bgX (nI w) a (f (20 + w)) (f (32 + w)) 16 (bfX a x) s = akM f w x s := by
  rcases hx with rfl | rfl
  · unfold akM
    rw [if_pos rfl]
    rcases (show a = 1 ∨ a = 2 ∨ a = 3 ∨ a = 4 ∨ a = 5 by omega) with rfl | rfl | rfl | rfl | rfl
    · have e1 : f (14 + w) = 1 := e
      unfold szM
      rw [if_neg (by rw [e1]; decide), if_neg (by rw [e1]; decide)]
      exact vsM_e (n := 11) h1 h5 e
    · have e1 : f (14 + w) = 2 := e
      have b := bg12 (nu := nI w) (ce := f (20 + w)) (lo := f (32 + w)) (a := 2) (n := 15) (s := s)
      have c : bgX (nI w) 2 (f (20 + w)) (f (32 + w)) 15 11 (lvX 12 s) = _ := vsM_e (n := 10) (s := lvX 12 s) h1 h5 e
      rw [c] at b
      unfold szM
      rw [if_pos e1]
      exact b
    · have e1 : f (14 + w) = 3 := e
      unfold szM
      rw [if_neg (by rw [e1]; decide), if_neg (by rw [e1]; decide)]
      exact vsM_e (n := 11) h1 h5 e
    · have e1 : f (14 + w) = 4 := e
      unfold szM
      rw [if_neg (by rw [e1]; decide), if_pos (by rw [e1]; decide), sdM_4 e1]
      exact bg13 (n := 14)
    · have e1 : f (14 + w) = 5 := e
      unfold szM
      rw [if_neg (by rw [e1]; decide), if_pos (by rw [e1]; decide), sdM_5 e1, Int32.mul_comm 2]
      exact bg14 (n := 13)
  · unfold akM
    rw [if_neg (by decide)]
    exact mkM_e (n := 12) h1 h5 e
noncomputable def a_ask (r : RF) (s w : Int32) (z : T16) : Int32 := if ¬ (¬ s < 0 ∧ ¬ r 4 ≤ s) ∨ ¬ (w = 0 ∨ w = 1) then -1000001 else (akM r s.toNatClampNeg w (0, z.2)).1
noncomputable def n_ask (r : RF) (s w : Int32) (z : T16) : T16 := if ¬ (¬ s < 0 ∧ ¬ r 4 ≤ s) ∨ ¬ (w = 0 ∨ w = 1) then z else (akM r s.toNatClampNeg w (0, z.2)).2
noncomputable def a_trc (z : T16) (i : Int32) : Int32 := if i < 0 ∨ nI z.1 ≤ i then -1000000 else z.2 i.toNatClampNeg
theorem dX1_answer_0 : decode cX1_answer 0 = .ok (.aload_n 0, 1) := dq_42 (by decide +kernel)
theorem dX1_answer_1 : decode cX1_answer 1 = .ok (.iconst 0, 1) := dq_3 (by decide +kernel)
theorem dX1_answer_10 : decode cX1_answer 10 = .ok (.aload_n 0, 1) := dq_42 (by decide +kernel)
theorem dX1_answer_11 : decode cX1_answer 11 = .ok (.aload_n 1, 1) := dq_43 (by decide +kernel)
theorem dX1_answer_12 : decode cX1_answer 12 = .ok (.getfield 22, 3) := dq_180 (b1 := 0) (b2 := 22) (by decide +kernel) (by decide)
theorem dX1_answer_15 : decode cX1_answer 15 = .ok (.iload_n 2, 1) := dq_28 (by decide +kernel)
theorem dX1_answer_16 : decode cX1_answer 16 = .ok (.iaload, 1) := dq_46 (by decide +kernel)
theorem dX1_answer_17 : decode cX1_answer 17 = .ok (.putfield 27, 3) := dq_181 (b1 := 0) (b2 := 27) (by decide +kernel) (by decide)
theorem dX1_answer_2 : decode cX1_answer 2 = .ok (.putfield 15, 3) := dq_181 (b1 := 0) (b2 := 15) (by decide +kernel) (by decide)
theorem dX1_answer_20 : decode cX1_answer 20 = .ok (.aload_n 0, 1) := dq_42 (by decide +kernel)
theorem dX1_answer_21 : decode cX1_answer 21 = .ok (.aload_n 1, 1) := dq_43 (by decide +kernel)
theorem dX1_answer_22 : decode cX1_answer 22 = .ok (.getfield 30, 3) := dq_180 (b1 := 0) (b2 := 30) (by decide +kernel) (by decide)
theorem dX1_answer_25 : decode cX1_answer 25 = .ok (.iload_n 2, 1) := dq_28 (by decide +kernel)
theorem dX1_answer_26 : decode cX1_answer 26 = .ok (.iaload, 1) := dq_46 (by decide +kernel)
theorem dX1_answer_27 : decode cX1_answer 27 = .ok (.putfield 33, 3) := dq_181 (b1 := 0) (b2 := 33) (by decide +kernel) (by decide)
theorem dX1_answer_30 : decode cX1_answer 30 = .ok (.aload_n 0, 1) := dq_42 (by decide +kernel)
theorem dX1_answer_31 : decode cX1_answer 31 = .ok (.aload_n 1, 1) := dq_43 (by decide +kernel)
theorem dX1_answer_32 : decode cX1_answer 32 = .ok (.getfield 36, 3) := dq_180 (b1 := 0) (b2 := 36) (by decide +kernel) (by decide)
theorem dX1_answer_35 : decode cX1_answer 35 = .ok (.iload_n 2, 1) := dq_28 (by decide +kernel)
theorem dX1_answer_36 : decode cX1_answer 36 = .ok (.iaload, 1) := dq_46 (by decide +kernel)
theorem dX1_answer_37 : decode cX1_answer 37 = .ok (.putfield 39, 3) := dq_181 (b1 := 0) (b2 := 39) (by decide +kernel) (by decide)
theorem dX1_answer_40 : decode cX1_answer 40 = .ok (.aload_n 0, 1) := dq_42 (by decide +kernel)
theorem dX1_answer_41 : decode cX1_answer 41 = .ok (.iload_n 3, 1) := dq_29 (by decide +kernel)
theorem dX1_answer_42 : decode cX1_answer 42 = .ok (.iconst 0, 1) := dq_3 (by decide +kernel)
theorem dX1_answer_43 : decode cX1_answer 43 = .ok (.invokevirtual 42, 3) := dq_182 (b1 := 0) (b2 := 42) (by decide +kernel) (by decide)
theorem dX1_answer_46 : decode cX1_answer 46 = .ok (.ireturn, 1) := dq_172 (by decide +kernel)
theorem dX1_answer_5 : decode cX1_answer 5 = .ok (.aload_n 0, 1) := dq_42 (by decide +kernel)
theorem dX1_answer_6 : decode cX1_answer 6 = .ok (.iload_n 2, 1) := dq_28 (by decide +kernel)
theorem dX1_answer_7 : decode cX1_answer 7 = .ok (.putfield 19, 3) := dq_181 (b1 := 0) (b2 := 19) (by decide +kernel) (by decide)
theorem dX1_askAnew_0 : decode cX1_askAnew 0 = .ok (.aload_n 0, 1) := dq_42 (by decide +kernel)
theorem dX1_askAnew_1 : decode cX1_askAnew 1 = .ok (.aload_n 0, 1) := dq_42 (by decide +kernel)
theorem dX1_askAnew_10 : decode cX1_askAnew 10 = .ok (.ireturn, 1) := dq_172 (by decide +kernel)
theorem dX1_askAnew_2 : decode cX1_askAnew 2 = .ok (.iload_n 1, 1) := dq_27 (by decide +kernel)
theorem dX1_askAnew_3 : decode cX1_askAnew 3 = .ok (.invokevirtual 46, 3) := dq_182 (b1 := 0) (b2 := 46) (by decide +kernel) (by decide)
theorem dX1_askAnew_6 : decode cX1_askAnew 6 = .ok (.iload_n 2, 1) := dq_28 (by decide +kernel)
theorem dX1_askAnew_7 : decode cX1_askAnew 7 = .ok (.invokevirtual 50, 3) := dq_182 (b1 := 0) (b2 := 50) (by decide +kernel) (by decide)
theorem dX1_begin_0 : decode cX1_begin 0 = .ok (.iload_n 2, 1) := dq_28 (by decide +kernel)
theorem dX1_begin_1 : decode cX1_begin 1 = .ok (.bipush 16, 2) := dq_16 (b1 := 16) (by decide +kernel) (by decide)
theorem dX1_begin_10 : decode cX1_begin 10 = .ok (.invokevirtual 62, 3) := dq_182 (b1 := 0) (b2 := 62) (by decide +kernel) (by decide)
theorem dX1_begin_100 : decode cX1_begin 100 = .ok (.iload_n 3, 1) := dq_29 (by decide +kernel)
theorem dX1_begin_101 : decode cX1_begin 101 = .ok (.invokevirtual 50, 3) := dq_182 (b1 := 0) (b2 := 50) (by decide +kernel) (by decide)
theorem dX1_begin_104 : decode cX1_begin 104 = .ok (.aload_n 0, 1) := dq_42 (by decide +kernel)
theorem dX1_begin_105 : decode cX1_begin 105 = .ok (.iconst 1, 1) := dq_4 (by decide +kernel)
theorem dX1_begin_106 : decode cX1_begin 106 = .ok (.iload_n 3, 1) := dq_29 (by decide +kernel)
theorem dX1_begin_107 : decode cX1_begin 107 = .ok (.invokevirtual 42, 3) := dq_182 (b1 := 0) (b2 := 42) (by decide +kernel) (by decide)
theorem dX1_begin_110 : decode cX1_begin 110 = .ok (.iadd, 1) := dq_96 (by decide +kernel)
theorem dX1_begin_111 : decode cX1_begin 111 = .ok (.ireturn, 1) := dq_172 (by decide +kernel)
theorem dX1_begin_112 : decode cX1_begin 112 = .ok (.aload_n 0, 1) := dq_42 (by decide +kernel)
theorem dX1_begin_113 : decode cX1_begin 113 = .ok (.bipush 11, 2) := dq_16 (b1 := 11) (by decide +kernel) (by decide)
theorem dX1_begin_115 : decode cX1_begin 115 = .ok (.iload_n 3, 1) := dq_29 (by decide +kernel)
theorem dX1_begin_116 : decode cX1_begin 116 = .ok (.invokevirtual 50, 3) := dq_182 (b1 := 0) (b2 := 50) (by decide +kernel) (by decide)
theorem dX1_begin_119 : decode cX1_begin 119 = .ok (.ineg, 1) := dq_116 (by decide +kernel)
theorem dX1_begin_120 : decode cX1_begin 120 = .ok (.ireturn, 1) := dq_172 (by decide +kernel)
theorem dX1_begin_121 : decode cX1_begin 121 = .ok (.aload_n 0, 1) := dq_42 (by decide +kernel)
theorem dX1_begin_122 : decode cX1_begin 122 = .ok (.bipush 10, 2) := dq_16 (b1 := 10) (by decide +kernel) (by decide)
theorem dX1_begin_124 : decode cX1_begin 124 = .ok (.iload_n 3, 1) := dq_29 (by decide +kernel)
theorem dX1_begin_125 : decode cX1_begin 125 = .ok (.invokevirtual 50, 3) := dq_182 (b1 := 0) (b2 := 50) (by decide +kernel) (by decide)
theorem dX1_begin_128 : decode cX1_begin 128 = .ok (.bipush 100, 2) := dq_16 (b1 := 100) (by decide +kernel) (by decide)
theorem dX1_begin_13 : decode cX1_begin 13 = .ok (.iload_n 2, 1) := dq_28 (by decide +kernel)
theorem dX1_begin_130 : decode cX1_begin 130 = .ok (.isub, 1) := dq_100 (by decide +kernel)
theorem dX1_begin_131 : decode cX1_begin 131 = .ok (.ireturn, 1) := dq_172 (by decide +kernel)
theorem dX1_begin_132 : decode cX1_begin 132 = .ok (.aload_n 0, 1) := dq_42 (by decide +kernel)
theorem dX1_begin_133 : decode cX1_begin 133 = .ok (.bipush 13, 2) := dq_16 (b1 := 13) (by decide +kernel) (by decide)
theorem dX1_begin_135 : decode cX1_begin 135 = .ok (.iload_n 3, 1) := dq_29 (by decide +kernel)
theorem dX1_begin_136 : decode cX1_begin 136 = .ok (.invokevirtual 50, 3) := dq_182 (b1 := 0) (b2 := 50) (by decide +kernel) (by decide)
theorem dX1_begin_139 : decode cX1_begin 139 = .ok (.iconst 2, 1) := dq_5 (by decide +kernel)
theorem dX1_begin_14 : decode cX1_begin 14 = .ok (.iconst 1, 1) := dq_4 (by decide +kernel)
theorem dX1_begin_140 : decode cX1_begin 140 = .ok (.imul, 1) := dq_104 (by decide +kernel)
theorem dX1_begin_141 : decode cX1_begin 141 = .ok (.ireturn, 1) := dq_172 (by decide +kernel)
theorem dX1_begin_142 : decode cX1_begin 142 = .ok (.aload_n 0, 1) := dq_42 (by decide +kernel)
theorem dX1_begin_143 : decode cX1_begin 143 = .ok (.getfield 19, 3) := dq_180 (b1 := 0) (b2 := 19) (by decide +kernel) (by decide)
theorem dX1_begin_146 : decode cX1_begin 146 = .ok (.ireturn, 1) := dq_172 (by decide +kernel)
theorem dX1_begin_147 : decode cX1_begin 147 = .ok (.aload_n 0, 1) := dq_42 (by decide +kernel)
theorem dX1_begin_148 : decode cX1_begin 148 = .ok (.bipush 20, 2) := dq_16 (b1 := 20) (by decide +kernel) (by decide)
theorem dX1_begin_15 : decode cX1_begin 15 = .ok (.iadd, 1) := dq_96 (by decide +kernel)
theorem dX1_begin_150 : decode cX1_begin 150 = .ok (.iload_n 3, 1) := dq_29 (by decide +kernel)
theorem dX1_begin_151 : decode cX1_begin 151 = .ok (.invokevirtual 50, 3) := dq_182 (b1 := 0) (b2 := 50) (by decide +kernel) (by decide)
theorem dX1_begin_154 : decode cX1_begin 154 = .ok (.aload_n 0, 1) := dq_42 (by decide +kernel)
theorem dX1_begin_155 : decode cX1_begin 155 = .ok (.getfield 33, 3) := dq_180 (b1 := 0) (b2 := 33) (by decide +kernel) (by decide)
theorem dX1_begin_158 : decode cX1_begin 158 = .ok (.iadd, 1) := dq_96 (by decide +kernel)
theorem dX1_begin_159 : decode cX1_begin 159 = .ok (.ireturn, 1) := dq_172 (by decide +kernel)
theorem dX1_begin_16 : decode cX1_begin 16 = .ok (.istore_n 3, 1) := dq_62 (by decide +kernel)
theorem dX1_begin_160 : decode cX1_begin 160 = .ok (.aload_n 0, 1) := dq_42 (by decide +kernel)
theorem dX1_begin_161 : decode cX1_begin 161 = .ok (.bipush 21, 2) := dq_16 (b1 := 21) (by decide +kernel) (by decide)
theorem dX1_begin_163 : decode cX1_begin 163 = .ok (.iload_n 3, 1) := dq_29 (by decide +kernel)
theorem dX1_begin_164 : decode cX1_begin 164 = .ok (.invokevirtual 50, 3) := dq_182 (b1 := 0) (b2 := 50) (by decide +kernel) (by decide)
theorem dX1_begin_167 : decode cX1_begin 167 = .ok (.sipush 1000, 3) := dq_17 (b1 := 3) (b2 := 232) (by decide +kernel) (by decide)
theorem dX1_begin_17 : decode cX1_begin 17 = .ok (.iload_n 1, 1) := dq_27 (by decide +kernel)
theorem dX1_begin_170 : decode cX1_begin 170 = .ok (.isub, 1) := dq_100 (by decide +kernel)
theorem dX1_begin_171 : decode cX1_begin 171 = .ok (.ireturn, 1) := dq_172 (by decide +kernel)
theorem dX1_begin_172 : decode cX1_begin 172 = .ok (.aload_n 0, 1) := dq_42 (by decide +kernel)
theorem dX1_begin_173 : decode cX1_begin 173 = .ok (.bipush 20, 2) := dq_16 (b1 := 20) (by decide +kernel) (by decide)
theorem dX1_begin_175 : decode cX1_begin 175 = .ok (.iload_n 3, 1) := dq_29 (by decide +kernel)
theorem dX1_begin_176 : decode cX1_begin 176 = .ok (.invokevirtual 50, 3) := dq_182 (b1 := 0) (b2 := 50) (by decide +kernel) (by decide)
theorem dX1_begin_179 : decode cX1_begin 179 = .ok (.aload_n 0, 1) := dq_42 (by decide +kernel)
theorem dX1_begin_18 : decode cX1_begin 18 = .ok (.tableswitch 179 10 24 #[74, 79, 94, 103, 114, 179, 179, 179, 179, 179, 124, 129, 142, 154, 169], 74) := by decide +kernel
theorem dX1_begin_180 : decode cX1_begin 180 = .ok (.iconst 0, 1) := dq_3 (by decide +kernel)
theorem dX1_begin_181 : decode cX1_begin 181 = .ok (.iload_n 3, 1) := dq_29 (by decide +kernel)
theorem dX1_begin_182 : decode cX1_begin 182 = .ok (.invokevirtual 42, 3) := dq_182 (b1 := 0) (b2 := 42) (by decide +kernel) (by decide)
theorem dX1_begin_185 : decode cX1_begin 185 = .ok (.isub, 1) := dq_100 (by decide +kernel)
theorem dX1_begin_186 : decode cX1_begin 186 = .ok (.ireturn, 1) := dq_172 (by decide +kernel)
theorem dX1_begin_187 : decode cX1_begin 187 = .ok (.aload_n 0, 1) := dq_42 (by decide +kernel)
theorem dX1_begin_188 : decode cX1_begin 188 = .ok (.bipush 21, 2) := dq_16 (b1 := 21) (by decide +kernel) (by decide)
theorem dX1_begin_190 : decode cX1_begin 190 = .ok (.iload_n 3, 1) := dq_29 (by decide +kernel)
theorem dX1_begin_191 : decode cX1_begin 191 = .ok (.invokevirtual 50, 3) := dq_182 (b1 := 0) (b2 := 50) (by decide +kernel) (by decide)
theorem dX1_begin_194 : decode cX1_begin 194 = .ok (.iconst 2, 1) := dq_5 (by decide +kernel)
theorem dX1_begin_195 : decode cX1_begin 195 = .ok (.imul, 1) := dq_104 (by decide +kernel)
theorem dX1_begin_196 : decode cX1_begin 196 = .ok (.ireturn, 1) := dq_172 (by decide +kernel)
theorem dX1_begin_197 : decode cX1_begin 197 = .ok (.iconst 0, 1) := dq_3 (by decide +kernel)
theorem dX1_begin_198 : decode cX1_begin 198 = .ok (.ireturn, 1) := dq_172 (by decide +kernel)
theorem dX1_begin_3 : decode cX1_begin 3 = .ok (.if_icmp .lt 5, 3) := dq_161 (b1 := 0) (b2 := 5) (by decide +kernel) (by decide)
theorem dX1_begin_6 : decode cX1_begin 6 = .ok (.iconst 0, 1) := dq_3 (by decide +kernel)
theorem dX1_begin_7 : decode cX1_begin 7 = .ok (.ireturn, 1) := dq_172 (by decide +kernel)
theorem dX1_begin_8 : decode cX1_begin 8 = .ok (.aload_n 0, 1) := dq_42 (by decide +kernel)
theorem dX1_begin_9 : decode cX1_begin 9 = .ok (.iload_n 1, 1) := dq_27 (by decide +kernel)
theorem dX1_begin_92 : decode cX1_begin 92 = .ok (.aload_n 0, 1) := dq_42 (by decide +kernel)
theorem dX1_begin_93 : decode cX1_begin 93 = .ok (.getfield 39, 3) := dq_180 (b1 := 0) (b2 := 39) (by decide +kernel) (by decide)
theorem dX1_begin_96 : decode cX1_begin 96 = .ok (.ireturn, 1) := dq_172 (by decide +kernel)
theorem dX1_begin_97 : decode cX1_begin 97 = .ok (.aload_n 0, 1) := dq_42 (by decide +kernel)
theorem dX1_begin_98 : decode cX1_begin 98 = .ok (.bipush 10, 2) := dq_16 (b1 := 10) (by decide +kernel) (by decide)
theorem dX1_bodyFor_0 : decode cX1_bodyFor 0 = .ok (.aload_n 0, 1) := dq_42 (by decide +kernel)
theorem dX1_bodyFor_1 : decode cX1_bodyFor 1 = .ok (.getfield 27, 3) := dq_180 (b1 := 0) (b2 := 27) (by decide +kernel) (by decide)
theorem dX1_bodyFor_11 : decode cX1_bodyFor 11 = .ok (.arraylength, 1) := dq_190 (by decide +kernel)
theorem dX1_bodyFor_12 : decode cX1_bodyFor 12 = .ok (.if_icmp .ge 54, 3) := dq_162 (b1 := 0) (b2 := 54) (by decide +kernel) (by decide)
theorem dX1_bodyFor_15 : decode cX1_bodyFor 15 = .ok (.iload_n 2, 1) := dq_28 (by decide +kernel)
theorem dX1_bodyFor_16 : decode cX1_bodyFor 16 = .ok (.ifCond .le 50, 3) := dq_158 (b1 := 0) (b2 := 50) (by decide +kernel) (by decide)
theorem dX1_bodyFor_19 : decode cX1_bodyFor 19 = .ok (.iload_n 2, 1) := dq_28 (by decide +kernel)
theorem dX1_bodyFor_20 : decode cX1_bodyFor 20 = .ok (.getstatic 53, 3) := dq_178 (b1 := 0) (b2 := 53) (by decide +kernel) (by decide)
theorem dX1_bodyFor_23 : decode cX1_bodyFor 23 = .ok (.arraylength, 1) := dq_190 (by decide +kernel)
theorem dX1_bodyFor_24 : decode cX1_bodyFor 24 = .ok (.if_icmp .ge 42, 3) := dq_162 (b1 := 0) (b2 := 42) (by decide +kernel) (by decide)
theorem dX1_bodyFor_27 : decode cX1_bodyFor 27 = .ok (.iload_n 1, 1) := dq_27 (by decide +kernel)
theorem dX1_bodyFor_28 : decode cX1_bodyFor 28 = .ok (.ifCond .ne 11, 3) := dq_154 (b1 := 0) (b2 := 11) (by decide +kernel) (by decide)
theorem dX1_bodyFor_31 : decode cX1_bodyFor 31 = .ok (.getstatic 56, 3) := dq_178 (b1 := 0) (b2 := 56) (by decide +kernel) (by decide)
theorem dX1_bodyFor_34 : decode cX1_bodyFor 34 = .ok (.iload_n 2, 1) := dq_28 (by decide +kernel)
theorem dX1_bodyFor_35 : decode cX1_bodyFor 35 = .ok (.iaload, 1) := dq_46 (by decide +kernel)
theorem dX1_bodyFor_36 : decode cX1_bodyFor 36 = .ok (.goto 8, 3) := dq_167 (b1 := 0) (b2 := 8) (by decide +kernel) (by decide)
theorem dX1_bodyFor_39 : decode cX1_bodyFor 39 = .ok (.getstatic 59, 3) := dq_178 (b1 := 0) (b2 := 59) (by decide +kernel) (by decide)
theorem dX1_bodyFor_4 : decode cX1_bodyFor 4 = .ok (.istore_n 2, 1) := dq_61 (by decide +kernel)
theorem dX1_bodyFor_42 : decode cX1_bodyFor 42 = .ok (.iload_n 2, 1) := dq_28 (by decide +kernel)
theorem dX1_bodyFor_43 : decode cX1_bodyFor 43 = .ok (.iaload, 1) := dq_46 (by decide +kernel)
theorem dX1_bodyFor_44 : decode cX1_bodyFor 44 = .ok (.istore 4, 2) := dq_54 (b1 := 4) (by decide +kernel) (by decide)
theorem dX1_bodyFor_46 : decode cX1_bodyFor 46 = .ok (.iload 4, 2) := dq_21 (b1 := 4) (by decide +kernel) (by decide)
theorem dX1_bodyFor_48 : decode cX1_bodyFor 48 = .ok (.ifCond .eq 6, 3) := dq_153 (b1 := 0) (b2 := 6) (by decide +kernel) (by decide)
theorem dX1_bodyFor_5 : decode cX1_bodyFor 5 = .ok (.iconst 0, 1) := dq_3 (by decide +kernel)
theorem dX1_bodyFor_51 : decode cX1_bodyFor 51 = .ok (.iload 4, 2) := dq_21 (b1 := 4) (by decide +kernel) (by decide)
theorem dX1_bodyFor_53 : decode cX1_bodyFor 53 = .ok (.ireturn, 1) := dq_172 (by decide +kernel)
theorem dX1_bodyFor_54 : decode cX1_bodyFor 54 = .ok (.getstatic 53, 3) := dq_178 (b1 := 0) (b2 := 53) (by decide +kernel) (by decide)
theorem dX1_bodyFor_57 : decode cX1_bodyFor 57 = .ok (.iload_n 2, 1) := dq_28 (by decide +kernel)
theorem dX1_bodyFor_58 : decode cX1_bodyFor 58 = .ok (.iaload, 1) := dq_46 (by decide +kernel)
theorem dX1_bodyFor_59 : decode cX1_bodyFor 59 = .ok (.istore_n 2, 1) := dq_61 (by decide +kernel)
theorem dX1_bodyFor_6 : decode cX1_bodyFor 6 = .ok (.istore_n 3, 1) := dq_62 (by decide +kernel)
theorem dX1_bodyFor_60 : decode cX1_bodyFor 60 = .ok (.iinc 3 1, 3) := dq_132 (b1 := 3) (b2 := 1) (by decide +kernel) (by decide) (by decide)
theorem dX1_bodyFor_63 : decode cX1_bodyFor 63 = .ok (.goto (-56), 3) := dq_167 (b1 := 255) (b2 := 200) (by decide +kernel) (by decide)
theorem dX1_bodyFor_7 : decode cX1_bodyFor 7 = .ok (.iload_n 3, 1) := dq_29 (by decide +kernel)
theorem dX1_bodyFor_8 : decode cX1_bodyFor 8 = .ok (.getstatic 53, 3) := dq_178 (b1 := 0) (b2 := 53) (by decide +kernel) (by decide)
theorem dX1_isAsk_0 : decode cX1_isAsk 0 = .ok (.iload_n 0, 1) := dq_26 (by decide +kernel)
theorem dX1_isAsk_1 : decode cX1_isAsk 1 = .ok (.ifCond .eq 8, 3) := dq_153 (b1 := 0) (b2 := 8) (by decide +kernel) (by decide)
theorem dX1_isAsk_10 : decode cX1_isAsk 10 = .ok (.goto 4, 3) := dq_167 (b1 := 0) (b2 := 4) (by decide +kernel) (by decide)
theorem dX1_isAsk_13 : decode cX1_isAsk 13 = .ok (.iconst 0, 1) := dq_3 (by decide +kernel)
theorem dX1_isAsk_14 : decode cX1_isAsk 14 = .ok (.ireturn, 1) := dq_172 (by decide +kernel)
theorem dX1_isAsk_4 : decode cX1_isAsk 4 = .ok (.iload_n 0, 1) := dq_26 (by decide +kernel)
theorem dX1_isAsk_5 : decode cX1_isAsk 5 = .ok (.iconst 1, 1) := dq_4 (by decide +kernel)
theorem dX1_isAsk_6 : decode cX1_isAsk 6 = .ok (.if_icmp .ne 7, 3) := dq_160 (b1 := 0) (b2 := 7) (by decide +kernel) (by decide)
theorem dX1_isAsk_9 : decode cX1_isAsk 9 = .ok (.iconst 1, 1) := dq_4 (by decide +kernel)
theorem dX1_leave_0 : decode cX1_leave 0 = .ok (.aload_n 0, 1) := dq_42 (by decide +kernel)
theorem dX1_leave_1 : decode cX1_leave 1 = .ok (.getfield 15, 3) := dq_180 (b1 := 0) (b2 := 15) (by decide +kernel) (by decide)
theorem dX1_leave_10 : decode cX1_leave 10 = .ok (.getfield 11, 3) := dq_180 (b1 := 0) (b2 := 11) (by decide +kernel) (by decide)
theorem dX1_leave_13 : decode cX1_leave 13 = .ok (.aload_n 0, 1) := dq_42 (by decide +kernel)
theorem dX1_leave_14 : decode cX1_leave 14 = .ok (.getfield 15, 3) := dq_180 (b1 := 0) (b2 := 15) (by decide +kernel) (by decide)
theorem dX1_leave_17 : decode cX1_leave 17 = .ok (.iload_n 1, 1) := dq_27 (by decide +kernel)
theorem dX1_leave_18 : decode cX1_leave 18 = .ok (.iastore, 1) := dq_79 (by decide +kernel)
theorem dX1_leave_19 : decode cX1_leave 19 = .ok (.aload_n 0, 1) := dq_42 (by decide +kernel)
theorem dX1_leave_20 : decode cX1_leave 20 = .ok (.dup, 1) := dq_89 (by decide +kernel)
theorem dX1_leave_21 : decode cX1_leave 21 = .ok (.getfield 15, 3) := dq_180 (b1 := 0) (b2 := 15) (by decide +kernel) (by decide)
theorem dX1_leave_24 : decode cX1_leave 24 = .ok (.iconst 1, 1) := dq_4 (by decide +kernel)
theorem dX1_leave_25 : decode cX1_leave 25 = .ok (.iadd, 1) := dq_96 (by decide +kernel)
theorem dX1_leave_26 : decode cX1_leave 26 = .ok (.putfield 15, 3) := dq_181 (b1 := 0) (b2 := 15) (by decide +kernel) (by decide)
theorem dX1_leave_29 : decode cX1_leave 29 = .ok (.return_, 1) := dq_177 (by decide +kernel)
theorem dX1_leave_4 : decode cX1_leave 4 = .ok (.bipush 16, 2) := dq_16 (b1 := 16) (by decide +kernel) (by decide)
theorem dX1_leave_6 : decode cX1_leave 6 = .ok (.if_icmp .ge 23, 3) := dq_162 (b1 := 0) (b2 := 23) (by decide +kernel) (by decide)
theorem dX1_leave_9 : decode cX1_leave 9 = .ok (.aload_n 0, 1) := dq_42 (by decide +kernel)
theorem mb_X1_answer_wsX1_answer_r1 {w : Cond} (h : w ∈ wsX1_answer_r1) : w ∈ wsX1_answer := by unfold wsX1_answer; exact List.mem_cons_of_mem _ (List.mem_append_left _ (List.mem_append_left _ (List.mem_append_left _ (h))))
theorem mx_X1_answer_13 : Cond.code yX1_askAnew cX1_askAnew 3 (some .int) ∈ wsX1_answer := mb_X1_answer_wsX1_answer_r1 (List.mem_of_getElem? (i := 12) rfl)
theorem mx_X1_answer_14 : Cond.methodLink RX1 46 yX1_bodyFor ∈ wsX1_answer := mb_X1_answer_wsX1_answer_r1 (List.mem_of_getElem? (i := 13) rfl)
theorem mx_X1_answer_15 : Cond.instanceMethod yX1_bodyFor ∈ wsX1_answer := mb_X1_answer_wsX1_answer_r1 (List.mem_of_getElem? (i := 14) rfl)
theorem mx_X1_answer_16 : Cond.selects RX1 yX1_bodyFor yX1_bodyFor ∈ wsX1_answer := mb_X1_answer_wsX1_answer_r1 (List.mem_of_getElem? (i := 15) rfl)
theorem mx_X1_answer_12 : Cond.initialized RX1 ∈ wsX1_answer := mb_X1_answer_wsX1_answer_r1 (List.mem_of_getElem? (i := 11) rfl)
theorem mx_X1_answer_17 : Cond.code yX1_bodyFor cX1_bodyFor 5 (some .int) ∈ wsX1_answer := mb_X1_answer_wsX1_answer_r1 (List.mem_of_getElem? (i := 16) rfl)
theorem mx_X1_answer_4 : Cond.fieldLink RX1 27 "MillTalk$Asks" "kind" "I" ∈ wsX1_answer := mb_X1_answer_wsX1_answer_r1 (List.mem_of_getElem? (i := 3) rfl)
theorem mx_X1_answer_18 : Cond.fieldLink RX1 56 "MillTalk$Asks" "SIZE_BODIES" "[I" ∈ wsX1_answer := mb_X1_answer_wsX1_answer_r1 (List.mem_of_getElem? (i := 17) rfl)
theorem mx_X1_answer_19 : Cond.fieldLink RX1 59 "MillTalk$Asks" "MARK_BODIES" "[I" ∈ wsX1_answer := mb_X1_answer_wsX1_answer_r1 (List.mem_of_getElem? (i := 18) rfl)
theorem mx_X1_answer_20 : Cond.methodLink RX1 50 yX1_begin ∈ wsX1_answer := mb_X1_answer_wsX1_answer_r1 (List.mem_of_getElem? (i := 19) rfl)
theorem mx_X1_answer_21 : Cond.instanceMethod yX1_begin ∈ wsX1_answer := mb_X1_answer_wsX1_answer_r1 (List.mem_of_getElem? (i := 20) rfl)
theorem mx_X1_answer_22 : Cond.selects RX1 yX1_begin yX1_begin ∈ wsX1_answer := mb_X1_answer_wsX1_answer_r1 (List.mem_of_getElem? (i := 21) rfl)
theorem mx_X1_answer_23 : Cond.code yX1_begin cX1_begin 4 (some .int) ∈ wsX1_answer := mb_X1_answer_wsX1_answer_r1 (List.mem_of_getElem? (i := 22) rfl)
theorem mx_X1_answer_8 : Cond.fieldLink RX1 39 "MillTalk$Asks" "loud" "I" ∈ wsX1_answer := mb_X1_answer_wsX1_answer_r1 (List.mem_of_getElem? (i := 7) rfl)
theorem mx_X1_answer_2 : Cond.fieldLink RX1 19 "MillTalk$Asks" "number" "I" ∈ wsX1_answer := mb_X1_answer_wsX1_answer_r1 (List.mem_of_getElem? (i := 1) rfl)
theorem mx_X1_answer_6 : Cond.fieldLink RX1 33 "MillTalk$Asks" "cell" "I" ∈ wsX1_answer := mb_X1_answer_wsX1_answer_r1 (List.mem_of_getElem? (i := 5) rfl)
theorem mx_X1_answer_24 : Cond.methodLink RX1 62 yX1_leave ∈ wsX1_answer := mb_X1_answer_wsX1_answer_r1 (List.mem_of_getElem? (i := 23) rfl)
theorem mb_X1_answer_wsX1_answer_r2 {w : Cond} (h : w ∈ wsX1_answer_r2) : w ∈ wsX1_answer := by unfold wsX1_answer; exact List.mem_cons_of_mem _ (List.mem_append_left _ (List.mem_append_left _ (List.mem_append_right _ (h))))
theorem mx_X1_answer_25 : Cond.instanceMethod yX1_leave ∈ wsX1_answer := mb_X1_answer_wsX1_answer_r2 (List.mem_of_getElem? (i := 0) rfl)
theorem mx_X1_answer_26 : Cond.selects RX1 yX1_leave yX1_leave ∈ wsX1_answer := mb_X1_answer_wsX1_answer_r2 (List.mem_of_getElem? (i := 1) rfl)
theorem mx_X1_answer_27 : Cond.code yX1_leave cX1_leave 2 none ∈ wsX1_answer := mb_X1_answer_wsX1_answer_r2 (List.mem_of_getElem? (i := 2) rfl)
theorem mx_X1_answer_1 : Cond.fieldLink RX1 15 "MillTalk$Asks" "traced" "I" ∈ wsX1_answer := mb_X1_answer_wsX1_answer_r1 (List.mem_of_getElem? (i := 0) rfl)
theorem mx_X1_answer_28 : Cond.fieldLink RX1 11 "MillTalk$Asks" "trace" "[I" ∈ wsX1_answer := mb_X1_answer_wsX1_answer_r2 (List.mem_of_getElem? (i := 3) rfl)
theorem mx_X1_answer_9 : Cond.methodLink RX1 42 yX1_askAnew ∈ wsX1_answer := mb_X1_answer_wsX1_answer_r1 (List.mem_of_getElem? (i := 8) rfl)
theorem mx_X1_answer_10 : Cond.instanceMethod yX1_askAnew ∈ wsX1_answer := mb_X1_answer_wsX1_answer_r1 (List.mem_of_getElem? (i := 9) rfl)
theorem mx_X1_answer_11 : Cond.selects RX1 yX1_askAnew yX1_askAnew ∈ wsX1_answer := mb_X1_answer_wsX1_answer_r1 (List.mem_of_getElem? (i := 10) rfl)
theorem mb_X1_answer_wsX10 {w : Cond} (h : w ∈ wsX10) : w ∈ wsX1_answer := by unfold wsX1_answer; exact List.mem_cons_of_mem _ (List.mem_append_left _ (List.mem_append_right _ (h)))
theorem ggX1_answer_X1_askAnew : GoodIn wsX1_answer wsX1_askAnew := goodIn_sub (by unfold wsX1_askAnew; exact List.forall_mem_cons.mpr ⟨mx_X1_answer_13, List.forall_mem_append.mpr ⟨List.forall_mem_cons.mpr ⟨mx_X1_answer_14, List.forall_mem_cons.mpr ⟨mx_X1_answer_15, List.forall_mem_cons.mpr ⟨mx_X1_answer_16, List.forall_mem_cons.mpr ⟨mx_X1_answer_12, List.forall_mem_cons.mpr ⟨mx_X1_answer_17, List.forall_mem_cons.mpr ⟨mx_X1_answer_4, List.forall_mem_cons.mpr ⟨mx_X1_answer_18, List.forall_mem_cons.mpr ⟨mx_X1_answer_19, List.forall_mem_cons.mpr ⟨mx_X1_answer_20, List.forall_mem_cons.mpr ⟨mx_X1_answer_21, List.forall_mem_cons.mpr ⟨mx_X1_answer_22, List.forall_mem_cons.mpr ⟨mx_X1_answer_23, List.forall_mem_cons.mpr ⟨mx_X1_answer_8, List.forall_mem_cons.mpr ⟨mx_X1_answer_2, List.forall_mem_cons.mpr ⟨mx_X1_answer_6, List.forall_mem_cons.mpr ⟨mx_X1_answer_24, List.forall_mem_cons.mpr ⟨mx_X1_answer_25, List.forall_mem_cons.mpr ⟨mx_X1_answer_26, List.forall_mem_cons.mpr ⟨mx_X1_answer_27, List.forall_mem_cons.mpr ⟨mx_X1_answer_1, List.forall_mem_cons.mpr ⟨mx_X1_answer_28, List.forall_mem_cons.mpr ⟨mx_X1_answer_9, List.forall_mem_cons.mpr ⟨mx_X1_answer_10, List.forall_mem_cons.mpr ⟨mx_X1_answer_11, fun _ h_ => absurd h_ List.not_mem_nil⟩⟩⟩⟩⟩⟩⟩⟩⟩⟩⟩⟩⟩⟩⟩⟩⟩⟩⟩⟩⟩⟩⟩⟩, (fun _ h_ => mb_X1_answer_wsX10 h_)⟩⟩) (by decide +kernel)
theorem gX1_answer_X1_askAnew : GoodIn wsX1_answer (wsV RX1 42 RX1 yX1_askAnew wsX1_askAnew) := goodIn_app (goodIn_sub (List.forall_mem_cons.mpr ⟨mx_X1_answer_9, List.forall_mem_cons.mpr ⟨mx_X1_answer_10, List.forall_mem_cons.mpr ⟨mx_X1_answer_11, List.forall_mem_cons.mpr ⟨mx_X1_answer_12, fun _ h_ => absurd h_ List.not_mem_nil⟩⟩⟩⟩) (by decide +kernel)) ggX1_answer_X1_askAnew
theorem mx_X1_askAnew_12 : Cond.code yX1_begin cX1_begin 4 (some .int) ∈ wsX1_askAnew := by unfold wsX1_askAnew; exact List.mem_cons_of_mem _ (List.mem_append_left _ (List.mem_of_getElem? (i := 11) rfl))
theorem mx_X1_askAnew_13 : Cond.fieldLink RX1 39 "MillTalk$Asks" "loud" "I" ∈ wsX1_askAnew := by unfold wsX1_askAnew; exact List.mem_cons_of_mem _ (List.mem_append_left _ (List.mem_of_getElem? (i := 12) rfl))
theorem mx_X1_askAnew_14 : Cond.fieldLink RX1 19 "MillTalk$Asks" "number" "I" ∈ wsX1_askAnew := by unfold wsX1_askAnew; exact List.mem_cons_of_mem _ (List.mem_append_left _ (List.mem_of_getElem? (i := 13) rfl))
theorem mx_X1_askAnew_15 : Cond.fieldLink RX1 33 "MillTalk$Asks" "cell" "I" ∈ wsX1_askAnew := by unfold wsX1_askAnew; exact List.mem_cons_of_mem _ (List.mem_append_left _ (List.mem_of_getElem? (i := 14) rfl))
theorem mx_X1_askAnew_16 : Cond.methodLink RX1 62 yX1_leave ∈ wsX1_askAnew := by unfold wsX1_askAnew; exact List.mem_cons_of_mem _ (List.mem_append_left _ (List.mem_of_getElem? (i := 15) rfl))
theorem mx_X1_askAnew_17 : Cond.instanceMethod yX1_leave ∈ wsX1_askAnew := by unfold wsX1_askAnew; exact List.mem_cons_of_mem _ (List.mem_append_left _ (List.mem_of_getElem? (i := 16) rfl))
theorem mx_X1_askAnew_18 : Cond.selects RX1 yX1_leave yX1_leave ∈ wsX1_askAnew := by unfold wsX1_askAnew; exact List.mem_cons_of_mem _ (List.mem_append_left _ (List.mem_of_getElem? (i := 17) rfl))
theorem mx_X1_askAnew_4 : Cond.initialized RX1 ∈ wsX1_askAnew := by unfold wsX1_askAnew; exact List.mem_cons_of_mem _ (List.mem_append_left _ (List.mem_of_getElem? (i := 3) rfl))
theorem mx_X1_askAnew_19 : Cond.code yX1_leave cX1_leave 2 none ∈ wsX1_askAnew := by unfold wsX1_askAnew; exact List.mem_cons_of_mem _ (List.mem_append_left _ (List.mem_of_getElem? (i := 18) rfl))
theorem mx_X1_askAnew_20 : Cond.fieldLink RX1 15 "MillTalk$Asks" "traced" "I" ∈ wsX1_askAnew := by unfold wsX1_askAnew; exact List.mem_cons_of_mem _ (List.mem_append_left _ (List.mem_of_getElem? (i := 19) rfl))
theorem mx_X1_askAnew_21 : Cond.fieldLink RX1 11 "MillTalk$Asks" "trace" "[I" ∈ wsX1_askAnew := by unfold wsX1_askAnew; exact List.mem_cons_of_mem _ (List.mem_append_left _ (List.mem_of_getElem? (i := 20) rfl))
theorem mx_X1_askAnew_9 : Cond.methodLink RX1 50 yX1_begin ∈ wsX1_askAnew := by unfold wsX1_askAnew; exact List.mem_cons_of_mem _ (List.mem_append_left _ (List.mem_of_getElem? (i := 8) rfl))
theorem mx_X1_askAnew_10 : Cond.instanceMethod yX1_begin ∈ wsX1_askAnew := by unfold wsX1_askAnew; exact List.mem_cons_of_mem _ (List.mem_append_left _ (List.mem_of_getElem? (i := 9) rfl))
theorem mx_X1_askAnew_11 : Cond.selects RX1 yX1_begin yX1_begin ∈ wsX1_askAnew := by unfold wsX1_askAnew; exact List.mem_cons_of_mem _ (List.mem_append_left _ (List.mem_of_getElem? (i := 10) rfl))
theorem mx_X1_askAnew_22 : Cond.methodLink RX1 42 yX1_askAnew ∈ wsX1_askAnew := by unfold wsX1_askAnew; exact List.mem_cons_of_mem _ (List.mem_append_left _ (List.mem_of_getElem? (i := 21) rfl))
theorem mx_X1_askAnew_23 : Cond.instanceMethod yX1_askAnew ∈ wsX1_askAnew := by unfold wsX1_askAnew; exact List.mem_cons_of_mem _ (List.mem_append_left _ (List.mem_of_getElem? (i := 22) rfl))
theorem mx_X1_askAnew_24 : Cond.selects RX1 yX1_askAnew yX1_askAnew ∈ wsX1_askAnew := by unfold wsX1_askAnew; exact List.mem_cons_of_mem _ (List.mem_append_left _ (List.mem_of_getElem? (i := 23) rfl))
theorem mx_X1_askAnew_0 : Cond.code yX1_askAnew cX1_askAnew 3 (some .int) ∈ wsX1_askAnew := by unfold wsX1_askAnew; exact List.mem_cons_self
theorem mx_X1_askAnew_1 : Cond.methodLink RX1 46 yX1_bodyFor ∈ wsX1_askAnew := by unfold wsX1_askAnew; exact List.mem_cons_of_mem _ (List.mem_append_left _ (List.mem_of_getElem? (i := 0) rfl))
theorem mx_X1_askAnew_2 : Cond.instanceMethod yX1_bodyFor ∈ wsX1_askAnew := by unfold wsX1_askAnew; exact List.mem_cons_of_mem _ (List.mem_append_left _ (List.mem_of_getElem? (i := 1) rfl))
theorem mx_X1_askAnew_3 : Cond.selects RX1 yX1_bodyFor yX1_bodyFor ∈ wsX1_askAnew := by unfold wsX1_askAnew; exact List.mem_cons_of_mem _ (List.mem_append_left _ (List.mem_of_getElem? (i := 2) rfl))
theorem mx_X1_askAnew_5 : Cond.code yX1_bodyFor cX1_bodyFor 5 (some .int) ∈ wsX1_askAnew := by unfold wsX1_askAnew; exact List.mem_cons_of_mem _ (List.mem_append_left _ (List.mem_of_getElem? (i := 4) rfl))
theorem mx_X1_askAnew_6 : Cond.fieldLink RX1 27 "MillTalk$Asks" "kind" "I" ∈ wsX1_askAnew := by unfold wsX1_askAnew; exact List.mem_cons_of_mem _ (List.mem_append_left _ (List.mem_of_getElem? (i := 5) rfl))
theorem mx_X1_askAnew_7 : Cond.fieldLink RX1 56 "MillTalk$Asks" "SIZE_BODIES" "[I" ∈ wsX1_askAnew := by unfold wsX1_askAnew; exact List.mem_cons_of_mem _ (List.mem_append_left _ (List.mem_of_getElem? (i := 6) rfl))
theorem mx_X1_askAnew_8 : Cond.fieldLink RX1 59 "MillTalk$Asks" "MARK_BODIES" "[I" ∈ wsX1_askAnew := by unfold wsX1_askAnew; exact List.mem_cons_of_mem _ (List.mem_append_left _ (List.mem_of_getElem? (i := 7) rfl))
theorem mb_X1_askAnew_wsX10 {w : Cond} (h : w ∈ wsX10) : w ∈ wsX1_askAnew := by unfold wsX1_askAnew; exact List.mem_cons_of_mem _ (List.mem_append_right _ (h))
theorem ggX1_askAnew_X1_begin : GoodIn wsX1_askAnew wsX1_begin := goodIn_sub (by unfold wsX1_begin; exact List.forall_mem_cons.mpr ⟨mx_X1_askAnew_12, List.forall_mem_append.mpr ⟨List.forall_mem_cons.mpr ⟨mx_X1_askAnew_13, List.forall_mem_cons.mpr ⟨mx_X1_askAnew_14, List.forall_mem_cons.mpr ⟨mx_X1_askAnew_15, List.forall_mem_cons.mpr ⟨mx_X1_askAnew_16, List.forall_mem_cons.mpr ⟨mx_X1_askAnew_17, List.forall_mem_cons.mpr ⟨mx_X1_askAnew_18, List.forall_mem_cons.mpr ⟨mx_X1_askAnew_4, List.forall_mem_cons.mpr ⟨mx_X1_askAnew_19, List.forall_mem_cons.mpr ⟨mx_X1_askAnew_20, List.forall_mem_cons.mpr ⟨mx_X1_askAnew_21, List.forall_mem_cons.mpr ⟨mx_X1_askAnew_9, List.forall_mem_cons.mpr ⟨mx_X1_askAnew_10, List.forall_mem_cons.mpr ⟨mx_X1_askAnew_11, List.forall_mem_cons.mpr ⟨mx_X1_askAnew_22, List.forall_mem_cons.mpr ⟨mx_X1_askAnew_23, List.forall_mem_cons.mpr ⟨mx_X1_askAnew_24, List.forall_mem_cons.mpr ⟨mx_X1_askAnew_0, List.forall_mem_cons.mpr ⟨mx_X1_askAnew_1, List.forall_mem_cons.mpr ⟨mx_X1_askAnew_2, List.forall_mem_cons.mpr ⟨mx_X1_askAnew_3, List.forall_mem_cons.mpr ⟨mx_X1_askAnew_5, List.forall_mem_cons.mpr ⟨mx_X1_askAnew_6, List.forall_mem_cons.mpr ⟨mx_X1_askAnew_7, List.forall_mem_cons.mpr ⟨mx_X1_askAnew_8, fun _ h_ => absurd h_ List.not_mem_nil⟩⟩⟩⟩⟩⟩⟩⟩⟩⟩⟩⟩⟩⟩⟩⟩⟩⟩⟩⟩⟩⟩⟩⟩, (fun _ h_ => mb_X1_askAnew_wsX10 h_)⟩⟩) (by decide +kernel)
theorem gX1_askAnew_X1_begin : GoodIn wsX1_askAnew (wsV RX1 50 RX1 yX1_begin wsX1_begin) := goodIn_app (goodIn_sub (List.forall_mem_cons.mpr ⟨mx_X1_askAnew_9, List.forall_mem_cons.mpr ⟨mx_X1_askAnew_10, List.forall_mem_cons.mpr ⟨mx_X1_askAnew_11, List.forall_mem_cons.mpr ⟨mx_X1_askAnew_4, fun _ h_ => absurd h_ List.not_mem_nil⟩⟩⟩⟩) (by decide +kernel)) ggX1_askAnew_X1_begin
theorem ggX1_askAnew_X1_bodyFor : GoodIn wsX1_askAnew wsX1_bodyFor := goodIn_sub (by unfold wsX1_bodyFor; exact List.forall_mem_cons.mpr ⟨mx_X1_askAnew_5, List.forall_mem_append.mpr ⟨List.forall_mem_cons.mpr ⟨mx_X1_askAnew_6, List.forall_mem_cons.mpr ⟨mx_X1_askAnew_7, List.forall_mem_cons.mpr ⟨mx_X1_askAnew_8, fun _ h_ => absurd h_ List.not_mem_nil⟩⟩⟩, (fun _ h_ => mb_X1_askAnew_wsX10 h_)⟩⟩) (by decide +kernel)
theorem gX1_askAnew_X1_bodyFor : GoodIn wsX1_askAnew (wsV RX1 46 RX1 yX1_bodyFor wsX1_bodyFor) := goodIn_app (goodIn_sub (List.forall_mem_cons.mpr ⟨mx_X1_askAnew_1, List.forall_mem_cons.mpr ⟨mx_X1_askAnew_2, List.forall_mem_cons.mpr ⟨mx_X1_askAnew_3, List.forall_mem_cons.mpr ⟨mx_X1_askAnew_4, fun _ h_ => absurd h_ List.not_mem_nil⟩⟩⟩⟩) (by decide +kernel)) ggX1_askAnew_X1_bodyFor
theorem mx_X1_begin_17 : Cond.code yX1_askAnew cX1_askAnew 3 (some .int) ∈ wsX1_begin := by unfold wsX1_begin; exact List.mem_cons_of_mem _ (List.mem_append_left _ (List.mem_of_getElem? (i := 16) rfl))
theorem mx_X1_begin_18 : Cond.methodLink RX1 46 yX1_bodyFor ∈ wsX1_begin := by unfold wsX1_begin; exact List.mem_cons_of_mem _ (List.mem_append_left _ (List.mem_of_getElem? (i := 17) rfl))
theorem mx_X1_begin_19 : Cond.instanceMethod yX1_bodyFor ∈ wsX1_begin := by unfold wsX1_begin; exact List.mem_cons_of_mem _ (List.mem_append_left _ (List.mem_of_getElem? (i := 18) rfl))
theorem mx_X1_begin_20 : Cond.selects RX1 yX1_bodyFor yX1_bodyFor ∈ wsX1_begin := by unfold wsX1_begin; exact List.mem_cons_of_mem _ (List.mem_append_left _ (List.mem_of_getElem? (i := 19) rfl))
theorem mx_X1_begin_7 : Cond.initialized RX1 ∈ wsX1_begin := by unfold wsX1_begin; exact List.mem_cons_of_mem _ (List.mem_append_left _ (List.mem_of_getElem? (i := 6) rfl))
theorem mx_X1_begin_21 : Cond.code yX1_bodyFor cX1_bodyFor 5 (some .int) ∈ wsX1_begin := by unfold wsX1_begin; exact List.mem_cons_of_mem _ (List.mem_append_left _ (List.mem_of_getElem? (i := 20) rfl))
theorem mx_X1_begin_22 : Cond.fieldLink RX1 27 "MillTalk$Asks" "kind" "I" ∈ wsX1_begin := by unfold wsX1_begin; exact List.mem_cons_of_mem _ (List.mem_append_left _ (List.mem_of_getElem? (i := 21) rfl))
theorem mx_X1_begin_23 : Cond.fieldLink RX1 56 "MillTalk$Asks" "SIZE_BODIES" "[I" ∈ wsX1_begin := by unfold wsX1_begin; exact List.mem_cons_of_mem _ (List.mem_append_left _ (List.mem_of_getElem? (i := 22) rfl))
theorem mx_X1_begin_24 : Cond.fieldLink RX1 59 "MillTalk$Asks" "MARK_BODIES" "[I" ∈ wsX1_begin := by unfold wsX1_begin; exact List.mem_cons_of_mem _ (List.mem_append_left _ (List.mem_of_getElem? (i := 23) rfl))
theorem mx_X1_begin_11 : Cond.methodLink RX1 50 yX1_begin ∈ wsX1_begin := by unfold wsX1_begin; exact List.mem_cons_of_mem _ (List.mem_append_left _ (List.mem_of_getElem? (i := 10) rfl))
theorem mx_X1_begin_12 : Cond.instanceMethod yX1_begin ∈ wsX1_begin := by unfold wsX1_begin; exact List.mem_cons_of_mem _ (List.mem_append_left _ (List.mem_of_getElem? (i := 11) rfl))
theorem mx_X1_begin_13 : Cond.selects RX1 yX1_begin yX1_begin ∈ wsX1_begin := by unfold wsX1_begin; exact List.mem_cons_of_mem _ (List.mem_append_left _ (List.mem_of_getElem? (i := 12) rfl))
theorem mx_X1_begin_0 : Cond.code yX1_begin cX1_begin 4 (some .int) ∈ wsX1_begin := by unfold wsX1_begin; exact List.mem_cons_self
theorem mx_X1_begin_1 : Cond.fieldLink RX1 39 "MillTalk$Asks" "loud" "I" ∈ wsX1_begin := by unfold wsX1_begin; exact List.mem_cons_of_mem _ (List.mem_append_left _ (List.mem_of_getElem? (i := 0) rfl))
theorem mx_X1_begin_2 : Cond.fieldLink RX1 19 "MillTalk$Asks" "number" "I" ∈ wsX1_begin := by unfold wsX1_begin; exact List.mem_cons_of_mem _ (List.mem_append_left _ (List.mem_of_getElem? (i := 1) rfl))
theorem mx_X1_begin_3 : Cond.fieldLink RX1 33 "MillTalk$Asks" "cell" "I" ∈ wsX1_begin := by unfold wsX1_begin; exact List.mem_cons_of_mem _ (List.mem_append_left _ (List.mem_of_getElem? (i := 2) rfl))
theorem mx_X1_begin_4 : Cond.methodLink RX1 62 yX1_leave ∈ wsX1_begin := by unfold wsX1_begin; exact List.mem_cons_of_mem _ (List.mem_append_left _ (List.mem_of_getElem? (i := 3) rfl))
theorem mx_X1_begin_5 : Cond.instanceMethod yX1_leave ∈ wsX1_begin := by unfold wsX1_begin; exact List.mem_cons_of_mem _ (List.mem_append_left _ (List.mem_of_getElem? (i := 4) rfl))
theorem mx_X1_begin_6 : Cond.selects RX1 yX1_leave yX1_leave ∈ wsX1_begin := by unfold wsX1_begin; exact List.mem_cons_of_mem _ (List.mem_append_left _ (List.mem_of_getElem? (i := 5) rfl))
theorem mx_X1_begin_8 : Cond.code yX1_leave cX1_leave 2 none ∈ wsX1_begin := by unfold wsX1_begin; exact List.mem_cons_of_mem _ (List.mem_append_left _ (List.mem_of_getElem? (i := 7) rfl))
theorem mx_X1_begin_9 : Cond.fieldLink RX1 15 "MillTalk$Asks" "traced" "I" ∈ wsX1_begin := by unfold wsX1_begin; exact List.mem_cons_of_mem _ (List.mem_append_left _ (List.mem_of_getElem? (i := 8) rfl))
theorem mx_X1_begin_10 : Cond.fieldLink RX1 11 "MillTalk$Asks" "trace" "[I" ∈ wsX1_begin := by unfold wsX1_begin; exact List.mem_cons_of_mem _ (List.mem_append_left _ (List.mem_of_getElem? (i := 9) rfl))
theorem mx_X1_begin_14 : Cond.methodLink RX1 42 yX1_askAnew ∈ wsX1_begin := by unfold wsX1_begin; exact List.mem_cons_of_mem _ (List.mem_append_left _ (List.mem_of_getElem? (i := 13) rfl))
theorem mx_X1_begin_15 : Cond.instanceMethod yX1_askAnew ∈ wsX1_begin := by unfold wsX1_begin; exact List.mem_cons_of_mem _ (List.mem_append_left _ (List.mem_of_getElem? (i := 14) rfl))
theorem mx_X1_begin_16 : Cond.selects RX1 yX1_askAnew yX1_askAnew ∈ wsX1_begin := by unfold wsX1_begin; exact List.mem_cons_of_mem _ (List.mem_append_left _ (List.mem_of_getElem? (i := 15) rfl))
theorem mb_X1_begin_wsX10 {w : Cond} (h : w ∈ wsX10) : w ∈ wsX1_begin := by unfold wsX1_begin; exact List.mem_cons_of_mem _ (List.mem_append_right _ (h))
theorem ggX1_begin_X1_askAnew : GoodIn wsX1_begin wsX1_askAnew := goodIn_sub (by unfold wsX1_askAnew; exact List.forall_mem_cons.mpr ⟨mx_X1_begin_17, List.forall_mem_append.mpr ⟨List.forall_mem_cons.mpr ⟨mx_X1_begin_18, List.forall_mem_cons.mpr ⟨mx_X1_begin_19, List.forall_mem_cons.mpr ⟨mx_X1_begin_20, List.forall_mem_cons.mpr ⟨mx_X1_begin_7, List.forall_mem_cons.mpr ⟨mx_X1_begin_21, List.forall_mem_cons.mpr ⟨mx_X1_begin_22, List.forall_mem_cons.mpr ⟨mx_X1_begin_23, List.forall_mem_cons.mpr ⟨mx_X1_begin_24, List.forall_mem_cons.mpr ⟨mx_X1_begin_11, List.forall_mem_cons.mpr ⟨mx_X1_begin_12, List.forall_mem_cons.mpr ⟨mx_X1_begin_13, List.forall_mem_cons.mpr ⟨mx_X1_begin_0, List.forall_mem_cons.mpr ⟨mx_X1_begin_1, List.forall_mem_cons.mpr ⟨mx_X1_begin_2, List.forall_mem_cons.mpr ⟨mx_X1_begin_3, List.forall_mem_cons.mpr ⟨mx_X1_begin_4, List.forall_mem_cons.mpr ⟨mx_X1_begin_5, List.forall_mem_cons.mpr ⟨mx_X1_begin_6, List.forall_mem_cons.mpr ⟨mx_X1_begin_8, List.forall_mem_cons.mpr ⟨mx_X1_begin_9, List.forall_mem_cons.mpr ⟨mx_X1_begin_10, List.forall_mem_cons.mpr ⟨mx_X1_begin_14, List.forall_mem_cons.mpr ⟨mx_X1_begin_15, List.forall_mem_cons.mpr ⟨mx_X1_begin_16, fun _ h_ => absurd h_ List.not_mem_nil⟩⟩⟩⟩⟩⟩⟩⟩⟩⟩⟩⟩⟩⟩⟩⟩⟩⟩⟩⟩⟩⟩⟩⟩, (fun _ h_ => mb_X1_begin_wsX10 h_)⟩⟩) (by decide +kernel)
theorem gX1_begin_X1_askAnew : GoodIn wsX1_begin (wsV RX1 42 RX1 yX1_askAnew wsX1_askAnew) := goodIn_app (goodIn_sub (List.forall_mem_cons.mpr ⟨mx_X1_begin_14, List.forall_mem_cons.mpr ⟨mx_X1_begin_15, List.forall_mem_cons.mpr ⟨mx_X1_begin_16, List.forall_mem_cons.mpr ⟨mx_X1_begin_7, fun _ h_ => absurd h_ List.not_mem_nil⟩⟩⟩⟩) (by decide +kernel)) ggX1_begin_X1_askAnew
theorem ggX1_begin_X1_begin : GoodIn wsX1_begin wsX1_begin := goodIn_sub (by unfold wsX1_begin; exact List.forall_mem_cons.mpr ⟨mx_X1_begin_0, List.forall_mem_append.mpr ⟨List.forall_mem_cons.mpr ⟨mx_X1_begin_1, List.forall_mem_cons.mpr ⟨mx_X1_begin_2, List.forall_mem_cons.mpr ⟨mx_X1_begin_3, List.forall_mem_cons.mpr ⟨mx_X1_begin_4, List.forall_mem_cons.mpr ⟨mx_X1_begin_5, List.forall_mem_cons.mpr ⟨mx_X1_begin_6, List.forall_mem_cons.mpr ⟨mx_X1_begin_7, List.forall_mem_cons.mpr ⟨mx_X1_begin_8, List.forall_mem_cons.mpr ⟨mx_X1_begin_9, List.forall_mem_cons.mpr ⟨mx_X1_begin_10, List.forall_mem_cons.mpr ⟨mx_X1_begin_11, List.forall_mem_cons.mpr ⟨mx_X1_begin_12, List.forall_mem_cons.mpr ⟨mx_X1_begin_13, List.forall_mem_cons.mpr ⟨mx_X1_begin_14, List.forall_mem_cons.mpr ⟨mx_X1_begin_15, List.forall_mem_cons.mpr ⟨mx_X1_begin_16, List.forall_mem_cons.mpr ⟨mx_X1_begin_17, List.forall_mem_cons.mpr ⟨mx_X1_begin_18, List.forall_mem_cons.mpr ⟨mx_X1_begin_19, List.forall_mem_cons.mpr ⟨mx_X1_begin_20, List.forall_mem_cons.mpr ⟨mx_X1_begin_21, List.forall_mem_cons.mpr ⟨mx_X1_begin_22, List.forall_mem_cons.mpr ⟨mx_X1_begin_23, List.forall_mem_cons.mpr ⟨mx_X1_begin_24, fun _ h_ => absurd h_ List.not_mem_nil⟩⟩⟩⟩⟩⟩⟩⟩⟩⟩⟩⟩⟩⟩⟩⟩⟩⟩⟩⟩⟩⟩⟩⟩, (fun _ h_ => mb_X1_begin_wsX10 h_)⟩⟩) (by decide +kernel)
theorem gX1_begin_X1_begin : GoodIn wsX1_begin (wsV RX1 50 RX1 yX1_begin wsX1_begin) := goodIn_app (goodIn_sub (List.forall_mem_cons.mpr ⟨mx_X1_begin_11, List.forall_mem_cons.mpr ⟨mx_X1_begin_12, List.forall_mem_cons.mpr ⟨mx_X1_begin_13, List.forall_mem_cons.mpr ⟨mx_X1_begin_7, fun _ h_ => absurd h_ List.not_mem_nil⟩⟩⟩⟩) (by decide +kernel)) ggX1_begin_X1_begin
theorem ggX1_begin_X1_leave : GoodIn wsX1_begin wsX1_leave := goodIn_sub (by unfold wsX1_leave; exact List.forall_mem_cons.mpr ⟨mx_X1_begin_8, List.forall_mem_append.mpr ⟨List.forall_mem_cons.mpr ⟨mx_X1_begin_9, List.forall_mem_cons.mpr ⟨mx_X1_begin_10, fun _ h_ => absurd h_ List.not_mem_nil⟩⟩, (fun _ h_ => mb_X1_begin_wsX10 h_)⟩⟩) (by decide +kernel)
theorem gX1_begin_X1_leave : GoodIn wsX1_begin (wsV RX1 62 RX1 yX1_leave wsX1_leave) := goodIn_app (goodIn_sub (List.forall_mem_cons.mpr ⟨mx_X1_begin_4, List.forall_mem_cons.mpr ⟨mx_X1_begin_5, List.forall_mem_cons.mpr ⟨mx_X1_begin_6, List.forall_mem_cons.mpr ⟨mx_X1_begin_7, fun _ h_ => absurd h_ List.not_mem_nil⟩⟩⟩⟩) (by decide +kernel)) ggX1_begin_X1_leave
theorem i_X1_answer_X1 : ∀ w ∈ u_ws RX1 TX1 6, w ∈ wsX1_answer := fun _ h_ => mb_X1_answer_wsX10 h_
theorem mb_X1_answer_wsX30 {w : Cond} (h : w ∈ wsX30) : w ∈ wsX1_answer := by unfold wsX1_answer; exact List.mem_cons_of_mem _ (List.mem_append_right _ (h))
theorem i_X1_answer_X3 : ∀ w ∈ u_ws RX3 TX3 13, w ∈ wsX1_answer := fun _ h_ => mb_X1_answer_wsX30 h_
theorem i_X1_begin_X1 : ∀ w ∈ u_ws RX1 TX1 6, w ∈ wsX1_begin := fun _ h_ => mb_X1_begin_wsX10 h_
theorem mb_X1_bodyFor_wsX10 {w : Cond} (h : w ∈ wsX10) : w ∈ wsX1_bodyFor := by unfold wsX1_bodyFor; exact List.mem_cons_of_mem _ (List.mem_append_right _ (h))
theorem i_X1_bodyFor_X1 : ∀ w ∈ u_ws RX1 TX1 6, w ∈ wsX1_bodyFor := fun _ h_ => mb_X1_bodyFor_wsX10 h_
theorem mb_X1_leave_wsX10 {w : Cond} (h : w ∈ wsX10) : w ∈ wsX1_leave := by unfold wsX1_leave; exact List.mem_cons_of_mem _ (List.mem_append_right _ (h))
theorem i_X1_leave_X1 : ∀ w ∈ u_ws RX1 TX1 6, w ∈ wsX1_leave := fun _ h_ => mb_X1_leave_wsX10 h_
theorem mx_X1_leave_1 : Cond.fieldLink RX1 15 "MillTalk$Asks" "traced" "I" ∈ wsX1_leave := by unfold wsX1_leave; exact List.mem_cons_of_mem _ (List.mem_append_left _ (List.mem_of_getElem? (i := 0) rfl))
theorem mx_X1_leave_2 : Cond.fieldLink RX1 11 "MillTalk$Asks" "trace" "[I" ∈ wsX1_leave := by unfold wsX1_leave; exact List.mem_cons_of_mem _ (List.mem_append_left _ (List.mem_of_getElem? (i := 1) rfl))
theorem mx_X1_bodyFor_1 : Cond.fieldLink RX1 27 "MillTalk$Asks" "kind" "I" ∈ wsX1_bodyFor := by unfold wsX1_bodyFor; exact List.mem_cons_of_mem _ (List.mem_append_left _ (List.mem_of_getElem? (i := 0) rfl))
theorem mx_X1_bodyFor_2 : Cond.fieldLink RX1 56 "MillTalk$Asks" "SIZE_BODIES" "[I" ∈ wsX1_bodyFor := by unfold wsX1_bodyFor; exact List.mem_cons_of_mem _ (List.mem_append_left _ (List.mem_of_getElem? (i := 1) rfl))
theorem mx_X1_bodyFor_3 : Cond.fieldLink RX1 59 "MillTalk$Asks" "MARK_BODIES" "[I" ∈ wsX1_bodyFor := by unfold wsX1_bodyFor; exact List.mem_cons_of_mem _ (List.mem_append_left _ (List.mem_of_getElem? (i := 2) rfl))
theorem mx_X1_answer_3 : Cond.fieldLink RX1 22 "MillTalk$Level" "kinds" "[I" ∈ wsX1_answer := mb_X1_answer_wsX1_answer_r1 (List.mem_of_getElem? (i := 2) rfl)
theorem mx_X1_answer_5 : Cond.fieldLink RX1 30 "MillTalk$Level" "places" "[I" ∈ wsX1_answer := mb_X1_answer_wsX1_answer_r1 (List.mem_of_getElem? (i := 4) rfl)
theorem mx_X1_answer_7 : Cond.fieldLink RX1 36 "MillTalk$Level" "louds" "[I" ∈ wsX1_answer := mb_X1_answer_wsX1_answer_r1 (List.mem_of_getElem? (i := 6) rfl)
-- 23.asks
theorem lf_X1_isAsk_1 {x : Int32} (c_1 : x = 0) : (x = 0 ∨ x = 1) := by
  grind
theorem lf_X1_isAsk_2 {x : Int32} (c_1 : ¬ (x = 0)) (c_2 : ¬ (x = 1)) : ¬ (x = 0 ∨ x = 1) := by
  grind
theorem lf_X1_isAsk_3 {x : Int32} (c_1 : ¬ (x = 0)) (c_2 : x = 1) : (x = 0 ∨ x = 1) := by
  grind
set_option maxHeartbeats 4000000 in
set_option maxRecDepth 100000 in
theorem r_X1_isAsk (l : Launch) (dC : Nat → ClassId) (dI : Nat → Nat → Nat) (cI cZ cL cJ : ClassId) (x : Int32)  : Met l yX1_isAsk wsX1_isAsk ({ frames := 0, cells := 0, slots := 0, locals := 0 }) (va_Pc [.int x] (fun U => va_P (dC, dI) vwCl [] U.heap ∧ va_K (dC, dI) vwCl [(cI, .int), (cZ, .boolean), (cL, .object RX3), (cJ, .array .int)] U)) (vp_Si (fun r => (r = 0 ∧ ¬ (x = 0 ∨ x = 1)) ∨ (r = 1 ∧ (x = 0 ∨ x = 1)))) 0 0 (fun _ => False) := by
  refine Met.ofW (cc := cX1_isAsk) (maxL := 1) (ret := (some .boolean)) (by decide) rfl ?_
  intro p e s m args below meth c s₁ B hml hv
  obtain ⟨rfl, hP, hK⟩ := hv
  have hx := B.exec
  have hb := B.bytes
  have hr := B.returns
  have hts := atoms_spec (ws := wsX1_isAsk) B.pre
  have hown : s.vm.findClass RX1 = some m.cls := findClass_of_methodNamed B.named
  have hlocks := B.notSynchronized
  have hP : va_P (dC, dI) vwCl [] s.heap := hP
  have hl := lv_entry ([.int x]) (n := 1) (Nat.le_of_ble_eq_true rfl)
  rw [lg_entry_eq]
  generalize (lg_sl ([.int x]) ++ List.replicate (1 - (lg_sl ([.int x])).length) Slot.unset).toArray = ls at hl ⊢
  have hl : lv_has ls 1 [(0, .int x)] := hl
  refine lv_iload_n hx hb dX1_isAsk_0 rfl (lv_at hl 0 rfl) ?_
  refine lv_if_eq (tgt := 9) hx hb dX1_isAsk_1 (by decide) (fun c_1 => ?_) (fun c_1 => ?_)
  · skip
    refine lv_iconst (v := 1) hx hb dX1_isAsk_9 (by decide) ?_
    refine lv_goto (tgt := 14) hx hb dX1_isAsk_10 (by decide) ?_
    exact W.zret (v := 1) hx hb hr (by decide) (fun t ht hW => ⟨1, rfl, Or.inr (⟨rfl, (lf_X1_isAsk_1 c_1)⟩), ht⟩) (fun _ h => by cases h) dX1_isAsk_14
  · skip
    refine lv_iload_n hx hb dX1_isAsk_4 rfl (lv_at hl 0 rfl) ?_
    refine lv_iconst (v := 1) hx hb dX1_isAsk_5 (by decide) ?_
    refine lv_icmp_ne (tgt := 13) hx hb dX1_isAsk_6 (by decide) (fun c_2 => ?_) (fun c_2 => ?_)
    · skip
      refine lv_iconst (v := 0) hx hb dX1_isAsk_13 (by decide) ?_
      exact W.zret (v := 0) hx hb hr (by decide) (fun t ht hW => ⟨0, rfl, Or.inl (⟨rfl, (lf_X1_isAsk_2 c_1 c_2)⟩), ht⟩) (fun _ h => by cases h) dX1_isAsk_14
    · skip
      refine lv_iconst (v := 1) hx hb dX1_isAsk_9 (by decide) ?_
      refine lv_goto (tgt := 14) hx hb dX1_isAsk_10 (by decide) ?_
      exact W.zret (v := 1) hx hb hr (by decide) (fun t ht hW => ⟨1, rfl, Or.inr (⟨rfl, (lf_X1_isAsk_3 c_1 c_2)⟩), ht⟩) (fun _ h => by cases h) dX1_isAsk_14
theorem lf_X1_leave_1 {z : Nat} (hz : z ≤ 16) (c_1 : 16 ≤ z) : z ≤ 16 := by
  first | omega | (simp only [lvX]; grind)
theorem lf_X1_leave_2 {z : Nat} {ft : Nat → Int32} {x : Int32} (hz : z ≤ 16) (c_1 : 16 ≤ z) : lvX x (z, ft) = (z, ft) := by
  first | omega | (simp only [lvX]; grind)
theorem lf_X1_leave_3 {z : Nat} {ft : Nat → Int32} {x : Int32} {g_2 : Nat → Int32} (hz : z ≤ 16) (c_1 : ¬ (16 ≤ z)) (hu_2 : g_2 = upd ft z x) : (z + 1) ≤ 16 := by
  first | omega | (simp only [lvX]; grind)
theorem lf_X1_leave_4 {z : Nat} {ft : Nat → Int32} {x : Int32} {g_2 : Nat → Int32} (hz : z ≤ 16) (c_1 : ¬ (16 ≤ z)) (hu_2 : g_2 = upd ft z x) : lvX x (z, ft) = ((z + 1), g_2) := by
  first | omega | (simp only [lvX]; grind)
set_option maxHeartbeats 4000000 in
set_option maxRecDepth 100000 in
theorem r_X1_leave (l : Launch) (dC : Nat → ClassId) (dI : Nat → Nat → Nat) (cI cZ cL cJ : ClassId) (sz : Nat) (k9 : Nat) (tc : Nat) (z : Nat) (nu : Int32) (ki : Int32) (ce : Int32) (lo : Int32) (ft : Nat → Int32) (x : Int32) (hz : z ≤ 16) : Met l yX1_leave wsX1_leave ({ frames := 0, cells := 0, slots := 0, locals := 0 }) (va_Pc [.ref k9, .int x] (fun U => U.heap.size = sz ∧ va_P (dC, dI) vwCl [(xo_1_riiiii k9 tc (nI z) nu ki ce lo), (xI tc cI 16 ft)] U.heap ∧ va_K (dC, dI) vwCl [(cI, .int), (cZ, .boolean), (cL, .object RX3), (cJ, .array .int)] U ∧ va_D (fun _ => True) [(xo_1_riiiii k9 tc (nI z) nu ki ce lo), (xI tc cI 16 ft)])) (va_Qv (fun (_ : Unit) => True) (fun (_ : Unit) t => ∃ (zn : Nat) (ftn : Nat → Int32), va_P (dC, dI) vwCl [(xo_1_riiiii k9 tc (nI zn) nu ki ce lo), (xI tc cI 16 ftn)] t.heap ∧ va_D (va_A [(xo_1_riiiii k9 tc (nI z) nu ki ce lo), (xI tc cI 16 ft)] sz) [(xo_1_riiiii k9 tc (nI zn) nu ki ce lo), (xI tc cI 16 ftn)] ∧ zn ≤ 16 ∧ lvX x (z, ft) = (zn, ftn)) (va_A [(xo_1_riiiii k9 tc (nI z) nu ki ce lo), (xI tc cI 16 ft)] sz)) 0 0 (va_A [(xo_1_riiiii k9 tc (nI z) nu ki ce lo), (xI tc cI 16 ft)] sz) := by
  refine Met.ofW (cc := cX1_leave) (maxL := 2) (ret := none) (by decide) rfl ?_
  intro p e s m args below meth c s₁ B hml hv
  obtain ⟨rfl, hsz, hP, hK, hD0⟩ := hv
  have hx := B.exec
  have hb := B.bytes
  have hr := B.returns
  have hts := atoms_spec (ws := wsX1_leave) B.pre
  have hown : s.vm.findClass RX1 = some m.cls := findClass_of_methodNamed B.named
  have hlocks := B.notSynchronized
  subst hsz
  have hD := hD0.self (sz := s.heap.size)
  generalize hAe : va_A [(xo_1_riiiii k9 tc (nI z) nu ki ce lo), (xI tc cI 16 ft)] s.heap.size = A at hD ⊢
  have hA : ∀ q : Nat, s.heap.size ≤ q → A q := fun q h => by rw [← hAe]; exact Or.inr h
  have hS : va_S A s.heap s.heap [] := va_S.rf
  have hP : va_P (dC, dI) vwCl [(xo_1_riiiii k9 tc (nI z) nu ki ce lo), (xI tc cI 16 ft)] s.heap := hP
  have hl := lv_entry ([.ref k9, .int x]) (n := 2) (Nat.le_of_ble_eq_true rfl)
  rw [lg_entry_eq]
  generalize (lg_sl ([.ref k9, .int x]) ++ List.replicate (2 - (lg_sl ([.ref k9, .int x])).length) Slot.unset).toArray = ls at hl ⊢
  have hl : lv_has ls 2 [(0, .ref k9), (1, .int x)] := hl
  refine lv_aload_n hx hb dX1_leave_0 rfl (lv_at hl 0 rfl) ?_
  refine va_get (D := (dC, dI)) (ci := 1) (v := .int (nI z)) (C := RX1) (T := TX1) (N := 6) hx hb hts i_X1_leave_X1 hown hK hP 0 rfl rfl 1 (by decide) (hts _ mx_X1_leave_1) (fun _ h9 => h9) rfl dX1_leave_1 ?_
  refine lv_bipush (v := 16) hx hb dX1_leave_4 (by decide) ?_
  refine lv_icmp_ge (tgt := 29) hx hb dX1_leave_6 (by decide) (fun c_1 => ?_) (fun c_1 => ?_)
  · have c_1 : 16 ≤ z := (nI_leI (a := 16) (b := z) (by omega) (by omega)).mp c_1
    have hX9 := cut2 (wc := [(xo_1_riiiii k9 tc (nI z) nu ki ce lo), (xI tc cI 16 ft)]) hP hD [0, 1] (by decide +kernel) rfl
    exact W.vret hx hb hr (fun t ht hW => ⟨⟨(), rfl, trivial, ⟨z, ft, va_Ht ht hX9.1, hX9.2, (lf_X1_leave_1 hz c_1), (lf_X1_leave_2 hz c_1)⟩⟩, hS.F ht⟩) hS.2.2 dX1_leave_29
  · have c_1 : ¬ (16 ≤ z) := fun q_ => c_1 ((nI_leI (a := 16) (b := z) (by omega) (by omega)).mpr q_)
    refine lv_aload_n hx hb dX1_leave_9 rfl (lv_at hl 0 rfl) ?_
    refine va_get (D := (dC, dI)) (ci := 1) (v := .ref tc) (C := RX1) (T := TX1) (N := 6) hx hb hts i_X1_leave_X1 hown hK hP 0 rfl rfl 0 (by decide) (hts _ mx_X1_leave_2) (fun _ h9 => h9) rfl dX1_leave_10 ?_
    refine lv_aload_n hx hb dX1_leave_13 rfl (lv_at hl 0 rfl) ?_
    refine va_get (D := (dC, dI)) (ci := 1) (v := .int (nI z)) (C := RX1) (T := TX1) (N := 6) hx hb hts i_X1_leave_X1 hown hK hP 0 rfl rfl 1 (by decide) (hts _ mx_X1_leave_1) (fun _ h9 => h9) rfl dX1_leave_14 ?_
    refine lv_iload_n hx hb dX1_leave_17 rfl (lv_at hl 1 rfl) ?_
    refine va_iast hx hb hK hP hD hS 1 0 rfl rfl (vp_in_nI (by omega) (by omega)) dX1_leave_18 (fun H locs hP hD hS => ?_)
    generalize hg_2 : upd ft ((nI z) : Int32).toNatClampNeg x = g_2 at hP hD
    have hu_2 : g_2 = upd ft z x := (by rw [← hg_2, nI_clamp (by omega)])
    have hP : va_P (dC, dI) vwCl [(xo_1_riiiii k9 tc (nI z) nu ki ce lo), (xI tc cI 16 g_2)] H := hP
    have hD := dto hP hD
    refine lv_aload_n hx hb dX1_leave_19 rfl (lv_at hl 0 rfl) ?_
    refine lv_dup hx hb dX1_leave_20 rfl ?_
    refine va_get (D := (dC, dI)) (ci := 1) (v := .int (nI z)) (C := RX1) (T := TX1) (N := 6) hx hb hts i_X1_leave_X1 hown hK hP 0 rfl rfl 1 (by decide) (hts _ mx_X1_leave_1) (fun _ h9 => h9) rfl dX1_leave_21 ?_
    refine lv_iconst (v := 1) hx hb dX1_leave_24 (by decide) ?_
    refine lv_iadd hx hb dX1_leave_25 ?_
    refine lv_topi (fun v_3 e_3 => ?_)
    obtain rfl : v_3 = (nI (z + 1)) := (e_3).trans (nI_add z 1)
    refine va_put (D := (dC, dI)) (ci := 1) (v := .int (nI (z + 1))) (ty := .int) (C := RX1) (T := TX1) (N := 6) hx hb hts i_X1_leave_X1 tyX1 tyX1_ok nmX1 hown hK hP hD hS 0 rfl rfl 1 (by decide) (hts _ mx_X1_leave_1) (fun _ h9 => h9) rfl (by decide +kernel) rfl rfl (Nat.le_of_ble_eq_true rfl) dX1_leave_26 (fun H locs hP hD hS => ?_)
    have hP : va_P (dC, dI) vwCl [(xo_1_riiiii k9 tc (nI (z + 1)) nu ki ce lo), (xI tc cI 16 g_2)] H := hP
    have hD := dto hP hD
    have hX9 := cut2 (wc := [(xo_1_riiiii k9 tc (nI (z + 1)) nu ki ce lo), (xI tc cI 16 g_2)]) hP hD [0, 1] (by decide +kernel) rfl
    exact W.vret hx hb hr (fun t ht hW => ⟨⟨(), rfl, trivial, ⟨(z + 1), g_2, va_Ht ht hX9.1, hX9.2, (lf_X1_leave_3 hz c_1 hu_2), (lf_X1_leave_4 hz c_1 hu_2)⟩⟩, hS.F ht⟩) hS.2.2 dX1_leave_29
theorem lf_X1_bodyFor_1  (ha1 : 1 ≤ 1) (ha5 : 1 ≤ 5) : 11 = (bfX 1 (0 : Int32)) := by
  decide
theorem lf_X1_bodyFor_2  (ha1 : 1 ≤ 2) (ha5 : 2 ≤ 5) : 12 = (bfX 2 (0 : Int32)) := by
  decide
theorem lf_X1_bodyFor_3  (ha1 : 1 ≤ 3) (ha5 : 3 ≤ 5) : 11 = (bfX 3 (0 : Int32)) := by
  decide
theorem lf_X1_bodyFor_4  (ha1 : 1 ≤ 4) (ha5 : 4 ≤ 5) : 13 = (bfX 4 (0 : Int32)) := by
  decide
theorem lf_X1_bodyFor_5  (ha1 : 1 ≤ 5) (ha5 : 5 ≤ 5) : 14 = (bfX 5 (0 : Int32)) := by
  decide
theorem lf_X1_bodyFor_6  (ha1 : 1 ≤ 1) (ha5 : 1 ≤ 5) : 21 = (bfX 1 (1 : Int32)) := by
  decide
theorem lf_X1_bodyFor_7  (ha1 : 1 ≤ 2) (ha5 : 2 ≤ 5) : 24 = (bfX 2 (1 : Int32)) := by
  decide
theorem lf_X1_bodyFor_8  (ha1 : 1 ≤ 3) (ha5 : 3 ≤ 5) : 22 = (bfX 3 (1 : Int32)) := by
  decide
theorem lf_X1_bodyFor_9  (ha1 : 1 ≤ 4) (ha5 : 4 ≤ 5) : 23 = (bfX 4 (1 : Int32)) := by
  decide
theorem lf_X1_bodyFor_10  (ha1 : 1 ≤ 5) (ha5 : 5 ≤ 5) : 23 = (bfX 5 (1 : Int32)) := by
  decide
set_option maxHeartbeats 4000000 in
set_option maxRecDepth 100000 in
theorem r_X1_bodyFor (l : Launch) (dC : Nat → ClassId) (dI : Nat → Nat → Nat) (cI cZ cL cJ : ClassId) (k9 : Nat) (tc : Nat) (z : Nat) (a : Nat) (nu : Int32) (ce : Int32) (lo : Int32) (x : Int32) (ha1 : 1 ≤ a) (ha5 : a ≤ 5) (hx01 : x = 0 ∨ x = 1) : Met l yX1_bodyFor wsX1_bodyFor ({ frames := 0, cells := 0, slots := 0, locals := 0 }) (va_Pc [.ref k9, .int x] (fun U => va_P (dC, dI) vwCl [(xo_1_riiiii k9 tc (nI z) nu (nI a) ce lo)] U.heap ∧ va_K (dC, dI) vwCl [(cI, .int), (cZ, .boolean), (cL, .object RX3), (cJ, .array .int)] U ∧ stt (fun _ => False) U U.heap)) (vp_Si (fun r => r = (bfX a x))) 0 0 (fun _ => False) := by
  refine Met.ofW (cc := cX1_bodyFor) (maxL := 5) (ret := (some .int)) (by decide) rfl ?_
  intro p e s m args below meth c s₁ B hml hv
  obtain ⟨rfl, hP, hK, hst⟩ := hv
  have hx := B.exec
  have hb := B.bytes
  have hr := B.returns
  have hts := atoms_spec (ws := wsX1_bodyFor) B.pre
  have hown : s.vm.findClass RX1 = some m.cls := findClass_of_methodNamed B.named
  have hlocks := B.notSynchronized
  have hP : va_P (dC, dI) vwCl [(xo_1_riiiii k9 tc (nI z) nu (nI a) ce lo)] s.heap := hP
  obtain ⟨⟨tb1, hZ1, hT1⟩, ⟨tb2, hZ2, hT2⟩, ⟨tb3, hZ3, hT3⟩, hNk⟩ := id hst
  have hl := lv_entry ([.ref k9, .int x]) (n := 5) (Nat.le_of_ble_eq_true rfl)
  rw [lg_entry_eq]
  generalize (lg_sl ([.ref k9, .int x]) ++ List.replicate (5 - (lg_sl ([.ref k9, .int x])).length) Slot.unset).toArray = ls at hl ⊢
  have hl : lv_has ls 5 [(0, .ref k9), (1, .int x)] := hl
  rcases hx01 with rfl | rfl
  · skip
    have hl : lv_has ls 5 [(0, .ref k9), (1, .int 0)] := hl
    rcases (show a = 1 ∨ a = 2 ∨ a = 3 ∨ a = 4 ∨ a = 5 by omega) with rfl | rfl | rfl | rfl | rfl
    · skip
      have hP : va_P (dC, dI) vwCl [(xo_1_riiiii k9 tc (nI z) nu 1 ce lo)] s.heap := hP
      refine lv_aload_n hx hb dX1_bodyFor_0 rfl (lv_at hl 0 rfl) ?_
      refine va_get (D := (dC, dI)) (ci := 1) (v := .int 1) (C := RX1) (T := TX1) (N := 6) hx hb hts i_X1_bodyFor_X1 hown hK hP 0 rfl rfl 3 (by decide) (hts _ mx_X1_bodyFor_1) (fun _ h9 => h9) rfl dX1_bodyFor_1 ?_
      refine lv_istore_n (lv' := [(2, .int 1), (0, .ref k9), (1, .int 0)]) hx hb dX1_bodyFor_4 rfl hl (by decide) rfl (fun ls hl => ?_)
      refine lv_iconst (v := 0) hx hb dX1_bodyFor_5 (by decide) ?_
      refine lv_istore_n (lv' := [(3, .int 0), (2, .int 1), (0, .ref k9), (1, .int 0)]) hx hb dX1_bodyFor_6 rfl hl (by decide) rfl (fun ls hl => ?_)
      refine lv_iload_n hx hb dX1_bodyFor_7 rfl (lv_at hl 0 rfl) ?_
      refine va_getsN hx hb hZ1 va_S.rf hown (va_Nw.use rfl hNk) (fun _ h9 => h9) dX1_bodyFor_8 ?_
      refine va_tlen (v := 6) hx hb hT1 va_S.rf (by decide) dX1_bodyFor_11 ?_
      refine lv_icmp_ge (tgt := 66) hx hb dX1_bodyFor_12 (by decide) (fun c_ => absurd c_ (by decide)) (fun _ => ?_)
      refine lv_iload_n hx hb dX1_bodyFor_15 rfl (lv_at hl 1 rfl) ?_
      refine lv_if_le (tgt := 66) hx hb dX1_bodyFor_16 (by decide) (fun c_ => absurd c_ (by decide)) (fun _ => ?_)
      refine lv_iload_n hx hb dX1_bodyFor_19 rfl (lv_at hl 1 rfl) ?_
      refine va_getsN hx hb hZ1 va_S.rf hown (va_Nw.use rfl hNk) (fun _ h9 => h9) dX1_bodyFor_20 ?_
      refine va_tlen (v := 6) hx hb hT1 va_S.rf (by decide) dX1_bodyFor_23 ?_
      refine lv_icmp_ge (tgt := 66) hx hb dX1_bodyFor_24 (by decide) (fun c_ => absurd c_ (by decide)) (fun _ => ?_)
      refine lv_iload_n hx hb dX1_bodyFor_27 rfl (lv_at hl 3 rfl) ?_
      refine lv_if_ne (tgt := 39) hx hb dX1_bodyFor_28 (by decide) (fun c_ => absurd (by decide) c_) (fun _ => ?_)
      refine va_gets hx hb hZ2 va_S.rf hown (hts _ mx_X1_bodyFor_2) (fun _ h9 => h9) dX1_bodyFor_31 ?_
      refine lv_iload_n hx hb dX1_bodyFor_34 rfl (lv_at hl 1 rfl) ?_
      refine va_ti hx hb hT2 va_S.rf (by unfold vp_in; decide) rfl dX1_bodyFor_35 ?_
      refine lv_topi (fun v_5 e_5 => ?_)
      obtain rfl : v_5 = 11 := (e_5).trans (by decide)
      refine lv_goto (tgt := 44) hx hb dX1_bodyFor_36 (by decide) ?_
      refine lv_istore (lv' := [(4, .int 11), (3, .int 0), (2, .int 1), (0, .ref k9), (1, .int 0)]) hx hb dX1_bodyFor_44 hl (by decide) rfl (fun ls hl => ?_)
      refine lv_iload hx hb dX1_bodyFor_46 (lv_at hl 0 rfl) ?_
      refine lv_if_eq (tgt := 54) hx hb dX1_bodyFor_48 (by decide) (fun c_ => absurd c_ (by decide)) (fun _ => ?_)
      refine lv_iload hx hb dX1_bodyFor_51 (lv_at hl 0 rfl) ?_
      exact W.iret (v := 11) hx hb hr (fun t ht hW => ⟨11, rfl, (lf_X1_bodyFor_1 ha1 ha5), ht⟩) (fun _ h => by cases h) dX1_bodyFor_53
    · skip
      have hP : va_P (dC, dI) vwCl [(xo_1_riiiii k9 tc (nI z) nu 2 ce lo)] s.heap := hP
      refine lv_aload_n hx hb dX1_bodyFor_0 rfl (lv_at hl 0 rfl) ?_
      refine va_get (D := (dC, dI)) (ci := 1) (v := .int 2) (C := RX1) (T := TX1) (N := 6) hx hb hts i_X1_bodyFor_X1 hown hK hP 0 rfl rfl 3 (by decide) (hts _ mx_X1_bodyFor_1) (fun _ h9 => h9) rfl dX1_bodyFor_1 ?_
      refine lv_istore_n (lv' := [(2, .int 2), (0, .ref k9), (1, .int 0)]) hx hb dX1_bodyFor_4 rfl hl (by decide) rfl (fun ls hl => ?_)
      refine lv_iconst (v := 0) hx hb dX1_bodyFor_5 (by decide) ?_
      refine lv_istore_n (lv' := [(3, .int 0), (2, .int 2), (0, .ref k9), (1, .int 0)]) hx hb dX1_bodyFor_6 rfl hl (by decide) rfl (fun ls hl => ?_)
      refine lv_iload_n hx hb dX1_bodyFor_7 rfl (lv_at hl 0 rfl) ?_
      refine va_getsN hx hb hZ1 va_S.rf hown (va_Nw.use rfl hNk) (fun _ h9 => h9) dX1_bodyFor_8 ?_
      refine va_tlen (v := 6) hx hb hT1 va_S.rf (by decide) dX1_bodyFor_11 ?_
      refine lv_icmp_ge (tgt := 66) hx hb dX1_bodyFor_12 (by decide) (fun c_ => absurd c_ (by decide)) (fun _ => ?_)
      refine lv_iload_n hx hb dX1_bodyFor_15 rfl (lv_at hl 1 rfl) ?_
      refine lv_if_le (tgt := 66) hx hb dX1_bodyFor_16 (by decide) (fun c_ => absurd c_ (by decide)) (fun _ => ?_)
      refine lv_iload_n hx hb dX1_bodyFor_19 rfl (lv_at hl 1 rfl) ?_
      refine va_getsN hx hb hZ1 va_S.rf hown (va_Nw.use rfl hNk) (fun _ h9 => h9) dX1_bodyFor_20 ?_
      refine va_tlen (v := 6) hx hb hT1 va_S.rf (by decide) dX1_bodyFor_23 ?_
      refine lv_icmp_ge (tgt := 66) hx hb dX1_bodyFor_24 (by decide) (fun c_ => absurd c_ (by decide)) (fun _ => ?_)
      refine lv_iload_n hx hb dX1_bodyFor_27 rfl (lv_at hl 3 rfl) ?_
      refine lv_if_ne (tgt := 39) hx hb dX1_bodyFor_28 (by decide) (fun c_ => absurd (by decide) c_) (fun _ => ?_)
      refine va_gets hx hb hZ2 va_S.rf hown (hts _ mx_X1_bodyFor_2) (fun _ h9 => h9) dX1_bodyFor_31 ?_
      refine lv_iload_n hx hb dX1_bodyFor_34 rfl (lv_at hl 1 rfl) ?_
      refine va_ti hx hb hT2 va_S.rf (by unfold vp_in; decide) rfl dX1_bodyFor_35 ?_
      refine lv_topi (fun v_11 e_11 => ?_)
      obtain rfl : v_11 = 12 := (e_11).trans (by decide)
      refine lv_goto (tgt := 44) hx hb dX1_bodyFor_36 (by decide) ?_
      refine lv_istore (lv' := [(4, .int 12), (3, .int 0), (2, .int 2), (0, .ref k9), (1, .int 0)]) hx hb dX1_bodyFor_44 hl (by decide) rfl (fun ls hl => ?_)
      refine lv_iload hx hb dX1_bodyFor_46 (lv_at hl 0 rfl) ?_
      refine lv_if_eq (tgt := 54) hx hb dX1_bodyFor_48 (by decide) (fun c_ => absurd c_ (by decide)) (fun _ => ?_)
      refine lv_iload hx hb dX1_bodyFor_51 (lv_at hl 0 rfl) ?_
      exact W.iret (v := 12) hx hb hr (fun t ht hW => ⟨12, rfl, (lf_X1_bodyFor_2 ha1 ha5), ht⟩) (fun _ h => by cases h) dX1_bodyFor_53
    · skip
      have hP : va_P (dC, dI) vwCl [(xo_1_riiiii k9 tc (nI z) nu 3 ce lo)] s.heap := hP
      refine lv_aload_n hx hb dX1_bodyFor_0 rfl (lv_at hl 0 rfl) ?_
      refine va_get (D := (dC, dI)) (ci := 1) (v := .int 3) (C := RX1) (T := TX1) (N := 6) hx hb hts i_X1_bodyFor_X1 hown hK hP 0 rfl rfl 3 (by decide) (hts _ mx_X1_bodyFor_1) (fun _ h9 => h9) rfl dX1_bodyFor_1 ?_
      refine lv_istore_n (lv' := [(2, .int 3), (0, .ref k9), (1, .int 0)]) hx hb dX1_bodyFor_4 rfl hl (by decide) rfl (fun ls hl => ?_)
      refine lv_iconst (v := 0) hx hb dX1_bodyFor_5 (by decide) ?_
      refine lv_istore_n (lv' := [(3, .int 0), (2, .int 3), (0, .ref k9), (1, .int 0)]) hx hb dX1_bodyFor_6 rfl hl (by decide) rfl (fun ls hl => ?_)
      refine lv_iload_n hx hb dX1_bodyFor_7 rfl (lv_at hl 0 rfl) ?_
      refine va_getsN hx hb hZ1 va_S.rf hown (va_Nw.use rfl hNk) (fun _ h9 => h9) dX1_bodyFor_8 ?_
      refine va_tlen (v := 6) hx hb hT1 va_S.rf (by decide) dX1_bodyFor_11 ?_
      refine lv_icmp_ge (tgt := 66) hx hb dX1_bodyFor_12 (by decide) (fun c_ => absurd c_ (by decide)) (fun _ => ?_)
      refine lv_iload_n hx hb dX1_bodyFor_15 rfl (lv_at hl 1 rfl) ?_
      refine lv_if_le (tgt := 66) hx hb dX1_bodyFor_16 (by decide) (fun c_ => absurd c_ (by decide)) (fun _ => ?_)
      refine lv_iload_n hx hb dX1_bodyFor_19 rfl (lv_at hl 1 rfl) ?_
      refine va_getsN hx hb hZ1 va_S.rf hown (va_Nw.use rfl hNk) (fun _ h9 => h9) dX1_bodyFor_20 ?_
      refine va_tlen (v := 6) hx hb hT1 va_S.rf (by decide) dX1_bodyFor_23 ?_
      refine lv_icmp_ge (tgt := 66) hx hb dX1_bodyFor_24 (by decide) (fun c_ => absurd c_ (by decide)) (fun _ => ?_)
      refine lv_iload_n hx hb dX1_bodyFor_27 rfl (lv_at hl 3 rfl) ?_
      refine lv_if_ne (tgt := 39) hx hb dX1_bodyFor_28 (by decide) (fun c_ => absurd (by decide) c_) (fun _ => ?_)
      refine va_gets hx hb hZ2 va_S.rf hown (hts _ mx_X1_bodyFor_2) (fun _ h9 => h9) dX1_bodyFor_31 ?_
      refine lv_iload_n hx hb dX1_bodyFor_34 rfl (lv_at hl 1 rfl) ?_
      refine va_ti hx hb hT2 va_S.rf (by unfold vp_in; decide) rfl dX1_bodyFor_35 ?_
      refine lv_topi (fun v_17 e_17 => ?_)
      obtain rfl : v_17 = 0 := (e_17).trans (by decide)
      refine lv_goto (tgt := 44) hx hb dX1_bodyFor_36 (by decide) ?_
      refine lv_istore (lv' := [(4, .int 0), (3, .int 0), (2, .int 3), (0, .ref k9), (1, .int 0)]) hx hb dX1_bodyFor_44 hl (by decide) rfl (fun ls hl => ?_)
      refine lv_iload hx hb dX1_bodyFor_46 (lv_at hl 0 rfl) ?_
      refine lv_if_eq (tgt := 54) hx hb dX1_bodyFor_48 (by decide) (fun _ => ?_) (fun c_ => absurd (by decide) c_)
      refine va_getsN hx hb hZ1 va_S.rf hown (va_Nw.use rfl hNk) (fun _ h9 => h9) dX1_bodyFor_54 ?_
      refine lv_iload_n hx hb dX1_bodyFor_57 rfl (lv_at hl 2 rfl) ?_
      refine va_ti hx hb hT1 va_S.rf (by unfold vp_in; decide) rfl dX1_bodyFor_58 ?_
      refine lv_topi (fun v_19 e_19 => ?_)
      obtain rfl : v_19 = 1 := (e_19).trans (by decide)
      refine lv_istore_n (lv' := [(2, .int 1), (4, .int 0), (3, .int 0), (0, .ref k9), (1, .int 0)]) hx hb dX1_bodyFor_59 rfl hl (by decide) rfl (fun ls hl => ?_)
      refine lv_iinc (v := 1) (lv' := [(3, .int 1), (2, .int 1), (4, .int 0), (0, .ref k9), (1, .int 0)]) hx hb dX1_bodyFor_60 hl (k := 2) rfl (by decide) (by decide) rfl (fun ls hl => ?_)
      refine lv_goto (tgt := 7) hx hb dX1_bodyFor_63 (by decide) ?_
      refine lv_iload_n hx hb dX1_bodyFor_7 rfl (lv_at hl 0 rfl) ?_
      refine va_getsN hx hb hZ1 va_S.rf hown (va_Nw.use rfl hNk) (fun _ h9 => h9) dX1_bodyFor_8 ?_
      refine va_tlen (v := 6) hx hb hT1 va_S.rf (by decide) dX1_bodyFor_11 ?_
      refine lv_icmp_ge (tgt := 66) hx hb dX1_bodyFor_12 (by decide) (fun c_ => absurd c_ (by decide)) (fun _ => ?_)
      refine lv_iload_n hx hb dX1_bodyFor_15 rfl (lv_at hl 1 rfl) ?_
      refine lv_if_le (tgt := 66) hx hb dX1_bodyFor_16 (by decide) (fun c_ => absurd c_ (by decide)) (fun _ => ?_)
      refine lv_iload_n hx hb dX1_bodyFor_19 rfl (lv_at hl 1 rfl) ?_
      refine va_getsN hx hb hZ1 va_S.rf hown (va_Nw.use rfl hNk) (fun _ h9 => h9) dX1_bodyFor_20 ?_
      refine va_tlen (v := 6) hx hb hT1 va_S.rf (by decide) dX1_bodyFor_23 ?_
      refine lv_icmp_ge (tgt := 66) hx hb dX1_bodyFor_24 (by decide) (fun c_ => absurd c_ (by decide)) (fun _ => ?_)
      refine lv_iload_n hx hb dX1_bodyFor_27 rfl (lv_at hl 4 rfl) ?_
      refine lv_if_ne (tgt := 39) hx hb dX1_bodyFor_28 (by decide) (fun c_ => absurd (by decide) c_) (fun _ => ?_)
      refine va_gets hx hb hZ2 va_S.rf hown (hts _ mx_X1_bodyFor_2) (fun _ h9 => h9) dX1_bodyFor_31 ?_
      refine lv_iload_n hx hb dX1_bodyFor_34 rfl (lv_at hl 1 rfl) ?_
      refine va_ti hx hb hT2 va_S.rf (by unfold vp_in; decide) rfl dX1_bodyFor_35 ?_
      refine lv_topi (fun v_24 e_24 => ?_)
      obtain rfl : v_24 = 11 := (e_24).trans (by decide)
      refine lv_goto (tgt := 44) hx hb dX1_bodyFor_36 (by decide) ?_
      refine lv_istore (lv' := [(4, .int 11), (3, .int 1), (2, .int 1), (0, .ref k9), (1, .int 0)]) hx hb dX1_bodyFor_44 hl (by decide) rfl (fun ls hl => ?_)
      refine lv_iload hx hb dX1_bodyFor_46 (lv_at hl 0 rfl) ?_
      refine lv_if_eq (tgt := 54) hx hb dX1_bodyFor_48 (by decide) (fun c_ => absurd c_ (by decide)) (fun _ => ?_)
      refine lv_iload hx hb dX1_bodyFor_51 (lv_at hl 0 rfl) ?_
      exact W.iret (v := 11) hx hb hr (fun t ht hW => ⟨11, rfl, (lf_X1_bodyFor_3 ha1 ha5), ht⟩) (fun _ h => by cases h) dX1_bodyFor_53
    · skip
      have hP : va_P (dC, dI) vwCl [(xo_1_riiiii k9 tc (nI z) nu 4 ce lo)] s.heap := hP
      refine lv_aload_n hx hb dX1_bodyFor_0 rfl (lv_at hl 0 rfl) ?_
      refine va_get (D := (dC, dI)) (ci := 1) (v := .int 4) (C := RX1) (T := TX1) (N := 6) hx hb hts i_X1_bodyFor_X1 hown hK hP 0 rfl rfl 3 (by decide) (hts _ mx_X1_bodyFor_1) (fun _ h9 => h9) rfl dX1_bodyFor_1 ?_
      refine lv_istore_n (lv' := [(2, .int 4), (0, .ref k9), (1, .int 0)]) hx hb dX1_bodyFor_4 rfl hl (by decide) rfl (fun ls hl => ?_)
      refine lv_iconst (v := 0) hx hb dX1_bodyFor_5 (by decide) ?_
      refine lv_istore_n (lv' := [(3, .int 0), (2, .int 4), (0, .ref k9), (1, .int 0)]) hx hb dX1_bodyFor_6 rfl hl (by decide) rfl (fun ls hl => ?_)
      refine lv_iload_n hx hb dX1_bodyFor_7 rfl (lv_at hl 0 rfl) ?_
      refine va_getsN hx hb hZ1 va_S.rf hown (va_Nw.use rfl hNk) (fun _ h9 => h9) dX1_bodyFor_8 ?_
      refine va_tlen (v := 6) hx hb hT1 va_S.rf (by decide) dX1_bodyFor_11 ?_
      refine lv_icmp_ge (tgt := 66) hx hb dX1_bodyFor_12 (by decide) (fun c_ => absurd c_ (by decide)) (fun _ => ?_)
      refine lv_iload_n hx hb dX1_bodyFor_15 rfl (lv_at hl 1 rfl) ?_
      refine lv_if_le (tgt := 66) hx hb dX1_bodyFor_16 (by decide) (fun c_ => absurd c_ (by decide)) (fun _ => ?_)
      refine lv_iload_n hx hb dX1_bodyFor_19 rfl (lv_at hl 1 rfl) ?_
      refine va_getsN hx hb hZ1 va_S.rf hown (va_Nw.use rfl hNk) (fun _ h9 => h9) dX1_bodyFor_20 ?_
      refine va_tlen (v := 6) hx hb hT1 va_S.rf (by decide) dX1_bodyFor_23 ?_
      refine lv_icmp_ge (tgt := 66) hx hb dX1_bodyFor_24 (by decide) (fun c_ => absurd c_ (by decide)) (fun _ => ?_)
      refine lv_iload_n hx hb dX1_bodyFor_27 rfl (lv_at hl 3 rfl) ?_
      refine lv_if_ne (tgt := 39) hx hb dX1_bodyFor_28 (by decide) (fun c_ => absurd (by decide) c_) (fun _ => ?_)
      refine va_gets hx hb hZ2 va_S.rf hown (hts _ mx_X1_bodyFor_2) (fun _ h9 => h9) dX1_bodyFor_31 ?_
      refine lv_iload_n hx hb dX1_bodyFor_34 rfl (lv_at hl 1 rfl) ?_
      refine va_ti hx hb hT2 va_S.rf (by unfold vp_in; decide) rfl dX1_bodyFor_35 ?_
      refine lv_topi (fun v_30 e_30 => ?_)
      obtain rfl : v_30 = 13 := (e_30).trans (by decide)
      refine lv_goto (tgt := 44) hx hb dX1_bodyFor_36 (by decide) ?_
      refine lv_istore (lv' := [(4, .int 13), (3, .int 0), (2, .int 4), (0, .ref k9), (1, .int 0)]) hx hb dX1_bodyFor_44 hl (by decide) rfl (fun ls hl => ?_)
      refine lv_iload hx hb dX1_bodyFor_46 (lv_at hl 0 rfl) ?_
      refine lv_if_eq (tgt := 54) hx hb dX1_bodyFor_48 (by decide) (fun c_ => absurd c_ (by decide)) (fun _ => ?_)
      refine lv_iload hx hb dX1_bodyFor_51 (lv_at hl 0 rfl) ?_
      exact W.iret (v := 13) hx hb hr (fun t ht hW => ⟨13, rfl, (lf_X1_bodyFor_4 ha1 ha5), ht⟩) (fun _ h => by cases h) dX1_bodyFor_53
    · skip
      have hP : va_P (dC, dI) vwCl [(xo_1_riiiii k9 tc (nI z) nu 5 ce lo)] s.heap := hP
      refine lv_aload_n hx hb dX1_bodyFor_0 rfl (lv_at hl 0 rfl) ?_
      refine va_get (D := (dC, dI)) (ci := 1) (v := .int 5) (C := RX1) (T := TX1) (N := 6) hx hb hts i_X1_bodyFor_X1 hown hK hP 0 rfl rfl 3 (by decide) (hts _ mx_X1_bodyFor_1) (fun _ h9 => h9) rfl dX1_bodyFor_1 ?_
      refine lv_istore_n (lv' := [(2, .int 5), (0, .ref k9), (1, .int 0)]) hx hb dX1_bodyFor_4 rfl hl (by decide) rfl (fun ls hl => ?_)
      refine lv_iconst (v := 0) hx hb dX1_bodyFor_5 (by decide) ?_
      refine lv_istore_n (lv' := [(3, .int 0), (2, .int 5), (0, .ref k9), (1, .int 0)]) hx hb dX1_bodyFor_6 rfl hl (by decide) rfl (fun ls hl => ?_)
      refine lv_iload_n hx hb dX1_bodyFor_7 rfl (lv_at hl 0 rfl) ?_
      refine va_getsN hx hb hZ1 va_S.rf hown (va_Nw.use rfl hNk) (fun _ h9 => h9) dX1_bodyFor_8 ?_
      refine va_tlen (v := 6) hx hb hT1 va_S.rf (by decide) dX1_bodyFor_11 ?_
      refine lv_icmp_ge (tgt := 66) hx hb dX1_bodyFor_12 (by decide) (fun c_ => absurd c_ (by decide)) (fun _ => ?_)
      refine lv_iload_n hx hb dX1_bodyFor_15 rfl (lv_at hl 1 rfl) ?_
      refine lv_if_le (tgt := 66) hx hb dX1_bodyFor_16 (by decide) (fun c_ => absurd c_ (by decide)) (fun _ => ?_)
      refine lv_iload_n hx hb dX1_bodyFor_19 rfl (lv_at hl 1 rfl) ?_
      refine va_getsN hx hb hZ1 va_S.rf hown (va_Nw.use rfl hNk) (fun _ h9 => h9) dX1_bodyFor_20 ?_
      refine va_tlen (v := 6) hx hb hT1 va_S.rf (by decide) dX1_bodyFor_23 ?_
      refine lv_icmp_ge (tgt := 66) hx hb dX1_bodyFor_24 (by decide) (fun c_ => absurd c_ (by decide)) (fun _ => ?_)
      refine lv_iload_n hx hb dX1_bodyFor_27 rfl (lv_at hl 3 rfl) ?_
      refine lv_if_ne (tgt := 39) hx hb dX1_bodyFor_28 (by decide) (fun c_ => absurd (by decide) c_) (fun _ => ?_)
      refine va_gets hx hb hZ2 va_S.rf hown (hts _ mx_X1_bodyFor_2) (fun _ h9 => h9) dX1_bodyFor_31 ?_
      refine lv_iload_n hx hb dX1_bodyFor_34 rfl (lv_at hl 1 rfl) ?_
      refine va_ti hx hb hT2 va_S.rf (by unfold vp_in; decide) rfl dX1_bodyFor_35 ?_
      refine lv_topi (fun v_36 e_36 => ?_)
      obtain rfl : v_36 = 14 := (e_36).trans (by decide)
      refine lv_goto (tgt := 44) hx hb dX1_bodyFor_36 (by decide) ?_
      refine lv_istore (lv' := [(4, .int 14), (3, .int 0), (2, .int 5), (0, .ref k9), (1, .int 0)]) hx hb dX1_bodyFor_44 hl (by decide) rfl (fun ls hl => ?_)
      refine lv_iload hx hb dX1_bodyFor_46 (lv_at hl 0 rfl) ?_
      refine lv_if_eq (tgt := 54) hx hb dX1_bodyFor_48 (by decide) (fun c_ => absurd c_ (by decide)) (fun _ => ?_)
      refine lv_iload hx hb dX1_bodyFor_51 (lv_at hl 0 rfl) ?_
      exact W.iret (v := 14) hx hb hr (fun t ht hW => ⟨14, rfl, (lf_X1_bodyFor_5 ha1 ha5), ht⟩) (fun _ h => by cases h) dX1_bodyFor_53
  · skip
    have hl : lv_has ls 5 [(0, .ref k9), (1, .int 1)] := hl
    rcases (show a = 1 ∨ a = 2 ∨ a = 3 ∨ a = 4 ∨ a = 5 by omega) with rfl | rfl | rfl | rfl | rfl
    · skip
      have hP : va_P (dC, dI) vwCl [(xo_1_riiiii k9 tc (nI z) nu 1 ce lo)] s.heap := hP
      refine lv_aload_n hx hb dX1_bodyFor_0 rfl (lv_at hl 0 rfl) ?_
      refine va_get (D := (dC, dI)) (ci := 1) (v := .int 1) (C := RX1) (T := TX1) (N := 6) hx hb hts i_X1_bodyFor_X1 hown hK hP 0 rfl rfl 3 (by decide) (hts _ mx_X1_bodyFor_1) (fun _ h9 => h9) rfl dX1_bodyFor_1 ?_
      refine lv_istore_n (lv' := [(2, .int 1), (0, .ref k9), (1, .int 1)]) hx hb dX1_bodyFor_4 rfl hl (by decide) rfl (fun ls hl => ?_)
      refine lv_iconst (v := 0) hx hb dX1_bodyFor_5 (by decide) ?_
      refine lv_istore_n (lv' := [(3, .int 0), (2, .int 1), (0, .ref k9), (1, .int 1)]) hx hb dX1_bodyFor_6 rfl hl (by decide) rfl (fun ls hl => ?_)
      refine lv_iload_n hx hb dX1_bodyFor_7 rfl (lv_at hl 0 rfl) ?_
      refine va_getsN hx hb hZ1 va_S.rf hown (va_Nw.use rfl hNk) (fun _ h9 => h9) dX1_bodyFor_8 ?_
      refine va_tlen (v := 6) hx hb hT1 va_S.rf (by decide) dX1_bodyFor_11 ?_
      refine lv_icmp_ge (tgt := 66) hx hb dX1_bodyFor_12 (by decide) (fun c_ => absurd c_ (by decide)) (fun _ => ?_)
      refine lv_iload_n hx hb dX1_bodyFor_15 rfl (lv_at hl 1 rfl) ?_
      refine lv_if_le (tgt := 66) hx hb dX1_bodyFor_16 (by decide) (fun c_ => absurd c_ (by decide)) (fun _ => ?_)
      refine lv_iload_n hx hb dX1_bodyFor_19 rfl (lv_at hl 1 rfl) ?_
      refine va_getsN hx hb hZ1 va_S.rf hown (va_Nw.use rfl hNk) (fun _ h9 => h9) dX1_bodyFor_20 ?_
      refine va_tlen (v := 6) hx hb hT1 va_S.rf (by decide) dX1_bodyFor_23 ?_
      refine lv_icmp_ge (tgt := 66) hx hb dX1_bodyFor_24 (by decide) (fun c_ => absurd c_ (by decide)) (fun _ => ?_)
      refine lv_iload_n hx hb dX1_bodyFor_27 rfl (lv_at hl 3 rfl) ?_
      refine lv_if_ne (tgt := 39) hx hb dX1_bodyFor_28 (by decide) (fun _ => ?_) (fun c_ => absurd c_ (by decide))
      refine va_gets hx hb hZ3 va_S.rf hown (hts _ mx_X1_bodyFor_3) (fun _ h9 => h9) dX1_bodyFor_39 ?_
      refine lv_iload_n hx hb dX1_bodyFor_42 rfl (lv_at hl 1 rfl) ?_
      refine va_ti hx hb hT3 va_S.rf (by unfold vp_in; decide) rfl dX1_bodyFor_43 ?_
      refine lv_topi (fun v_42 e_42 => ?_)
      obtain rfl : v_42 = 21 := (e_42).trans (by decide)
      refine lv_istore (lv' := [(4, .int 21), (3, .int 0), (2, .int 1), (0, .ref k9), (1, .int 1)]) hx hb dX1_bodyFor_44 hl (by decide) rfl (fun ls hl => ?_)
      refine lv_iload hx hb dX1_bodyFor_46 (lv_at hl 0 rfl) ?_
      refine lv_if_eq (tgt := 54) hx hb dX1_bodyFor_48 (by decide) (fun c_ => absurd c_ (by decide)) (fun _ => ?_)
      refine lv_iload hx hb dX1_bodyFor_51 (lv_at hl 0 rfl) ?_
      exact W.iret (v := 21) hx hb hr (fun t ht hW => ⟨21, rfl, (lf_X1_bodyFor_6 ha1 ha5), ht⟩) (fun _ h => by cases h) dX1_bodyFor_53
    · skip
      have hP : va_P (dC, dI) vwCl [(xo_1_riiiii k9 tc (nI z) nu 2 ce lo)] s.heap := hP
      refine lv_aload_n hx hb dX1_bodyFor_0 rfl (lv_at hl 0 rfl) ?_
      refine va_get (D := (dC, dI)) (ci := 1) (v := .int 2) (C := RX1) (T := TX1) (N := 6) hx hb hts i_X1_bodyFor_X1 hown hK hP 0 rfl rfl 3 (by decide) (hts _ mx_X1_bodyFor_1) (fun _ h9 => h9) rfl dX1_bodyFor_1 ?_
      refine lv_istore_n (lv' := [(2, .int 2), (0, .ref k9), (1, .int 1)]) hx hb dX1_bodyFor_4 rfl hl (by decide) rfl (fun ls hl => ?_)
      refine lv_iconst (v := 0) hx hb dX1_bodyFor_5 (by decide) ?_
      refine lv_istore_n (lv' := [(3, .int 0), (2, .int 2), (0, .ref k9), (1, .int 1)]) hx hb dX1_bodyFor_6 rfl hl (by decide) rfl (fun ls hl => ?_)
      refine lv_iload_n hx hb dX1_bodyFor_7 rfl (lv_at hl 0 rfl) ?_
      refine va_getsN hx hb hZ1 va_S.rf hown (va_Nw.use rfl hNk) (fun _ h9 => h9) dX1_bodyFor_8 ?_
      refine va_tlen (v := 6) hx hb hT1 va_S.rf (by decide) dX1_bodyFor_11 ?_
      refine lv_icmp_ge (tgt := 66) hx hb dX1_bodyFor_12 (by decide) (fun c_ => absurd c_ (by decide)) (fun _ => ?_)
      refine lv_iload_n hx hb dX1_bodyFor_15 rfl (lv_at hl 1 rfl) ?_
      refine lv_if_le (tgt := 66) hx hb dX1_bodyFor_16 (by decide) (fun c_ => absurd c_ (by decide)) (fun _ => ?_)
      refine lv_iload_n hx hb dX1_bodyFor_19 rfl (lv_at hl 1 rfl) ?_
      refine va_getsN hx hb hZ1 va_S.rf hown (va_Nw.use rfl hNk) (fun _ h9 => h9) dX1_bodyFor_20 ?_
      refine va_tlen (v := 6) hx hb hT1 va_S.rf (by decide) dX1_bodyFor_23 ?_
      refine lv_icmp_ge (tgt := 66) hx hb dX1_bodyFor_24 (by decide) (fun c_ => absurd c_ (by decide)) (fun _ => ?_)
      refine lv_iload_n hx hb dX1_bodyFor_27 rfl (lv_at hl 3 rfl) ?_
      refine lv_if_ne (tgt := 39) hx hb dX1_bodyFor_28 (by decide) (fun _ => ?_) (fun c_ => absurd c_ (by decide))
      refine va_gets hx hb hZ3 va_S.rf hown (hts _ mx_X1_bodyFor_3) (fun _ h9 => h9) dX1_bodyFor_39 ?_
      refine lv_iload_n hx hb dX1_bodyFor_42 rfl (lv_at hl 1 rfl) ?_
      refine va_ti hx hb hT3 va_S.rf (by unfold vp_in; decide) rfl dX1_bodyFor_43 ?_
      refine lv_topi (fun v_48 e_48 => ?_)
      obtain rfl : v_48 = 24 := (e_48).trans (by decide)
      refine lv_istore (lv' := [(4, .int 24), (3, .int 0), (2, .int 2), (0, .ref k9), (1, .int 1)]) hx hb dX1_bodyFor_44 hl (by decide) rfl (fun ls hl => ?_)
      refine lv_iload hx hb dX1_bodyFor_46 (lv_at hl 0 rfl) ?_
      refine lv_if_eq (tgt := 54) hx hb dX1_bodyFor_48 (by decide) (fun c_ => absurd c_ (by decide)) (fun _ => ?_)
      refine lv_iload hx hb dX1_bodyFor_51 (lv_at hl 0 rfl) ?_
      exact W.iret (v := 24) hx hb hr (fun t ht hW => ⟨24, rfl, (lf_X1_bodyFor_7 ha1 ha5), ht⟩) (fun _ h => by cases h) dX1_bodyFor_53
    · skip
      have hP : va_P (dC, dI) vwCl [(xo_1_riiiii k9 tc (nI z) nu 3 ce lo)] s.heap := hP
      refine lv_aload_n hx hb dX1_bodyFor_0 rfl (lv_at hl 0 rfl) ?_
      refine va_get (D := (dC, dI)) (ci := 1) (v := .int 3) (C := RX1) (T := TX1) (N := 6) hx hb hts i_X1_bodyFor_X1 hown hK hP 0 rfl rfl 3 (by decide) (hts _ mx_X1_bodyFor_1) (fun _ h9 => h9) rfl dX1_bodyFor_1 ?_
      refine lv_istore_n (lv' := [(2, .int 3), (0, .ref k9), (1, .int 1)]) hx hb dX1_bodyFor_4 rfl hl (by decide) rfl (fun ls hl => ?_)
      refine lv_iconst (v := 0) hx hb dX1_bodyFor_5 (by decide) ?_
      refine lv_istore_n (lv' := [(3, .int 0), (2, .int 3), (0, .ref k9), (1, .int 1)]) hx hb dX1_bodyFor_6 rfl hl (by decide) rfl (fun ls hl => ?_)
      refine lv_iload_n hx hb dX1_bodyFor_7 rfl (lv_at hl 0 rfl) ?_
      refine va_getsN hx hb hZ1 va_S.rf hown (va_Nw.use rfl hNk) (fun _ h9 => h9) dX1_bodyFor_8 ?_
      refine va_tlen (v := 6) hx hb hT1 va_S.rf (by decide) dX1_bodyFor_11 ?_
      refine lv_icmp_ge (tgt := 66) hx hb dX1_bodyFor_12 (by decide) (fun c_ => absurd c_ (by decide)) (fun _ => ?_)
      refine lv_iload_n hx hb dX1_bodyFor_15 rfl (lv_at hl 1 rfl) ?_
      refine lv_if_le (tgt := 66) hx hb dX1_bodyFor_16 (by decide) (fun c_ => absurd c_ (by decide)) (fun _ => ?_)
      refine lv_iload_n hx hb dX1_bodyFor_19 rfl (lv_at hl 1 rfl) ?_
      refine va_getsN hx hb hZ1 va_S.rf hown (va_Nw.use rfl hNk) (fun _ h9 => h9) dX1_bodyFor_20 ?_
      refine va_tlen (v := 6) hx hb hT1 va_S.rf (by decide) dX1_bodyFor_23 ?_
      refine lv_icmp_ge (tgt := 66) hx hb dX1_bodyFor_24 (by decide) (fun c_ => absurd c_ (by decide)) (fun _ => ?_)
      refine lv_iload_n hx hb dX1_bodyFor_27 rfl (lv_at hl 3 rfl) ?_
      refine lv_if_ne (tgt := 39) hx hb dX1_bodyFor_28 (by decide) (fun _ => ?_) (fun c_ => absurd c_ (by decide))
      refine va_gets hx hb hZ3 va_S.rf hown (hts _ mx_X1_bodyFor_3) (fun _ h9 => h9) dX1_bodyFor_39 ?_
      refine lv_iload_n hx hb dX1_bodyFor_42 rfl (lv_at hl 1 rfl) ?_
      refine va_ti hx hb hT3 va_S.rf (by unfold vp_in; decide) rfl dX1_bodyFor_43 ?_
      refine lv_topi (fun v_54 e_54 => ?_)
      obtain rfl : v_54 = 22 := (e_54).trans (by decide)
      refine lv_istore (lv' := [(4, .int 22), (3, .int 0), (2, .int 3), (0, .ref k9), (1, .int 1)]) hx hb dX1_bodyFor_44 hl (by decide) rfl (fun ls hl => ?_)
      refine lv_iload hx hb dX1_bodyFor_46 (lv_at hl 0 rfl) ?_
      refine lv_if_eq (tgt := 54) hx hb dX1_bodyFor_48 (by decide) (fun c_ => absurd c_ (by decide)) (fun _ => ?_)
      refine lv_iload hx hb dX1_bodyFor_51 (lv_at hl 0 rfl) ?_
      exact W.iret (v := 22) hx hb hr (fun t ht hW => ⟨22, rfl, (lf_X1_bodyFor_8 ha1 ha5), ht⟩) (fun _ h => by cases h) dX1_bodyFor_53
    · skip
      have hP : va_P (dC, dI) vwCl [(xo_1_riiiii k9 tc (nI z) nu 4 ce lo)] s.heap := hP
      refine lv_aload_n hx hb dX1_bodyFor_0 rfl (lv_at hl 0 rfl) ?_
      refine va_get (D := (dC, dI)) (ci := 1) (v := .int 4) (C := RX1) (T := TX1) (N := 6) hx hb hts i_X1_bodyFor_X1 hown hK hP 0 rfl rfl 3 (by decide) (hts _ mx_X1_bodyFor_1) (fun _ h9 => h9) rfl dX1_bodyFor_1 ?_
      refine lv_istore_n (lv' := [(2, .int 4), (0, .ref k9), (1, .int 1)]) hx hb dX1_bodyFor_4 rfl hl (by decide) rfl (fun ls hl => ?_)
      refine lv_iconst (v := 0) hx hb dX1_bodyFor_5 (by decide) ?_
      refine lv_istore_n (lv' := [(3, .int 0), (2, .int 4), (0, .ref k9), (1, .int 1)]) hx hb dX1_bodyFor_6 rfl hl (by decide) rfl (fun ls hl => ?_)
      refine lv_iload_n hx hb dX1_bodyFor_7 rfl (lv_at hl 0 rfl) ?_
      refine va_getsN hx hb hZ1 va_S.rf hown (va_Nw.use rfl hNk) (fun _ h9 => h9) dX1_bodyFor_8 ?_
      refine va_tlen (v := 6) hx hb hT1 va_S.rf (by decide) dX1_bodyFor_11 ?_
      refine lv_icmp_ge (tgt := 66) hx hb dX1_bodyFor_12 (by decide) (fun c_ => absurd c_ (by decide)) (fun _ => ?_)
      refine lv_iload_n hx hb dX1_bodyFor_15 rfl (lv_at hl 1 rfl) ?_
      refine lv_if_le (tgt := 66) hx hb dX1_bodyFor_16 (by decide) (fun c_ => absurd c_ (by decide)) (fun _ => ?_)
      refine lv_iload_n hx hb dX1_bodyFor_19 rfl (lv_at hl 1 rfl) ?_
      refine va_getsN hx hb hZ1 va_S.rf hown (va_Nw.use rfl hNk) (fun _ h9 => h9) dX1_bodyFor_20 ?_
      refine va_tlen (v := 6) hx hb hT1 va_S.rf (by decide) dX1_bodyFor_23 ?_
      refine lv_icmp_ge (tgt := 66) hx hb dX1_bodyFor_24 (by decide) (fun c_ => absurd c_ (by decide)) (fun _ => ?_)
      refine lv_iload_n hx hb dX1_bodyFor_27 rfl (lv_at hl 3 rfl) ?_
      refine lv_if_ne (tgt := 39) hx hb dX1_bodyFor_28 (by decide) (fun _ => ?_) (fun c_ => absurd c_ (by decide))
      refine va_gets hx hb hZ3 va_S.rf hown (hts _ mx_X1_bodyFor_3) (fun _ h9 => h9) dX1_bodyFor_39 ?_
      refine lv_iload_n hx hb dX1_bodyFor_42 rfl (lv_at hl 1 rfl) ?_
      refine va_ti hx hb hT3 va_S.rf (by unfold vp_in; decide) rfl dX1_bodyFor_43 ?_
      refine lv_topi (fun v_60 e_60 => ?_)
      obtain rfl : v_60 = 23 := (e_60).trans (by decide)
      refine lv_istore (lv' := [(4, .int 23), (3, .int 0), (2, .int 4), (0, .ref k9), (1, .int 1)]) hx hb dX1_bodyFor_44 hl (by decide) rfl (fun ls hl => ?_)
      refine lv_iload hx hb dX1_bodyFor_46 (lv_at hl 0 rfl) ?_
      refine lv_if_eq (tgt := 54) hx hb dX1_bodyFor_48 (by decide) (fun c_ => absurd c_ (by decide)) (fun _ => ?_)
      refine lv_iload hx hb dX1_bodyFor_51 (lv_at hl 0 rfl) ?_
      exact W.iret (v := 23) hx hb hr (fun t ht hW => ⟨23, rfl, (lf_X1_bodyFor_9 ha1 ha5), ht⟩) (fun _ h => by cases h) dX1_bodyFor_53
    · skip
      have hP : va_P (dC, dI) vwCl [(xo_1_riiiii k9 tc (nI z) nu 5 ce lo)] s.heap := hP
      refine lv_aload_n hx hb dX1_bodyFor_0 rfl (lv_at hl 0 rfl) ?_
      refine va_get (D := (dC, dI)) (ci := 1) (v := .int 5) (C := RX1) (T := TX1) (N := 6) hx hb hts i_X1_bodyFor_X1 hown hK hP 0 rfl rfl 3 (by decide) (hts _ mx_X1_bodyFor_1) (fun _ h9 => h9) rfl dX1_bodyFor_1 ?_
      refine lv_istore_n (lv' := [(2, .int 5), (0, .ref k9), (1, .int 1)]) hx hb dX1_bodyFor_4 rfl hl (by decide) rfl (fun ls hl => ?_)
      refine lv_iconst (v := 0) hx hb dX1_bodyFor_5 (by decide) ?_
      refine lv_istore_n (lv' := [(3, .int 0), (2, .int 5), (0, .ref k9), (1, .int 1)]) hx hb dX1_bodyFor_6 rfl hl (by decide) rfl (fun ls hl => ?_)
      refine lv_iload_n hx hb dX1_bodyFor_7 rfl (lv_at hl 0 rfl) ?_
      refine va_getsN hx hb hZ1 va_S.rf hown (va_Nw.use rfl hNk) (fun _ h9 => h9) dX1_bodyFor_8 ?_
      refine va_tlen (v := 6) hx hb hT1 va_S.rf (by decide) dX1_bodyFor_11 ?_
      refine lv_icmp_ge (tgt := 66) hx hb dX1_bodyFor_12 (by decide) (fun c_ => absurd c_ (by decide)) (fun _ => ?_)
      refine lv_iload_n hx hb dX1_bodyFor_15 rfl (lv_at hl 1 rfl) ?_
      refine lv_if_le (tgt := 66) hx hb dX1_bodyFor_16 (by decide) (fun c_ => absurd c_ (by decide)) (fun _ => ?_)
      refine lv_iload_n hx hb dX1_bodyFor_19 rfl (lv_at hl 1 rfl) ?_
      refine va_getsN hx hb hZ1 va_S.rf hown (va_Nw.use rfl hNk) (fun _ h9 => h9) dX1_bodyFor_20 ?_
      refine va_tlen (v := 6) hx hb hT1 va_S.rf (by decide) dX1_bodyFor_23 ?_
      refine lv_icmp_ge (tgt := 66) hx hb dX1_bodyFor_24 (by decide) (fun c_ => absurd c_ (by decide)) (fun _ => ?_)
      refine lv_iload_n hx hb dX1_bodyFor_27 rfl (lv_at hl 3 rfl) ?_
      refine lv_if_ne (tgt := 39) hx hb dX1_bodyFor_28 (by decide) (fun _ => ?_) (fun c_ => absurd c_ (by decide))
      refine va_gets hx hb hZ3 va_S.rf hown (hts _ mx_X1_bodyFor_3) (fun _ h9 => h9) dX1_bodyFor_39 ?_
      refine lv_iload_n hx hb dX1_bodyFor_42 rfl (lv_at hl 1 rfl) ?_
      refine va_ti hx hb hT3 va_S.rf (by unfold vp_in; decide) rfl dX1_bodyFor_43 ?_
      refine lv_topi (fun v_66 e_66 => ?_)
      obtain rfl : v_66 = 0 := (e_66).trans (by decide)
      refine lv_istore (lv' := [(4, .int 0), (3, .int 0), (2, .int 5), (0, .ref k9), (1, .int 1)]) hx hb dX1_bodyFor_44 hl (by decide) rfl (fun ls hl => ?_)
      refine lv_iload hx hb dX1_bodyFor_46 (lv_at hl 0 rfl) ?_
      refine lv_if_eq (tgt := 54) hx hb dX1_bodyFor_48 (by decide) (fun _ => ?_) (fun c_ => absurd (by decide) c_)
      refine va_getsN hx hb hZ1 va_S.rf hown (va_Nw.use rfl hNk) (fun _ h9 => h9) dX1_bodyFor_54 ?_
      refine lv_iload_n hx hb dX1_bodyFor_57 rfl (lv_at hl 2 rfl) ?_
      refine va_ti hx hb hT1 va_S.rf (by unfold vp_in; decide) rfl dX1_bodyFor_58 ?_
      refine lv_topi (fun v_68 e_68 => ?_)
      obtain rfl : v_68 = 4 := (e_68).trans (by decide)
      refine lv_istore_n (lv' := [(2, .int 4), (4, .int 0), (3, .int 0), (0, .ref k9), (1, .int 1)]) hx hb dX1_bodyFor_59 rfl hl (by decide) rfl (fun ls hl => ?_)
      refine lv_iinc (v := 1) (lv' := [(3, .int 1), (2, .int 4), (4, .int 0), (0, .ref k9), (1, .int 1)]) hx hb dX1_bodyFor_60 hl (k := 2) rfl (by decide) (by decide) rfl (fun ls hl => ?_)
      refine lv_goto (tgt := 7) hx hb dX1_bodyFor_63 (by decide) ?_
      refine lv_iload_n hx hb dX1_bodyFor_7 rfl (lv_at hl 0 rfl) ?_
      refine va_getsN hx hb hZ1 va_S.rf hown (va_Nw.use rfl hNk) (fun _ h9 => h9) dX1_bodyFor_8 ?_
      refine va_tlen (v := 6) hx hb hT1 va_S.rf (by decide) dX1_bodyFor_11 ?_
      refine lv_icmp_ge (tgt := 66) hx hb dX1_bodyFor_12 (by decide) (fun c_ => absurd c_ (by decide)) (fun _ => ?_)
      refine lv_iload_n hx hb dX1_bodyFor_15 rfl (lv_at hl 1 rfl) ?_
      refine lv_if_le (tgt := 66) hx hb dX1_bodyFor_16 (by decide) (fun c_ => absurd c_ (by decide)) (fun _ => ?_)
      refine lv_iload_n hx hb dX1_bodyFor_19 rfl (lv_at hl 1 rfl) ?_
      refine va_getsN hx hb hZ1 va_S.rf hown (va_Nw.use rfl hNk) (fun _ h9 => h9) dX1_bodyFor_20 ?_
      refine va_tlen (v := 6) hx hb hT1 va_S.rf (by decide) dX1_bodyFor_23 ?_
      refine lv_icmp_ge (tgt := 66) hx hb dX1_bodyFor_24 (by decide) (fun c_ => absurd c_ (by decide)) (fun _ => ?_)
      refine lv_iload_n hx hb dX1_bodyFor_27 rfl (lv_at hl 4 rfl) ?_
      refine lv_if_ne (tgt := 39) hx hb dX1_bodyFor_28 (by decide) (fun _ => ?_) (fun c_ => absurd c_ (by decide))
      refine va_gets hx hb hZ3 va_S.rf hown (hts _ mx_X1_bodyFor_3) (fun _ h9 => h9) dX1_bodyFor_39 ?_
      refine lv_iload_n hx hb dX1_bodyFor_42 rfl (lv_at hl 1 rfl) ?_
      refine va_ti hx hb hT3 va_S.rf (by unfold vp_in; decide) rfl dX1_bodyFor_43 ?_
      refine lv_topi (fun v_73 e_73 => ?_)
      obtain rfl : v_73 = 23 := (e_73).trans (by decide)
      refine lv_istore (lv' := [(4, .int 23), (3, .int 1), (2, .int 4), (0, .ref k9), (1, .int 1)]) hx hb dX1_bodyFor_44 hl (by decide) rfl (fun ls hl => ?_)
      refine lv_iload hx hb dX1_bodyFor_46 (lv_at hl 0 rfl) ?_
      refine lv_if_eq (tgt := 54) hx hb dX1_bodyFor_48 (by decide) (fun c_ => absurd c_ (by decide)) (fun _ => ?_)
      refine lv_iload hx hb dX1_bodyFor_51 (lv_at hl 0 rfl) ?_
      exact W.iret (v := 23) hx hb hr (fun t ht hW => ⟨23, rfl, (lf_X1_bodyFor_10 ha1 ha5), ht⟩) (fun _ h => by cases h) dX1_bodyFor_53
theorem lf_X1_begin_s_1 {z : Nat} {a : Nat} {nu : Int32} {ce : Int32} {lo : Int32} {ft : Nat → Int32} {dp : Nat} {zn_2 : Nat} {ftn_2 : Nat → Int32} (hz : z ≤ 16) (ha1 : 1 ≤ a) (ha5 : a ≤ 5) (hdn : dp ≤ 16) (c_1 : dp < 16) (hF_2_0 : zn_2 ≤ 16) (hF_2_1 : lvX (10 : Int32) (z, ft) = (zn_2, ftn_2)) : (bgX nu a ce lo (16 - dp) (10 : Int32) (z, ft)).2 = (zn_2, ftn_2) := by
  first
  | omega
  | (rw [show 16 - dp = 0 by omega]; rfl)
  | (rw [show 16 - dp = (16 - (dp + 1)) + 1 by omega]; simp only [bgX]; grind)
theorem lf_X1_begin_s_2 {z : Nat} {a : Nat} {nu : Int32} {ce : Int32} {lo : Int32} {ft : Nat → Int32} {dp : Nat} {zn_2 : Nat} {ftn_2 : Nat → Int32} (hz : z ≤ 16) (ha1 : 1 ≤ a) (ha5 : a ≤ 5) (hdn : dp ≤ 16) (c_1 : dp < 16) (hF_2_0 : zn_2 ≤ 16) (hF_2_1 : lvX (10 : Int32) (z, ft) = (zn_2, ftn_2)) : lo = ((bgX nu a ce lo (16 - dp) (10 : Int32) (z, ft)).1) := by
  first
  | omega
  | (rw [show 16 - dp = 0 by omega]; rfl)
  | (rw [show 16 - dp = (16 - (dp + 1)) + 1 by omega]; simp only [bgX]; grind)
theorem lf_X1_begin_s_3 {z : Nat} {a : Nat} {nu : Int32} {ce : Int32} {lo : Int32} {ft : Nat → Int32} {dp : Nat} {zn_2 : Nat} {ftn_2 : Nat → Int32} {zn_6 : Nat} {ftn_6 : Nat → Int32} {r_6 : Int32} {zn_7 : Nat} {ftn_7 : Nat → Int32} {r_7 : Int32} {v_8 : Int32} (hz : z ≤ 16) (ha1 : 1 ≤ a) (ha5 : a ≤ 5) (hdn : dp ≤ 16) (c_1 : dp < 16) (hF_2_0 : zn_2 ≤ 16) (hF_2_1 : lvX (11 : Int32) (z, ft) = (zn_2, ftn_2)) (k_4 : ¬ (11 : Int32) = 10) (hF_6_0 : zn_6 ≤ 16) (hF_6_1 : (bgX nu a ce lo (16 - (dp + 1)) 10 (zn_2, ftn_2)).2 = (zn_6, ftn_6)) (h_6 : r_6 = ((bgX nu a ce lo (16 - (dp + 1)) 10 (zn_2, ftn_2)).1)) (hF_7_0 : zn_7 ≤ 16) (hF_7_1 : (bgX nu a ce lo (16 - (dp + 1)) (bfX a 1) (zn_6, ftn_6)).2 = (zn_7, ftn_7)) (h_7 : r_7 = ((bgX nu a ce lo (16 - (dp + 1)) (bfX a 1) (zn_6, ftn_6)).1)) (e_8 : v_8 = (r_6 + r_7)) : (bgX nu a ce lo (16 - dp) (11 : Int32) (z, ft)).2 = (zn_7, ftn_7) := by
  first
  | omega
  | (rw [show 16 - dp = 0 by omega]; rfl)
  | (rw [show 16 - dp = (16 - (dp + 1)) + 1 by omega]; simp only [bgX]; grind)
theorem lf_X1_begin_s_4 {z : Nat} {a : Nat} {nu : Int32} {ce : Int32} {lo : Int32} {ft : Nat → Int32} {dp : Nat} {zn_2 : Nat} {ftn_2 : Nat → Int32} {zn_6 : Nat} {ftn_6 : Nat → Int32} {r_6 : Int32} {zn_7 : Nat} {ftn_7 : Nat → Int32} {r_7 : Int32} {v_8 : Int32} (hz : z ≤ 16) (ha1 : 1 ≤ a) (ha5 : a ≤ 5) (hdn : dp ≤ 16) (c_1 : dp < 16) (hF_2_0 : zn_2 ≤ 16) (hF_2_1 : lvX (11 : Int32) (z, ft) = (zn_2, ftn_2)) (k_4 : ¬ (11 : Int32) = 10) (hF_6_0 : zn_6 ≤ 16) (hF_6_1 : (bgX nu a ce lo (16 - (dp + 1)) 10 (zn_2, ftn_2)).2 = (zn_6, ftn_6)) (h_6 : r_6 = ((bgX nu a ce lo (16 - (dp + 1)) 10 (zn_2, ftn_2)).1)) (hF_7_0 : zn_7 ≤ 16) (hF_7_1 : (bgX nu a ce lo (16 - (dp + 1)) (bfX a 1) (zn_6, ftn_6)).2 = (zn_7, ftn_7)) (h_7 : r_7 = ((bgX nu a ce lo (16 - (dp + 1)) (bfX a 1) (zn_6, ftn_6)).1)) (e_8 : v_8 = (r_6 + r_7)) : v_8 = ((bgX nu a ce lo (16 - dp) (11 : Int32) (z, ft)).1) := by
  first
  | omega
  | (rw [show 16 - dp = 0 by omega]; rfl)
  | (rw [show 16 - dp = (16 - (dp + 1)) + 1 by omega]; simp only [bgX]; grind)
theorem lf_X1_begin_s_5 {z : Nat} {a : Nat} {nu : Int32} {ce : Int32} {lo : Int32} {ft : Nat → Int32} {dp : Nat} {zn_2 : Nat} {ftn_2 : Nat → Int32} {zn_10 : Nat} {ftn_10 : Nat → Int32} {r_10 : Int32} {v_11 : Int32} (hz : z ≤ 16) (ha1 : 1 ≤ a) (ha5 : a ≤ 5) (hdn : dp ≤ 16) (c_1 : dp < 16) (hF_2_0 : zn_2 ≤ 16) (hF_2_1 : lvX (12 : Int32) (z, ft) = (zn_2, ftn_2)) (k_4 : ¬ (12 : Int32) = 10) (k_5 : ¬ (12 : Int32) = 11) (hF_10_0 : zn_10 ≤ 16) (hF_10_1 : (bgX nu a ce lo (16 - (dp + 1)) 11 (zn_2, ftn_2)).2 = (zn_10, ftn_10)) (h_10 : r_10 = ((bgX nu a ce lo (16 - (dp + 1)) 11 (zn_2, ftn_2)).1)) (e_11 : v_11 = (-r_10)) : (bgX nu a ce lo (16 - dp) (12 : Int32) (z, ft)).2 = (zn_10, ftn_10) := by
  first
  | omega
  | (rw [show 16 - dp = 0 by omega]; rfl)
  | (rw [show 16 - dp = (16 - (dp + 1)) + 1 by omega]; simp only [bgX]; grind)
theorem lf_X1_begin_s_6 {z : Nat} {a : Nat} {nu : Int32} {ce : Int32} {lo : Int32} {ft : Nat → Int32} {dp : Nat} {zn_2 : Nat} {ftn_2 : Nat → Int32} {zn_10 : Nat} {ftn_10 : Nat → Int32} {r_10 : Int32} {v_11 : Int32} (hz : z ≤ 16) (ha1 : 1 ≤ a) (ha5 : a ≤ 5) (hdn : dp ≤ 16) (c_1 : dp < 16) (hF_2_0 : zn_2 ≤ 16) (hF_2_1 : lvX (12 : Int32) (z, ft) = (zn_2, ftn_2)) (k_4 : ¬ (12 : Int32) = 10) (k_5 : ¬ (12 : Int32) = 11) (hF_10_0 : zn_10 ≤ 16) (hF_10_1 : (bgX nu a ce lo (16 - (dp + 1)) 11 (zn_2, ftn_2)).2 = (zn_10, ftn_10)) (h_10 : r_10 = ((bgX nu a ce lo (16 - (dp + 1)) 11 (zn_2, ftn_2)).1)) (e_11 : v_11 = (-r_10)) : v_11 = ((bgX nu a ce lo (16 - dp) (12 : Int32) (z, ft)).1) := by
  first
  | omega
  | (rw [show 16 - dp = 0 by omega]; rfl)
  | (rw [show 16 - dp = (16 - (dp + 1)) + 1 by omega]; simp only [bgX]; grind)
theorem lf_X1_begin_s_7 {z : Nat} {a : Nat} {nu : Int32} {ce : Int32} {lo : Int32} {ft : Nat → Int32} {dp : Nat} {zn_2 : Nat} {ftn_2 : Nat → Int32} {zn_13 : Nat} {ftn_13 : Nat → Int32} {r_13 : Int32} {v_14 : Int32} (hz : z ≤ 16) (ha1 : 1 ≤ a) (ha5 : a ≤ 5) (hdn : dp ≤ 16) (c_1 : dp < 16) (hF_2_0 : zn_2 ≤ 16) (hF_2_1 : lvX (13 : Int32) (z, ft) = (zn_2, ftn_2)) (k_4 : ¬ (13 : Int32) = 10) (k_5 : ¬ (13 : Int32) = 11) (k_9 : ¬ (13 : Int32) = 12) (hF_13_0 : zn_13 ≤ 16) (hF_13_1 : (bgX nu a ce lo (16 - (dp + 1)) 10 (zn_2, ftn_2)).2 = (zn_13, ftn_13)) (h_13 : r_13 = ((bgX nu a ce lo (16 - (dp + 1)) 10 (zn_2, ftn_2)).1)) (e_14 : v_14 = (r_13 - 100)) : (bgX nu a ce lo (16 - dp) (13 : Int32) (z, ft)).2 = (zn_13, ftn_13) := by
  first
  | omega
  | (rw [show 16 - dp = 0 by omega]; rfl)
  | (rw [show 16 - dp = (16 - (dp + 1)) + 1 by omega]; simp only [bgX]; grind)
theorem lf_X1_begin_s_8 {z : Nat} {a : Nat} {nu : Int32} {ce : Int32} {lo : Int32} {ft : Nat → Int32} {dp : Nat} {zn_2 : Nat} {ftn_2 : Nat → Int32} {zn_13 : Nat} {ftn_13 : Nat → Int32} {r_13 : Int32} {v_14 : Int32} (hz : z ≤ 16) (ha1 : 1 ≤ a) (ha5 : a ≤ 5) (hdn : dp ≤ 16) (c_1 : dp < 16) (hF_2_0 : zn_2 ≤ 16) (hF_2_1 : lvX (13 : Int32) (z, ft) = (zn_2, ftn_2)) (k_4 : ¬ (13 : Int32) = 10) (k_5 : ¬ (13 : Int32) = 11) (k_9 : ¬ (13 : Int32) = 12) (hF_13_0 : zn_13 ≤ 16) (hF_13_1 : (bgX nu a ce lo (16 - (dp + 1)) 10 (zn_2, ftn_2)).2 = (zn_13, ftn_13)) (h_13 : r_13 = ((bgX nu a ce lo (16 - (dp + 1)) 10 (zn_2, ftn_2)).1)) (e_14 : v_14 = (r_13 - 100)) : v_14 = ((bgX nu a ce lo (16 - dp) (13 : Int32) (z, ft)).1) := by
  first
  | omega
  | (rw [show 16 - dp = 0 by omega]; rfl)
  | (rw [show 16 - dp = (16 - (dp + 1)) + 1 by omega]; simp only [bgX]; grind)
theorem lf_X1_begin_s_9 {z : Nat} {a : Nat} {nu : Int32} {ce : Int32} {lo : Int32} {ft : Nat → Int32} {dp : Nat} {zn_2 : Nat} {ftn_2 : Nat → Int32} {zn_16 : Nat} {ftn_16 : Nat → Int32} {r_16 : Int32} {v_17 : Int32} (hz : z ≤ 16) (ha1 : 1 ≤ a) (ha5 : a ≤ 5) (hdn : dp ≤ 16) (c_1 : dp < 16) (hF_2_0 : zn_2 ≤ 16) (hF_2_1 : lvX (14 : Int32) (z, ft) = (zn_2, ftn_2)) (k_4 : ¬ (14 : Int32) = 10) (k_5 : ¬ (14 : Int32) = 11) (k_9 : ¬ (14 : Int32) = 12) (k_12 : ¬ (14 : Int32) = 13) (hF_16_0 : zn_16 ≤ 16) (hF_16_1 : (bgX nu a ce lo (16 - (dp + 1)) 13 (zn_2, ftn_2)).2 = (zn_16, ftn_16)) (h_16 : r_16 = ((bgX nu a ce lo (16 - (dp + 1)) 13 (zn_2, ftn_2)).1)) (e_17 : v_17 = (r_16 * 2)) : (bgX nu a ce lo (16 - dp) (14 : Int32) (z, ft)).2 = (zn_16, ftn_16) := by
  first
  | omega
  | (rw [show 16 - dp = 0 by omega]; rfl)
  | (rw [show 16 - dp = (16 - (dp + 1)) + 1 by omega]; simp only [bgX]; grind)
theorem lf_X1_begin_s_10 {z : Nat} {a : Nat} {nu : Int32} {ce : Int32} {lo : Int32} {ft : Nat → Int32} {dp : Nat} {zn_2 : Nat} {ftn_2 : Nat → Int32} {zn_16 : Nat} {ftn_16 : Nat → Int32} {r_16 : Int32} {v_17 : Int32} (hz : z ≤ 16) (ha1 : 1 ≤ a) (ha5 : a ≤ 5) (hdn : dp ≤ 16) (c_1 : dp < 16) (hF_2_0 : zn_2 ≤ 16) (hF_2_1 : lvX (14 : Int32) (z, ft) = (zn_2, ftn_2)) (k_4 : ¬ (14 : Int32) = 10) (k_5 : ¬ (14 : Int32) = 11) (k_9 : ¬ (14 : Int32) = 12) (k_12 : ¬ (14 : Int32) = 13) (hF_16_0 : zn_16 ≤ 16) (hF_16_1 : (bgX nu a ce lo (16 - (dp + 1)) 13 (zn_2, ftn_2)).2 = (zn_16, ftn_16)) (h_16 : r_16 = ((bgX nu a ce lo (16 - (dp + 1)) 13 (zn_2, ftn_2)).1)) (e_17 : v_17 = (r_16 * 2)) : v_17 = ((bgX nu a ce lo (16 - dp) (14 : Int32) (z, ft)).1) := by
  first
  | omega
  | (rw [show 16 - dp = 0 by omega]; rfl)
  | (rw [show 16 - dp = (16 - (dp + 1)) + 1 by omega]; simp only [bgX]; grind)
theorem lf_X1_begin_s_11 {z : Nat} {a : Nat} {nu : Int32} {ce : Int32} {lo : Int32} {ft : Nat → Int32} {dp : Nat} {zn_2 : Nat} {ftn_2 : Nat → Int32} (hz : z ≤ 16) (ha1 : 1 ≤ a) (ha5 : a ≤ 5) (hdn : dp ≤ 16) (c_1 : dp < 16) (hF_2_0 : zn_2 ≤ 16) (hF_2_1 : lvX (15 : Int32) (z, ft) = (zn_2, ftn_2)) (k_4 : ¬ (15 : Int32) = 10) (k_5 : ¬ (15 : Int32) = 11) (k_9 : ¬ (15 : Int32) = 12) (k_12 : ¬ (15 : Int32) = 13) (k_15 : ¬ (15 : Int32) = 14) : (bgX nu a ce lo (16 - dp) (15 : Int32) (z, ft)).2 = (zn_2, ftn_2) := by
  first
  | omega
  | (rw [show 16 - dp = 0 by omega]; rfl)
  | (rw [show 16 - dp = (16 - (dp + 1)) + 1 by omega]; simp only [bgX]; grind)
theorem lf_X1_begin_s_12 {z : Nat} {a : Nat} {nu : Int32} {ce : Int32} {lo : Int32} {ft : Nat → Int32} {dp : Nat} {zn_2 : Nat} {ftn_2 : Nat → Int32} (hz : z ≤ 16) (ha1 : 1 ≤ a) (ha5 : a ≤ 5) (hdn : dp ≤ 16) (c_1 : dp < 16) (hF_2_0 : zn_2 ≤ 16) (hF_2_1 : lvX (15 : Int32) (z, ft) = (zn_2, ftn_2)) (k_4 : ¬ (15 : Int32) = 10) (k_5 : ¬ (15 : Int32) = 11) (k_9 : ¬ (15 : Int32) = 12) (k_12 : ¬ (15 : Int32) = 13) (k_15 : ¬ (15 : Int32) = 14) : 0 = ((bgX nu a ce lo (16 - dp) (15 : Int32) (z, ft)).1) := by
  first
  | omega
  | (rw [show 16 - dp = 0 by omega]; rfl)
  | (rw [show 16 - dp = (16 - (dp + 1)) + 1 by omega]; simp only [bgX]; grind)
theorem lf_X1_begin_s_13 {z : Nat} {a : Nat} {nu : Int32} {ce : Int32} {lo : Int32} {ft : Nat → Int32} {dp : Nat} {zn_2 : Nat} {ftn_2 : Nat → Int32} (hz : z ≤ 16) (ha1 : 1 ≤ a) (ha5 : a ≤ 5) (hdn : dp ≤ 16) (c_1 : dp < 16) (hF_2_0 : zn_2 ≤ 16) (hF_2_1 : lvX (16 : Int32) (z, ft) = (zn_2, ftn_2)) (k_4 : ¬ (16 : Int32) = 10) (k_5 : ¬ (16 : Int32) = 11) (k_9 : ¬ (16 : Int32) = 12) (k_12 : ¬ (16 : Int32) = 13) (k_15 : ¬ (16 : Int32) = 14) (k_18 : ¬ (16 : Int32) = 15) : (bgX nu a ce lo (16 - dp) (16 : Int32) (z, ft)).2 = (zn_2, ftn_2) := by
  first
  | omega
  | (rw [show 16 - dp = 0 by omega]; rfl)
  | (rw [show 16 - dp = (16 - (dp + 1)) + 1 by omega]; simp only [bgX]; grind)
theorem lf_X1_begin_s_14 {z : Nat} {a : Nat} {nu : Int32} {ce : Int32} {lo : Int32} {ft : Nat → Int32} {dp : Nat} {zn_2 : Nat} {ftn_2 : Nat → Int32} (hz : z ≤ 16) (ha1 : 1 ≤ a) (ha5 : a ≤ 5) (hdn : dp ≤ 16) (c_1 : dp < 16) (hF_2_0 : zn_2 ≤ 16) (hF_2_1 : lvX (16 : Int32) (z, ft) = (zn_2, ftn_2)) (k_4 : ¬ (16 : Int32) = 10) (k_5 : ¬ (16 : Int32) = 11) (k_9 : ¬ (16 : Int32) = 12) (k_12 : ¬ (16 : Int32) = 13) (k_15 : ¬ (16 : Int32) = 14) (k_18 : ¬ (16 : Int32) = 15) : 0 = ((bgX nu a ce lo (16 - dp) (16 : Int32) (z, ft)).1) := by
  first
  | omega
  | (rw [show 16 - dp = 0 by omega]; rfl)
  | (rw [show 16 - dp = (16 - (dp + 1)) + 1 by omega]; simp only [bgX]; grind)
theorem lf_X1_begin_s_15 {z : Nat} {a : Nat} {nu : Int32} {ce : Int32} {lo : Int32} {ft : Nat → Int32} {dp : Nat} {zn_2 : Nat} {ftn_2 : Nat → Int32} (hz : z ≤ 16) (ha1 : 1 ≤ a) (ha5 : a ≤ 5) (hdn : dp ≤ 16) (c_1 : dp < 16) (hF_2_0 : zn_2 ≤ 16) (hF_2_1 : lvX (17 : Int32) (z, ft) = (zn_2, ftn_2)) (k_4 : ¬ (17 : Int32) = 10) (k_5 : ¬ (17 : Int32) = 11) (k_9 : ¬ (17 : Int32) = 12) (k_12 : ¬ (17 : Int32) = 13) (k_15 : ¬ (17 : Int32) = 14) (k_18 : ¬ (17 : Int32) = 15) (k_19 : ¬ (17 : Int32) = 16) : (bgX nu a ce lo (16 - dp) (17 : Int32) (z, ft)).2 = (zn_2, ftn_2) := by
  first
  | omega
  | (rw [show 16 - dp = 0 by omega]; rfl)
  | (rw [show 16 - dp = (16 - (dp + 1)) + 1 by omega]; simp only [bgX]; grind)
theorem lf_X1_begin_s_16 {z : Nat} {a : Nat} {nu : Int32} {ce : Int32} {lo : Int32} {ft : Nat → Int32} {dp : Nat} {zn_2 : Nat} {ftn_2 : Nat → Int32} (hz : z ≤ 16) (ha1 : 1 ≤ a) (ha5 : a ≤ 5) (hdn : dp ≤ 16) (c_1 : dp < 16) (hF_2_0 : zn_2 ≤ 16) (hF_2_1 : lvX (17 : Int32) (z, ft) = (zn_2, ftn_2)) (k_4 : ¬ (17 : Int32) = 10) (k_5 : ¬ (17 : Int32) = 11) (k_9 : ¬ (17 : Int32) = 12) (k_12 : ¬ (17 : Int32) = 13) (k_15 : ¬ (17 : Int32) = 14) (k_18 : ¬ (17 : Int32) = 15) (k_19 : ¬ (17 : Int32) = 16) : 0 = ((bgX nu a ce lo (16 - dp) (17 : Int32) (z, ft)).1) := by
  first
  | omega
  | (rw [show 16 - dp = 0 by omega]; rfl)
  | (rw [show 16 - dp = (16 - (dp + 1)) + 1 by omega]; simp only [bgX]; grind)
theorem lf_X1_begin_s_17 {z : Nat} {a : Nat} {nu : Int32} {ce : Int32} {lo : Int32} {ft : Nat → Int32} {dp : Nat} {zn_2 : Nat} {ftn_2 : Nat → Int32} (hz : z ≤ 16) (ha1 : 1 ≤ a) (ha5 : a ≤ 5) (hdn : dp ≤ 16) (c_1 : dp < 16) (hF_2_0 : zn_2 ≤ 16) (hF_2_1 : lvX (18 : Int32) (z, ft) = (zn_2, ftn_2)) (k_4 : ¬ (18 : Int32) = 10) (k_5 : ¬ (18 : Int32) = 11) (k_9 : ¬ (18 : Int32) = 12) (k_12 : ¬ (18 : Int32) = 13) (k_15 : ¬ (18 : Int32) = 14) (k_18 : ¬ (18 : Int32) = 15) (k_19 : ¬ (18 : Int32) = 16) (k_20 : ¬ (18 : Int32) = 17) : (bgX nu a ce lo (16 - dp) (18 : Int32) (z, ft)).2 = (zn_2, ftn_2) := by
  first
  | omega
  | (rw [show 16 - dp = 0 by omega]; rfl)
  | (rw [show 16 - dp = (16 - (dp + 1)) + 1 by omega]; simp only [bgX]; grind)
theorem lf_X1_begin_s_18 {z : Nat} {a : Nat} {nu : Int32} {ce : Int32} {lo : Int32} {ft : Nat → Int32} {dp : Nat} {zn_2 : Nat} {ftn_2 : Nat → Int32} (hz : z ≤ 16) (ha1 : 1 ≤ a) (ha5 : a ≤ 5) (hdn : dp ≤ 16) (c_1 : dp < 16) (hF_2_0 : zn_2 ≤ 16) (hF_2_1 : lvX (18 : Int32) (z, ft) = (zn_2, ftn_2)) (k_4 : ¬ (18 : Int32) = 10) (k_5 : ¬ (18 : Int32) = 11) (k_9 : ¬ (18 : Int32) = 12) (k_12 : ¬ (18 : Int32) = 13) (k_15 : ¬ (18 : Int32) = 14) (k_18 : ¬ (18 : Int32) = 15) (k_19 : ¬ (18 : Int32) = 16) (k_20 : ¬ (18 : Int32) = 17) : 0 = ((bgX nu a ce lo (16 - dp) (18 : Int32) (z, ft)).1) := by
  first
  | omega
  | (rw [show 16 - dp = 0 by omega]; rfl)
  | (rw [show 16 - dp = (16 - (dp + 1)) + 1 by omega]; simp only [bgX]; grind)
theorem lf_X1_begin_s_19 {z : Nat} {a : Nat} {nu : Int32} {ce : Int32} {lo : Int32} {ft : Nat → Int32} {dp : Nat} {zn_2 : Nat} {ftn_2 : Nat → Int32} (hz : z ≤ 16) (ha1 : 1 ≤ a) (ha5 : a ≤ 5) (hdn : dp ≤ 16) (c_1 : dp < 16) (hF_2_0 : zn_2 ≤ 16) (hF_2_1 : lvX (19 : Int32) (z, ft) = (zn_2, ftn_2)) (k_4 : ¬ (19 : Int32) = 10) (k_5 : ¬ (19 : Int32) = 11) (k_9 : ¬ (19 : Int32) = 12) (k_12 : ¬ (19 : Int32) = 13) (k_15 : ¬ (19 : Int32) = 14) (k_18 : ¬ (19 : Int32) = 15) (k_19 : ¬ (19 : Int32) = 16) (k_20 : ¬ (19 : Int32) = 17) (k_21 : ¬ (19 : Int32) = 18) : (bgX nu a ce lo (16 - dp) (19 : Int32) (z, ft)).2 = (zn_2, ftn_2) := by
  first
  | omega
  | (rw [show 16 - dp = 0 by omega]; rfl)
  | (rw [show 16 - dp = (16 - (dp + 1)) + 1 by omega]; simp only [bgX]; grind)
theorem lf_X1_begin_s_20 {z : Nat} {a : Nat} {nu : Int32} {ce : Int32} {lo : Int32} {ft : Nat → Int32} {dp : Nat} {zn_2 : Nat} {ftn_2 : Nat → Int32} (hz : z ≤ 16) (ha1 : 1 ≤ a) (ha5 : a ≤ 5) (hdn : dp ≤ 16) (c_1 : dp < 16) (hF_2_0 : zn_2 ≤ 16) (hF_2_1 : lvX (19 : Int32) (z, ft) = (zn_2, ftn_2)) (k_4 : ¬ (19 : Int32) = 10) (k_5 : ¬ (19 : Int32) = 11) (k_9 : ¬ (19 : Int32) = 12) (k_12 : ¬ (19 : Int32) = 13) (k_15 : ¬ (19 : Int32) = 14) (k_18 : ¬ (19 : Int32) = 15) (k_19 : ¬ (19 : Int32) = 16) (k_20 : ¬ (19 : Int32) = 17) (k_21 : ¬ (19 : Int32) = 18) : 0 = ((bgX nu a ce lo (16 - dp) (19 : Int32) (z, ft)).1) := by
  first
  | omega
  | (rw [show 16 - dp = 0 by omega]; rfl)
  | (rw [show 16 - dp = (16 - (dp + 1)) + 1 by omega]; simp only [bgX]; grind)
theorem lf_X1_begin_s_21 {z : Nat} {a : Nat} {nu : Int32} {ce : Int32} {lo : Int32} {ft : Nat → Int32} {dp : Nat} {zn_2 : Nat} {ftn_2 : Nat → Int32} (hz : z ≤ 16) (ha1 : 1 ≤ a) (ha5 : a ≤ 5) (hdn : dp ≤ 16) (c_1 : dp < 16) (hF_2_0 : zn_2 ≤ 16) (hF_2_1 : lvX (20 : Int32) (z, ft) = (zn_2, ftn_2)) (k_4 : ¬ (20 : Int32) = 10) (k_5 : ¬ (20 : Int32) = 11) (k_9 : ¬ (20 : Int32) = 12) (k_12 : ¬ (20 : Int32) = 13) (k_15 : ¬ (20 : Int32) = 14) (k_18 : ¬ (20 : Int32) = 15) (k_19 : ¬ (20 : Int32) = 16) (k_20 : ¬ (20 : Int32) = 17) (k_21 : ¬ (20 : Int32) = 18) (k_22 : ¬ (20 : Int32) = 19) : (bgX nu a ce lo (16 - dp) (20 : Int32) (z, ft)).2 = (zn_2, ftn_2) := by
  first
  | omega
  | (rw [show 16 - dp = 0 by omega]; rfl)
  | (rw [show 16 - dp = (16 - (dp + 1)) + 1 by omega]; simp only [bgX]; grind)
theorem lf_X1_begin_s_22 {z : Nat} {a : Nat} {nu : Int32} {ce : Int32} {lo : Int32} {ft : Nat → Int32} {dp : Nat} {zn_2 : Nat} {ftn_2 : Nat → Int32} (hz : z ≤ 16) (ha1 : 1 ≤ a) (ha5 : a ≤ 5) (hdn : dp ≤ 16) (c_1 : dp < 16) (hF_2_0 : zn_2 ≤ 16) (hF_2_1 : lvX (20 : Int32) (z, ft) = (zn_2, ftn_2)) (k_4 : ¬ (20 : Int32) = 10) (k_5 : ¬ (20 : Int32) = 11) (k_9 : ¬ (20 : Int32) = 12) (k_12 : ¬ (20 : Int32) = 13) (k_15 : ¬ (20 : Int32) = 14) (k_18 : ¬ (20 : Int32) = 15) (k_19 : ¬ (20 : Int32) = 16) (k_20 : ¬ (20 : Int32) = 17) (k_21 : ¬ (20 : Int32) = 18) (k_22 : ¬ (20 : Int32) = 19) : nu = ((bgX nu a ce lo (16 - dp) (20 : Int32) (z, ft)).1) := by
  first
  | omega
  | (rw [show 16 - dp = 0 by omega]; rfl)
  | (rw [show 16 - dp = (16 - (dp + 1)) + 1 by omega]; simp only [bgX]; grind)
theorem lf_X1_begin_s_23 {z : Nat} {a : Nat} {nu : Int32} {ce : Int32} {lo : Int32} {ft : Nat → Int32} {dp : Nat} {zn_2 : Nat} {ftn_2 : Nat → Int32} {zn_25 : Nat} {ftn_25 : Nat → Int32} {r_25 : Int32} {v_26 : Int32} (hz : z ≤ 16) (ha1 : 1 ≤ a) (ha5 : a ≤ 5) (hdn : dp ≤ 16) (c_1 : dp < 16) (hF_2_0 : zn_2 ≤ 16) (hF_2_1 : lvX (21 : Int32) (z, ft) = (zn_2, ftn_2)) (k_4 : ¬ (21 : Int32) = 10) (k_5 : ¬ (21 : Int32) = 11) (k_9 : ¬ (21 : Int32) = 12) (k_12 : ¬ (21 : Int32) = 13) (k_15 : ¬ (21 : Int32) = 14) (k_18 : ¬ (21 : Int32) = 15) (k_19 : ¬ (21 : Int32) = 16) (k_20 : ¬ (21 : Int32) = 17) (k_21 : ¬ (21 : Int32) = 18) (k_22 : ¬ (21 : Int32) = 19) (k_23 : ¬ (21 : Int32) = 20) (hF_25_0 : zn_25 ≤ 16) (hF_25_1 : (bgX nu a ce lo (16 - (dp + 1)) 20 (zn_2, ftn_2)).2 = (zn_25, ftn_25)) (h_25 : r_25 = ((bgX nu a ce lo (16 - (dp + 1)) 20 (zn_2, ftn_2)).1)) (e_26 : v_26 = (r_25 + ce)) : (bgX nu a ce lo (16 - dp) (21 : Int32) (z, ft)).2 = (zn_25, ftn_25) := by
  first
  | omega
  | (rw [show 16 - dp = 0 by omega]; rfl)
  | (rw [show 16 - dp = (16 - (dp + 1)) + 1 by omega]; simp only [bgX]; grind)
theorem lf_X1_begin_s_24 {z : Nat} {a : Nat} {nu : Int32} {ce : Int32} {lo : Int32} {ft : Nat → Int32} {dp : Nat} {zn_2 : Nat} {ftn_2 : Nat → Int32} {zn_25 : Nat} {ftn_25 : Nat → Int32} {r_25 : Int32} {v_26 : Int32} (hz : z ≤ 16) (ha1 : 1 ≤ a) (ha5 : a ≤ 5) (hdn : dp ≤ 16) (c_1 : dp < 16) (hF_2_0 : zn_2 ≤ 16) (hF_2_1 : lvX (21 : Int32) (z, ft) = (zn_2, ftn_2)) (k_4 : ¬ (21 : Int32) = 10) (k_5 : ¬ (21 : Int32) = 11) (k_9 : ¬ (21 : Int32) = 12) (k_12 : ¬ (21 : Int32) = 13) (k_15 : ¬ (21 : Int32) = 14) (k_18 : ¬ (21 : Int32) = 15) (k_19 : ¬ (21 : Int32) = 16) (k_20 : ¬ (21 : Int32) = 17) (k_21 : ¬ (21 : Int32) = 18) (k_22 : ¬ (21 : Int32) = 19) (k_23 : ¬ (21 : Int32) = 20) (hF_25_0 : zn_25 ≤ 16) (hF_25_1 : (bgX nu a ce lo (16 - (dp + 1)) 20 (zn_2, ftn_2)).2 = (zn_25, ftn_25)) (h_25 : r_25 = ((bgX nu a ce lo (16 - (dp + 1)) 20 (zn_2, ftn_2)).1)) (e_26 : v_26 = (r_25 + ce)) : v_26 = ((bgX nu a ce lo (16 - dp) (21 : Int32) (z, ft)).1) := by
  first
  | omega
  | (rw [show 16 - dp = 0 by omega]; rfl)
  | (rw [show 16 - dp = (16 - (dp + 1)) + 1 by omega]; simp only [bgX]; grind)
theorem lf_X1_begin_s_25 {z : Nat} {a : Nat} {nu : Int32} {ce : Int32} {lo : Int32} {ft : Nat → Int32} {dp : Nat} {zn_2 : Nat} {ftn_2 : Nat → Int32} {zn_28 : Nat} {ftn_28 : Nat → Int32} {r_28 : Int32} {v_29 : Int32} (hz : z ≤ 16) (ha1 : 1 ≤ a) (ha5 : a ≤ 5) (hdn : dp ≤ 16) (c_1 : dp < 16) (hF_2_0 : zn_2 ≤ 16) (hF_2_1 : lvX (22 : Int32) (z, ft) = (zn_2, ftn_2)) (k_4 : ¬ (22 : Int32) = 10) (k_5 : ¬ (22 : Int32) = 11) (k_9 : ¬ (22 : Int32) = 12) (k_12 : ¬ (22 : Int32) = 13) (k_15 : ¬ (22 : Int32) = 14) (k_18 : ¬ (22 : Int32) = 15) (k_19 : ¬ (22 : Int32) = 16) (k_20 : ¬ (22 : Int32) = 17) (k_21 : ¬ (22 : Int32) = 18) (k_22 : ¬ (22 : Int32) = 19) (k_23 : ¬ (22 : Int32) = 20) (k_24 : ¬ (22 : Int32) = 21) (hF_28_0 : zn_28 ≤ 16) (hF_28_1 : (bgX nu a ce lo (16 - (dp + 1)) 21 (zn_2, ftn_2)).2 = (zn_28, ftn_28)) (h_28 : r_28 = ((bgX nu a ce lo (16 - (dp + 1)) 21 (zn_2, ftn_2)).1)) (e_29 : v_29 = (r_28 - 1000)) : (bgX nu a ce lo (16 - dp) (22 : Int32) (z, ft)).2 = (zn_28, ftn_28) := by
  first
  | omega
  | (rw [show 16 - dp = 0 by omega]; rfl)
  | (rw [show 16 - dp = (16 - (dp + 1)) + 1 by omega]; simp only [bgX]; grind)
theorem lf_X1_begin_s_26 {z : Nat} {a : Nat} {nu : Int32} {ce : Int32} {lo : Int32} {ft : Nat → Int32} {dp : Nat} {zn_2 : Nat} {ftn_2 : Nat → Int32} {zn_28 : Nat} {ftn_28 : Nat → Int32} {r_28 : Int32} {v_29 : Int32} (hz : z ≤ 16) (ha1 : 1 ≤ a) (ha5 : a ≤ 5) (hdn : dp ≤ 16) (c_1 : dp < 16) (hF_2_0 : zn_2 ≤ 16) (hF_2_1 : lvX (22 : Int32) (z, ft) = (zn_2, ftn_2)) (k_4 : ¬ (22 : Int32) = 10) (k_5 : ¬ (22 : Int32) = 11) (k_9 : ¬ (22 : Int32) = 12) (k_12 : ¬ (22 : Int32) = 13) (k_15 : ¬ (22 : Int32) = 14) (k_18 : ¬ (22 : Int32) = 15) (k_19 : ¬ (22 : Int32) = 16) (k_20 : ¬ (22 : Int32) = 17) (k_21 : ¬ (22 : Int32) = 18) (k_22 : ¬ (22 : Int32) = 19) (k_23 : ¬ (22 : Int32) = 20) (k_24 : ¬ (22 : Int32) = 21) (hF_28_0 : zn_28 ≤ 16) (hF_28_1 : (bgX nu a ce lo (16 - (dp + 1)) 21 (zn_2, ftn_2)).2 = (zn_28, ftn_28)) (h_28 : r_28 = ((bgX nu a ce lo (16 - (dp + 1)) 21 (zn_2, ftn_2)).1)) (e_29 : v_29 = (r_28 - 1000)) : v_29 = ((bgX nu a ce lo (16 - dp) (22 : Int32) (z, ft)).1) := by
  first
  | omega
  | (rw [show 16 - dp = 0 by omega]; rfl)
  | (rw [show 16 - dp = (16 - (dp + 1)) + 1 by omega]; simp only [bgX]; grind)
theorem lf_X1_begin_s_27 {z : Nat} {a : Nat} {nu : Int32} {ce : Int32} {lo : Int32} {ft : Nat → Int32} {dp : Nat} {zn_2 : Nat} {ftn_2 : Nat → Int32} {zn_31 : Nat} {ftn_31 : Nat → Int32} {r_31 : Int32} {zn_32 : Nat} {ftn_32 : Nat → Int32} {r_32 : Int32} {v_33 : Int32} (hz : z ≤ 16) (ha1 : 1 ≤ a) (ha5 : a ≤ 5) (hdn : dp ≤ 16) (c_1 : dp < 16) (hF_2_0 : zn_2 ≤ 16) (hF_2_1 : lvX (23 : Int32) (z, ft) = (zn_2, ftn_2)) (k_4 : ¬ (23 : Int32) = 10) (k_5 : ¬ (23 : Int32) = 11) (k_9 : ¬ (23 : Int32) = 12) (k_12 : ¬ (23 : Int32) = 13) (k_15 : ¬ (23 : Int32) = 14) (k_18 : ¬ (23 : Int32) = 15) (k_19 : ¬ (23 : Int32) = 16) (k_20 : ¬ (23 : Int32) = 17) (k_21 : ¬ (23 : Int32) = 18) (k_22 : ¬ (23 : Int32) = 19) (k_23 : ¬ (23 : Int32) = 20) (k_24 : ¬ (23 : Int32) = 21) (k_27 : ¬ (23 : Int32) = 22) (hF_31_0 : zn_31 ≤ 16) (hF_31_1 : (bgX nu a ce lo (16 - (dp + 1)) 20 (zn_2, ftn_2)).2 = (zn_31, ftn_31)) (h_31 : r_31 = ((bgX nu a ce lo (16 - (dp + 1)) 20 (zn_2, ftn_2)).1)) (hF_32_0 : zn_32 ≤ 16) (hF_32_1 : (bgX nu a ce lo (16 - (dp + 1)) (bfX a 0) (zn_31, ftn_31)).2 = (zn_32, ftn_32)) (h_32 : r_32 = ((bgX nu a ce lo (16 - (dp + 1)) (bfX a 0) (zn_31, ftn_31)).1)) (e_33 : v_33 = (r_31 - r_32)) : (bgX nu a ce lo (16 - dp) (23 : Int32) (z, ft)).2 = (zn_32, ftn_32) := by
  first
  | omega
  | (rw [show 16 - dp = 0 by omega]; rfl)
  | (rw [show 16 - dp = (16 - (dp + 1)) + 1 by omega]; simp only [bgX]; grind)
theorem lf_X1_begin_s_28 {z : Nat} {a : Nat} {nu : Int32} {ce : Int32} {lo : Int32} {ft : Nat → Int32} {dp : Nat} {zn_2 : Nat} {ftn_2 : Nat → Int32} {zn_31 : Nat} {ftn_31 : Nat → Int32} {r_31 : Int32} {zn_32 : Nat} {ftn_32 : Nat → Int32} {r_32 : Int32} {v_33 : Int32} (hz : z ≤ 16) (ha1 : 1 ≤ a) (ha5 : a ≤ 5) (hdn : dp ≤ 16) (c_1 : dp < 16) (hF_2_0 : zn_2 ≤ 16) (hF_2_1 : lvX (23 : Int32) (z, ft) = (zn_2, ftn_2)) (k_4 : ¬ (23 : Int32) = 10) (k_5 : ¬ (23 : Int32) = 11) (k_9 : ¬ (23 : Int32) = 12) (k_12 : ¬ (23 : Int32) = 13) (k_15 : ¬ (23 : Int32) = 14) (k_18 : ¬ (23 : Int32) = 15) (k_19 : ¬ (23 : Int32) = 16) (k_20 : ¬ (23 : Int32) = 17) (k_21 : ¬ (23 : Int32) = 18) (k_22 : ¬ (23 : Int32) = 19) (k_23 : ¬ (23 : Int32) = 20) (k_24 : ¬ (23 : Int32) = 21) (k_27 : ¬ (23 : Int32) = 22) (hF_31_0 : zn_31 ≤ 16) (hF_31_1 : (bgX nu a ce lo (16 - (dp + 1)) 20 (zn_2, ftn_2)).2 = (zn_31, ftn_31)) (h_31 : r_31 = ((bgX nu a ce lo (16 - (dp + 1)) 20 (zn_2, ftn_2)).1)) (hF_32_0 : zn_32 ≤ 16) (hF_32_1 : (bgX nu a ce lo (16 - (dp + 1)) (bfX a 0) (zn_31, ftn_31)).2 = (zn_32, ftn_32)) (h_32 : r_32 = ((bgX nu a ce lo (16 - (dp + 1)) (bfX a 0) (zn_31, ftn_31)).1)) (e_33 : v_33 = (r_31 - r_32)) : v_33 = ((bgX nu a ce lo (16 - dp) (23 : Int32) (z, ft)).1) := by
  first
  | omega
  | (rw [show 16 - dp = 0 by omega]; rfl)
  | (rw [show 16 - dp = (16 - (dp + 1)) + 1 by omega]; simp only [bgX]; grind)
theorem lf_X1_begin_s_29 {z : Nat} {a : Nat} {nu : Int32} {ce : Int32} {lo : Int32} {ft : Nat → Int32} {dp : Nat} {zn_2 : Nat} {ftn_2 : Nat → Int32} {zn_35 : Nat} {ftn_35 : Nat → Int32} {r_35 : Int32} {v_36 : Int32} (hz : z ≤ 16) (ha1 : 1 ≤ a) (ha5 : a ≤ 5) (hdn : dp ≤ 16) (c_1 : dp < 16) (hF_2_0 : zn_2 ≤ 16) (hF_2_1 : lvX (24 : Int32) (z, ft) = (zn_2, ftn_2)) (k_4 : ¬ (24 : Int32) = 10) (k_5 : ¬ (24 : Int32) = 11) (k_9 : ¬ (24 : Int32) = 12) (k_12 : ¬ (24 : Int32) = 13) (k_15 : ¬ (24 : Int32) = 14) (k_18 : ¬ (24 : Int32) = 15) (k_19 : ¬ (24 : Int32) = 16) (k_20 : ¬ (24 : Int32) = 17) (k_21 : ¬ (24 : Int32) = 18) (k_22 : ¬ (24 : Int32) = 19) (k_23 : ¬ (24 : Int32) = 20) (k_24 : ¬ (24 : Int32) = 21) (k_27 : ¬ (24 : Int32) = 22) (k_30 : ¬ (24 : Int32) = 23) (hF_35_0 : zn_35 ≤ 16) (hF_35_1 : (bgX nu a ce lo (16 - (dp + 1)) 21 (zn_2, ftn_2)).2 = (zn_35, ftn_35)) (h_35 : r_35 = ((bgX nu a ce lo (16 - (dp + 1)) 21 (zn_2, ftn_2)).1)) (e_36 : v_36 = (r_35 * 2)) : (bgX nu a ce lo (16 - dp) (24 : Int32) (z, ft)).2 = (zn_35, ftn_35) := by
  first
  | omega
  | (rw [show 16 - dp = 0 by omega]; rfl)
  | (rw [show 16 - dp = (16 - (dp + 1)) + 1 by omega]; simp only [bgX]; grind)
theorem lf_X1_begin_s_30 {z : Nat} {a : Nat} {nu : Int32} {ce : Int32} {lo : Int32} {ft : Nat → Int32} {dp : Nat} {zn_2 : Nat} {ftn_2 : Nat → Int32} {zn_35 : Nat} {ftn_35 : Nat → Int32} {r_35 : Int32} {v_36 : Int32} (hz : z ≤ 16) (ha1 : 1 ≤ a) (ha5 : a ≤ 5) (hdn : dp ≤ 16) (c_1 : dp < 16) (hF_2_0 : zn_2 ≤ 16) (hF_2_1 : lvX (24 : Int32) (z, ft) = (zn_2, ftn_2)) (k_4 : ¬ (24 : Int32) = 10) (k_5 : ¬ (24 : Int32) = 11) (k_9 : ¬ (24 : Int32) = 12) (k_12 : ¬ (24 : Int32) = 13) (k_15 : ¬ (24 : Int32) = 14) (k_18 : ¬ (24 : Int32) = 15) (k_19 : ¬ (24 : Int32) = 16) (k_20 : ¬ (24 : Int32) = 17) (k_21 : ¬ (24 : Int32) = 18) (k_22 : ¬ (24 : Int32) = 19) (k_23 : ¬ (24 : Int32) = 20) (k_24 : ¬ (24 : Int32) = 21) (k_27 : ¬ (24 : Int32) = 22) (k_30 : ¬ (24 : Int32) = 23) (hF_35_0 : zn_35 ≤ 16) (hF_35_1 : (bgX nu a ce lo (16 - (dp + 1)) 21 (zn_2, ftn_2)).2 = (zn_35, ftn_35)) (h_35 : r_35 = ((bgX nu a ce lo (16 - (dp + 1)) 21 (zn_2, ftn_2)).1)) (e_36 : v_36 = (r_35 * 2)) : v_36 = ((bgX nu a ce lo (16 - dp) (24 : Int32) (z, ft)).1) := by
  first
  | omega
  | (rw [show 16 - dp = 0 by omega]; rfl)
  | (rw [show 16 - dp = (16 - (dp + 1)) + 1 by omega]; simp only [bgX]; grind)
theorem lf_X1_begin_s_31 {z : Nat} {a : Nat} {nu : Int32} {ce : Int32} {lo : Int32} {ft : Nat → Int32} {dp : Nat} {x : Int32} {zn_2 : Nat} {ftn_2 : Nat → Int32} (hz : z ≤ 16) (ha1 : 1 ≤ a) (ha5 : a ≤ 5) (hdn : dp ≤ 16) (c_1 : dp < 16) (hF_2_0 : zn_2 ≤ 16) (hF_2_1 : lvX x (z, ft) = (zn_2, ftn_2)) (k_4 : ¬ x = 10) (k_5 : ¬ x = 11) (k_9 : ¬ x = 12) (k_12 : ¬ x = 13) (k_15 : ¬ x = 14) (k_18 : ¬ x = 15) (k_19 : ¬ x = 16) (k_20 : ¬ x = 17) (k_21 : ¬ x = 18) (k_22 : ¬ x = 19) (k_23 : ¬ x = 20) (k_24 : ¬ x = 21) (k_27 : ¬ x = 22) (k_30 : ¬ x = 23) (k_34 : ¬ x = 24) : (bgX nu a ce lo (16 - dp) x (z, ft)).2 = (zn_2, ftn_2) := by
  first
  | omega
  | (rw [show 16 - dp = 0 by omega]; rfl)
  | (rw [show 16 - dp = (16 - (dp + 1)) + 1 by omega]; simp only [bgX]; grind)
theorem lf_X1_begin_s_32 {z : Nat} {a : Nat} {nu : Int32} {ce : Int32} {lo : Int32} {ft : Nat → Int32} {dp : Nat} {x : Int32} {zn_2 : Nat} {ftn_2 : Nat → Int32} (hz : z ≤ 16) (ha1 : 1 ≤ a) (ha5 : a ≤ 5) (hdn : dp ≤ 16) (c_1 : dp < 16) (hF_2_0 : zn_2 ≤ 16) (hF_2_1 : lvX x (z, ft) = (zn_2, ftn_2)) (k_4 : ¬ x = 10) (k_5 : ¬ x = 11) (k_9 : ¬ x = 12) (k_12 : ¬ x = 13) (k_15 : ¬ x = 14) (k_18 : ¬ x = 15) (k_19 : ¬ x = 16) (k_20 : ¬ x = 17) (k_21 : ¬ x = 18) (k_22 : ¬ x = 19) (k_23 : ¬ x = 20) (k_24 : ¬ x = 21) (k_27 : ¬ x = 22) (k_30 : ¬ x = 23) (k_34 : ¬ x = 24) : 0 = ((bgX nu a ce lo (16 - dp) x (z, ft)).1) := by
  first
  | omega
  | (rw [show 16 - dp = 0 by omega]; rfl)
  | (rw [show 16 - dp = (16 - (dp + 1)) + 1 by omega]; simp only [bgX]; grind)
theorem lf_X1_begin_s_33 {z : Nat} {a : Nat} {nu : Int32} {ce : Int32} {lo : Int32} {ft : Nat → Int32} {dp : Nat} {x : Int32} (hz : z ≤ 16) (ha1 : 1 ≤ a) (ha5 : a ≤ 5) (hdn : dp ≤ 16) (c_1 : ¬ (dp < 16)) : (bgX nu a ce lo (16 - dp) x (z, ft)).2 = (z, ft) := by
  first
  | omega
  | (rw [show 16 - dp = 0 by omega]; rfl)
  | (rw [show 16 - dp = (16 - (dp + 1)) + 1 by omega]; simp only [bgX]; grind)
theorem lf_X1_begin_s_34 {z : Nat} {a : Nat} {nu : Int32} {ce : Int32} {lo : Int32} {ft : Nat → Int32} {dp : Nat} {x : Int32} (hz : z ≤ 16) (ha1 : 1 ≤ a) (ha5 : a ≤ 5) (hdn : dp ≤ 16) (c_1 : ¬ (dp < 16)) : 0 = ((bgX nu a ce lo (16 - dp) x (z, ft)).1) := by
  first
  | omega
  | (rw [show 16 - dp = 0 by omega]; rfl)
  | (rw [show 16 - dp = (16 - (dp + 1)) + 1 by omega]; simp only [bgX]; grind)
set_option maxHeartbeats 4000000 in
set_option maxRecDepth 100000 in
theorem r_X1_begin_s (l : Launch) (dC : Nat → ClassId) (dI : Nat → Nat → Nat) (cI cZ cL cJ : ClassId) (sz : Nat) (k9 : Nat) (tc : Nat) (z : Nat) (a : Nat) (nu : Int32) (ce : Int32) (lo : Int32) (ft : Nat → Int32) (dp : Nat) (x : Int32) (hz : z ≤ 16) (ha1 : 1 ≤ a) (ha5 : a ≤ 5) (hdn : dp ≤ 16) (IHb : ∀ (l : Launch) (dC : Nat → ClassId) (dI : Nat → Nat → Nat) (cI cZ cL cJ : ClassId) (sz : Nat) (k9 : Nat) (tc : Nat) (z : Nat) (a : Nat) (nu : Int32) (ce : Int32) (lo : Int32) (ft : Nat → Int32) (x : Int32) (hz : z ≤ 16) (ha1 : 1 ≤ a) (ha5 : a ≤ 5) (hdn : (dp + 1) ≤ 16), Met l yX1_begin wsX1_begin ({ frames := 40 - 2 * (dp + 1), cells := 0, slots := 0, locals := 4000 - 100 * (dp + 1) }) (va_Pc [.ref k9, .int x, .int (nI (dp + 1))] (fun U => U.heap.size = sz ∧ va_P (dC, dI) vwCl [(xo_1_riiiii k9 tc (nI z) nu (nI a) ce lo), (xI tc cI 16 ft)] U.heap ∧ va_K (dC, dI) vwCl [(cI, .int), (cZ, .boolean), (cL, .object RX3), (cJ, .array .int)] U ∧ va_D (fun _ => True) [(xo_1_riiiii k9 tc (nI z) nu (nI a) ce lo), (xI tc cI 16 ft)] ∧ stt (va_A [(xo_1_riiiii k9 tc (nI z) nu (nI a) ce lo), (xI tc cI 16 ft)] sz) U U.heap)) (va_Qi (fun r (_ : Unit) => r = ((bgX nu a ce lo (16 - (dp + 1)) x (z, ft)).1)) (fun (_ : Unit) t => ∃ (zn : Nat) (ftn : Nat → Int32), va_P (dC, dI) vwCl [(xo_1_riiiii k9 tc (nI zn) nu (nI a) ce lo), (xI tc cI 16 ftn)] t.heap ∧ va_D (va_A [(xo_1_riiiii k9 tc (nI z) nu (nI a) ce lo), (xI tc cI 16 ft)] sz) [(xo_1_riiiii k9 tc (nI zn) nu (nI a) ce lo), (xI tc cI 16 ftn)] ∧ zn ≤ 16 ∧ (bgX nu a ce lo (16 - (dp + 1)) x (z, ft)).2 = (zn, ftn)) (va_A [(xo_1_riiiii k9 tc (nI z) nu (nI a) ce lo), (xI tc cI 16 ft)] sz)) 0 0 (va_A [(xo_1_riiiii k9 tc (nI z) nu (nI a) ce lo), (xI tc cI 16 ft)] sz)) (IHa : ∀ (l : Launch) (dC : Nat → ClassId) (dI : Nat → Nat → Nat) (cI cZ cL cJ : ClassId) (sz : Nat) (k9 : Nat) (tc : Nat) (z : Nat) (a : Nat) (nu : Int32) (ce : Int32) (lo : Int32) (ft : Nat → Int32) (x : Int32) (hz : z ≤ 16) (ha1 : 1 ≤ a) (ha5 : a ≤ 5) (hdn : (dp + 1) ≤ 16) (hx01 : x = 0 ∨ x = 1), Met l yX1_askAnew wsX1_askAnew ({ frames := 41 - 2 * (dp + 1), cells := 0, slots := 0, locals := 4050 - 100 * (dp + 1) }) (va_Pc [.ref k9, .int x, .int (nI (dp + 1))] (fun U => U.heap.size = sz ∧ va_P (dC, dI) vwCl [(xo_1_riiiii k9 tc (nI z) nu (nI a) ce lo), (xI tc cI 16 ft)] U.heap ∧ va_K (dC, dI) vwCl [(cI, .int), (cZ, .boolean), (cL, .object RX3), (cJ, .array .int)] U ∧ va_D (fun _ => True) [(xo_1_riiiii k9 tc (nI z) nu (nI a) ce lo), (xI tc cI 16 ft)] ∧ stt (va_A [(xo_1_riiiii k9 tc (nI z) nu (nI a) ce lo), (xI tc cI 16 ft)] sz) U U.heap)) (va_Qi (fun r (_ : Unit) => r = ((bgX nu a ce lo (16 - (dp + 1)) (bfX a x) (z, ft)).1)) (fun (_ : Unit) t => ∃ (zn : Nat) (ftn : Nat → Int32), va_P (dC, dI) vwCl [(xo_1_riiiii k9 tc (nI zn) nu (nI a) ce lo), (xI tc cI 16 ftn)] t.heap ∧ va_D (va_A [(xo_1_riiiii k9 tc (nI z) nu (nI a) ce lo), (xI tc cI 16 ft)] sz) [(xo_1_riiiii k9 tc (nI zn) nu (nI a) ce lo), (xI tc cI 16 ftn)] ∧ zn ≤ 16 ∧ (bgX nu a ce lo (16 - (dp + 1)) (bfX a x) (z, ft)).2 = (zn, ftn)) (va_A [(xo_1_riiiii k9 tc (nI z) nu (nI a) ce lo), (xI tc cI 16 ft)] sz)) 0 0 (va_A [(xo_1_riiiii k9 tc (nI z) nu (nI a) ce lo), (xI tc cI 16 ft)] sz)) : Met l yX1_begin wsX1_begin ({ frames := 40 - 2 * dp, cells := 0, slots := 0, locals := 4000 - 100 * dp }) (va_Pc [.ref k9, .int x, .int (nI dp)] (fun U => U.heap.size = sz ∧ va_P (dC, dI) vwCl [(xo_1_riiiii k9 tc (nI z) nu (nI a) ce lo), (xI tc cI 16 ft)] U.heap ∧ va_K (dC, dI) vwCl [(cI, .int), (cZ, .boolean), (cL, .object RX3), (cJ, .array .int)] U ∧ va_D (fun _ => True) [(xo_1_riiiii k9 tc (nI z) nu (nI a) ce lo), (xI tc cI 16 ft)] ∧ stt (va_A [(xo_1_riiiii k9 tc (nI z) nu (nI a) ce lo), (xI tc cI 16 ft)] sz) U U.heap)) (va_Qi (fun r (_ : Unit) => r = ((bgX nu a ce lo (16 - dp) x (z, ft)).1)) (fun (_ : Unit) t => ∃ (zn : Nat) (ftn : Nat → Int32), va_P (dC, dI) vwCl [(xo_1_riiiii k9 tc (nI zn) nu (nI a) ce lo), (xI tc cI 16 ftn)] t.heap ∧ va_D (va_A [(xo_1_riiiii k9 tc (nI z) nu (nI a) ce lo), (xI tc cI 16 ft)] sz) [(xo_1_riiiii k9 tc (nI zn) nu (nI a) ce lo), (xI tc cI 16 ftn)] ∧ zn ≤ 16 ∧ (bgX nu a ce lo (16 - dp) x (z, ft)).2 = (zn, ftn)) (va_A [(xo_1_riiiii k9 tc (nI z) nu (nI a) ce lo), (xI tc cI 16 ft)] sz)) 0 0 (va_A [(xo_1_riiiii k9 tc (nI z) nu (nI a) ce lo), (xI tc cI 16 ft)] sz) := by
  refine Met.ofW (cc := cX1_begin) (maxL := 4) (ret := (some .int)) (by decide) rfl ?_
  intro p e s m args below meth c s₁ B hml hv
  obtain ⟨rfl, hsz, hP, hK, hD0, hst⟩ := hv
  have hx := B.exec
  have hb := B.bytes
  have hr := B.returns
  have hts := atoms_spec (ws := wsX1_begin) B.pre
  have hown : s.vm.findClass RX1 = some m.cls := findClass_of_methodNamed B.named
  have hlocks := B.notSynchronized
  subst hsz
  have hD := hD0.self (sz := s.heap.size)
  generalize hAe : va_A [(xo_1_riiiii k9 tc (nI z) nu (nI a) ce lo), (xI tc cI 16 ft)] s.heap.size = A at hD hst ⊢
  have hA : ∀ q : Nat, s.heap.size ≤ q → A q := fun q h => by rw [← hAe]; exact Or.inr h
  have hS : va_S A s.heap s.heap [] := va_S.rf
  have hP : va_P (dC, dI) vwCl [(xo_1_riiiii k9 tc (nI z) nu (nI a) ce lo), (xI tc cI 16 ft)] s.heap := hP
  obtain ⟨⟨tb1, hZ1, hT1⟩, ⟨tb2, hZ2, hT2⟩, ⟨tb3, hZ3, hT3⟩, hNk⟩ := id hst
  have hl := lv_entry ([.ref k9, .int x, .int (nI dp)]) (n := 4) (Nat.le_of_ble_eq_true rfl)
  rw [lg_entry_eq]
  generalize (lg_sl ([.ref k9, .int x, .int (nI dp)]) ++ List.replicate (4 - (lg_sl ([.ref k9, .int x, .int (nI dp)])).length) Slot.unset).toArray = ls at hl ⊢
  have hl : lv_has ls 4 [(0, .ref k9), (1, .int x), (2, .int (nI dp))] := hl
  refine lv_iload_n hx hb dX1_begin_0 rfl (lv_at hl 2 rfl) ?_
  refine lv_bipush (v := 16) hx hb dX1_begin_1 (by decide) ?_
  refine lv_icmp_lt (tgt := 8) hx hb dX1_begin_3 (by decide) (fun c_1 => ?_) (fun c_1 => ?_)
  · have c_1 : dp < 16 := (nI_ltI (a := dp) (b := 16) (by omega) (by omega)).mp c_1
    refine lv_aload_n hx hb dX1_begin_8 rfl (lv_at hl 0 rfl) ?_
    refine lv_iload_n hx hb dX1_begin_9 rfl (lv_at hl 1 rfl) ?_
    have hc_2 := cutW (wc := [(xo_1_riiiii k9 tc (nI z) nu (nI a) ce lo), (xI tc cI 16 ft)]) hP hD hS hA [0, 1] (by decide +kernel) rfl
    refine va_callv (va_runV (As := [.int x]) (rest := []) ⟨hx, hb, hml, hown, hts⟩ (r_X1_leave l dC dI cI cZ cL cJ s.heap.size k9 tc z nu (nI a) ce lo ft x (by omega)) (cwV 1 hts gX1_begin_X1_leave rfl rfl rfl (by decide +kernel) ⟨by show 0 + 1 ≤ 40 - 2 * dp; omega, by show 8 + (2 + 11) + 0 ≤ 4000 - 100 * dp; omega⟩) (pvW 1 0 hK hP rfl rfl hc_2) rfl rfl hl.1 rfl (lv_room (Nat.le_of_ble_eq_true rfl)) dX1_begin_10 ⟨Nat.le_of_ble_eq_true rfl, Nat.le_of_ble_eq_true rfl⟩) hS (fun q _ h => hc_2.2.2 q h) hc_2.2.2 (fun u_2 t_2 H1 locs ht hvm h_2 hB hz1 hk1 hS => ?_)
    refine xl_2_4 hB (fun zn_2 ftn_2 hP1 hD1 hF_2_0 hF_2_1 => ?_)
    clear hB
    rw [ht] at hP1
    obtain ⟨hP, hD⟩ := va_join (wr := []) (w1 := [(xo_1_riiiii k9 tc (nI zn_2) nu (nI a) ce lo), (xI tc cI 16 ftn_2)]) hP hD [0, 1] [] rfl rfl (by decide +kernel) (by decide +kernel) hk1 hc_2.2.2 hP1 hD1
    generalize H1 = H at hP hS ⊢
    have hP : va_P (dC, dI) vwCl [(xo_1_riiiii k9 tc (nI zn_2) nu (nI a) ce lo), (xI tc cI 16 ftn_2)] H := hP
    have hD := dto hP hD
    refine lv_iload_n hx hb dX1_begin_13 rfl (lv_at hl 2 rfl) ?_
    refine lv_iconst (v := 1) hx hb dX1_begin_14 (by decide) ?_
    refine lv_iadd hx hb dX1_begin_15 ?_
    refine lv_topi (fun v_3 e_3 => ?_)
    obtain rfl : v_3 = (nI (dp + 1)) := (e_3).trans (nI_add dp 1)
    refine lv_istore_n (lv' := [(3, .int (nI (dp + 1))), (0, .ref k9), (1, .int x), (2, .int (nI dp))]) hx hb dX1_begin_16 rfl hl (by decide) rfl (fun ls hl => ?_)
    refine lv_iload_n hx hb dX1_begin_17 rfl (lv_at hl 2 rfl) ?_
    by_cases k_4 : x = 10
    · subst k_4
      refine lv_tableIn (off := 74) (tgt := 92) hx hb dX1_begin_18 (by decide) (by decide) (by decide) (by decide) ?_
      refine lv_aload_n hx hb dX1_begin_92 rfl (lv_at hl 1 rfl) ?_
      refine va_get (D := (dC, dI)) (ci := 1) (v := .int lo) (C := RX1) (T := TX1) (N := 6) hx hb hts i_X1_begin_X1 hown hK hP 0 rfl rfl 5 (by decide) (hts _ mx_X1_begin_1) (fun _ h9 => h9) rfl dX1_begin_93 ?_
      have hX9 := cut2 (wc := [(xo_1_riiiii k9 tc (nI zn_2) nu (nI a) ce lo), (xI tc cI 16 ftn_2)]) hP hD [0, 1] (by decide +kernel) rfl
      exact W.iret (v := lo) hx hb hr (fun t ht hW => ⟨⟨lo, (), rfl, (lf_X1_begin_s_2 hz ha1 ha5 hdn c_1 hF_2_0 hF_2_1), ⟨zn_2, ftn_2, va_Ht ht hX9.1, hX9.2, (by omega), (lf_X1_begin_s_1 hz ha1 ha5 hdn c_1 hF_2_0 hF_2_1)⟩⟩, hS.F ht⟩) hS.2.2 dX1_begin_96
    by_cases k_5 : x = 11
    · subst k_5
      refine lv_tableIn (off := 79) (tgt := 97) hx hb dX1_begin_18 (by decide) (by decide) (by decide) (by decide) ?_
      refine lv_aload_n hx hb dX1_begin_97 rfl (lv_at hl 1 rfl) ?_
      refine lv_bipush (v := 10) hx hb dX1_begin_98 (by decide) ?_
      refine lv_iload_n hx hb dX1_begin_100 rfl (lv_at hl 0 rfl) ?_
      have hc_6 := cutW (wc := [(xo_1_riiiii k9 tc (nI zn_2) nu (nI a) ce lo), (xI tc cI 16 ftn_2)]) hP hD hS hA [0, 1] (by decide +kernel) rfl
      refine va_calli (va_runV (As := [.int 10, .int (nI (dp + 1))]) (rest := []) ⟨hx, hb, hml, hown, hts⟩ (IHb l dC dI cI cZ cL cJ H.size k9 tc zn_2 a nu ce lo ftn_2 10 (by omega) (ha1) (ha5) (by omega)) (cwV 2 hts gX1_begin_X1_begin rfl rfl rfl (by decide +kernel) ⟨by show 40 - 2 * (dp + 1) + 1 ≤ 40 - 2 * dp; omega, by show 8 + (4 + 11) + (4000 - 100 * (dp + 1)) ≤ 4000 - 100 * dp; omega⟩) ⟨fun a U g mk q => by obtain ⟨q0, q1, qP, qK, qD, qS⟩ := q; exact ⟨q0, q1, qP, va_K.moved (u := U) (U := U.calling g mk a) (Vm.Alike.refl U.vm) qK, qD, stt_same rfl qS⟩, va_recv hK hP (ci := 1) (q0 := 0) rfl rfl, fun U hU hW => ⟨rfl, by rw [hU], by rw [hU]; exact hc_6.1, va_K.moved hW.alike hK, hc_6.2.1.weaken (fun _ _ _ _ => trivial), by rw [hU]; exact stt_warm hW (stt_narrow (stt_kept hst hS.2.1) hc_6.2.2)⟩⟩ rfl rfl hl.1 rfl (lv_room (Nat.le_of_ble_eq_true rfl)) dX1_begin_101 ⟨Nat.le_of_ble_eq_true rfl, Nat.le_of_ble_eq_true rfl⟩) hS (fun q _ h => hc_6.2.2 q h) hc_6.2.2 (fun r_6 u_6 t_6 H1 locs ht hvm h_6 hB hz1 hk1 hS => ?_)
      refine xl_2_4 hB (fun zn_6 ftn_6 hP1 hD1 hF_6_0 hF_6_1 => ?_)
      clear hB
      rw [ht] at hP1
      obtain ⟨hP, hD⟩ := va_join (wr := []) (w1 := [(xo_1_riiiii k9 tc (nI zn_6) nu (nI a) ce lo), (xI tc cI 16 ftn_6)]) hP hD [0, 1] [] rfl rfl (by decide +kernel) (by decide +kernel) hk1 hc_6.2.2 hP1 hD1
      generalize H1 = H at hP hS ⊢
      have hP : va_P (dC, dI) vwCl [(xo_1_riiiii k9 tc (nI zn_6) nu (nI a) ce lo), (xI tc cI 16 ftn_6)] H := hP
      have hD := dto hP hD
      refine lv_aload_n hx hb dX1_begin_104 rfl (lv_at hl 1 rfl) ?_
      refine lv_iconst (v := 1) hx hb dX1_begin_105 (by decide) ?_
      refine lv_iload_n hx hb dX1_begin_106 rfl (lv_at hl 0 rfl) ?_
      have hc_7 := cutW (wc := [(xo_1_riiiii k9 tc (nI zn_6) nu (nI a) ce lo), (xI tc cI 16 ftn_6)]) hP hD hS hA [0, 1] (by decide +kernel) rfl
      refine va_calli (va_runV (As := [.int 1, .int (nI (dp + 1))]) (rest := [.int r_6]) ⟨hx, hb, hml, hown, hts⟩ (IHa l dC dI cI cZ cL cJ H.size k9 tc zn_6 a nu ce lo ftn_6 1 (by omega) (ha1) (ha5) (by omega) (by decide)) (cwV 2 hts gX1_begin_X1_askAnew rfl rfl rfl (by decide +kernel) ⟨by show 41 - 2 * (dp + 1) + 1 ≤ 40 - 2 * dp; omega, by show 8 + (3 + 11) + (4050 - 100 * (dp + 1)) ≤ 4000 - 100 * dp; omega⟩) ⟨fun a U g mk q => by obtain ⟨q0, q1, qP, qK, qD, qS⟩ := q; exact ⟨q0, q1, qP, va_K.moved (u := U) (U := U.calling g mk a) (Vm.Alike.refl U.vm) qK, qD, stt_same rfl qS⟩, va_recv hK hP (ci := 1) (q0 := 0) rfl rfl, fun U hU hW => ⟨rfl, by rw [hU], by rw [hU]; exact hc_7.1, va_K.moved hW.alike hK, hc_7.2.1.weaken (fun _ _ _ _ => trivial), by rw [hU]; exact stt_warm hW (stt_narrow (stt_kept hst hS.2.1) hc_7.2.2)⟩⟩ rfl rfl hl.1 rfl (lv_room (Nat.le_of_ble_eq_true rfl)) dX1_begin_107 ⟨Nat.le_of_ble_eq_true rfl, Nat.le_of_ble_eq_true rfl⟩) hS (fun q _ h => hc_7.2.2 q h) hc_7.2.2 (fun r_7 u_7 t_7 H1 locs ht hvm h_7 hB hz1 hk1 hS => ?_)
      refine xl_2_4 hB (fun zn_7 ftn_7 hP1 hD1 hF_7_0 hF_7_1 => ?_)
      clear hB
      rw [ht] at hP1
      obtain ⟨hP, hD⟩ := va_join (wr := []) (w1 := [(xo_1_riiiii k9 tc (nI zn_7) nu (nI a) ce lo), (xI tc cI 16 ftn_7)]) hP hD [0, 1] [] rfl rfl (by decide +kernel) (by decide +kernel) hk1 hc_7.2.2 hP1 hD1
      generalize H1 = H at hP hS ⊢
      have hP : va_P (dC, dI) vwCl [(xo_1_riiiii k9 tc (nI zn_7) nu (nI a) ce lo), (xI tc cI 16 ftn_7)] H := hP
      have hD := dto hP hD
      refine lv_iadd hx hb dX1_begin_110 ?_
      refine lv_topi (fun v_8 e_8 => ?_)
      have hX9 := cut2 (wc := [(xo_1_riiiii k9 tc (nI zn_7) nu (nI a) ce lo), (xI tc cI 16 ftn_7)]) hP hD [0, 1] (by decide +kernel) rfl
      exact W.iret (v := v_8) hx hb hr (fun t ht hW => ⟨⟨v_8, (), rfl, (lf_X1_begin_s_4 hz ha1 ha5 hdn c_1 hF_2_0 hF_2_1 k_4 hF_6_0 hF_6_1 h_6 hF_7_0 hF_7_1 h_7 e_8), ⟨zn_7, ftn_7, va_Ht ht hX9.1, hX9.2, (by omega), (lf_X1_begin_s_3 hz ha1 ha5 hdn c_1 hF_2_0 hF_2_1 k_4 hF_6_0 hF_6_1 h_6 hF_7_0 hF_7_1 h_7 e_8)⟩⟩, hS.F ht⟩) hS.2.2 dX1_begin_111
    by_cases k_9 : x = 12
    · subst k_9
      refine lv_tableIn (off := 94) (tgt := 112) hx hb dX1_begin_18 (by decide) (by decide) (by decide) (by decide) ?_
      refine lv_aload_n hx hb dX1_begin_112 rfl (lv_at hl 1 rfl) ?_
      refine lv_bipush (v := 11) hx hb dX1_begin_113 (by decide) ?_
      refine lv_iload_n hx hb dX1_begin_115 rfl (lv_at hl 0 rfl) ?_
      have hc_10 := cutW (wc := [(xo_1_riiiii k9 tc (nI zn_2) nu (nI a) ce lo), (xI tc cI 16 ftn_2)]) hP hD hS hA [0, 1] (by decide +kernel) rfl
      refine va_calli (va_runV (As := [.int 11, .int (nI (dp + 1))]) (rest := []) ⟨hx, hb, hml, hown, hts⟩ (IHb l dC dI cI cZ cL cJ H.size k9 tc zn_2 a nu ce lo ftn_2 11 (by omega) (ha1) (ha5) (by omega)) (cwV 2 hts gX1_begin_X1_begin rfl rfl rfl (by decide +kernel) ⟨by show 40 - 2 * (dp + 1) + 1 ≤ 40 - 2 * dp; omega, by show 8 + (4 + 11) + (4000 - 100 * (dp + 1)) ≤ 4000 - 100 * dp; omega⟩) ⟨fun a U g mk q => by obtain ⟨q0, q1, qP, qK, qD, qS⟩ := q; exact ⟨q0, q1, qP, va_K.moved (u := U) (U := U.calling g mk a) (Vm.Alike.refl U.vm) qK, qD, stt_same rfl qS⟩, va_recv hK hP (ci := 1) (q0 := 0) rfl rfl, fun U hU hW => ⟨rfl, by rw [hU], by rw [hU]; exact hc_10.1, va_K.moved hW.alike hK, hc_10.2.1.weaken (fun _ _ _ _ => trivial), by rw [hU]; exact stt_warm hW (stt_narrow (stt_kept hst hS.2.1) hc_10.2.2)⟩⟩ rfl rfl hl.1 rfl (lv_room (Nat.le_of_ble_eq_true rfl)) dX1_begin_116 ⟨Nat.le_of_ble_eq_true rfl, Nat.le_of_ble_eq_true rfl⟩) hS (fun q _ h => hc_10.2.2 q h) hc_10.2.2 (fun r_10 u_10 t_10 H1 locs ht hvm h_10 hB hz1 hk1 hS => ?_)
      refine xl_2_4 hB (fun zn_10 ftn_10 hP1 hD1 hF_10_0 hF_10_1 => ?_)
      clear hB
      rw [ht] at hP1
      obtain ⟨hP, hD⟩ := va_join (wr := []) (w1 := [(xo_1_riiiii k9 tc (nI zn_10) nu (nI a) ce lo), (xI tc cI 16 ftn_10)]) hP hD [0, 1] [] rfl rfl (by decide +kernel) (by decide +kernel) hk1 hc_10.2.2 hP1 hD1
      generalize H1 = H at hP hS ⊢
      have hP : va_P (dC, dI) vwCl [(xo_1_riiiii k9 tc (nI zn_10) nu (nI a) ce lo), (xI tc cI 16 ftn_10)] H := hP
      have hD := dto hP hD
      refine lv_ineg hx hb dX1_begin_119 ?_
      refine lv_topi (fun v_11 e_11 => ?_)
      have hX9 := cut2 (wc := [(xo_1_riiiii k9 tc (nI zn_10) nu (nI a) ce lo), (xI tc cI 16 ftn_10)]) hP hD [0, 1] (by decide +kernel) rfl
      exact W.iret (v := v_11) hx hb hr (fun t ht hW => ⟨⟨v_11, (), rfl, (lf_X1_begin_s_6 hz ha1 ha5 hdn c_1 hF_2_0 hF_2_1 k_4 k_5 hF_10_0 hF_10_1 h_10 e_11), ⟨zn_10, ftn_10, va_Ht ht hX9.1, hX9.2, (by omega), (lf_X1_begin_s_5 hz ha1 ha5 hdn c_1 hF_2_0 hF_2_1 k_4 k_5 hF_10_0 hF_10_1 h_10 e_11)⟩⟩, hS.F ht⟩) hS.2.2 dX1_begin_120
    by_cases k_12 : x = 13
    · subst k_12
      refine lv_tableIn (off := 103) (tgt := 121) hx hb dX1_begin_18 (by decide) (by decide) (by decide) (by decide) ?_
      refine lv_aload_n hx hb dX1_begin_121 rfl (lv_at hl 1 rfl) ?_
      refine lv_bipush (v := 10) hx hb dX1_begin_122 (by decide) ?_
      refine lv_iload_n hx hb dX1_begin_124 rfl (lv_at hl 0 rfl) ?_
      have hc_13 := cutW (wc := [(xo_1_riiiii k9 tc (nI zn_2) nu (nI a) ce lo), (xI tc cI 16 ftn_2)]) hP hD hS hA [0, 1] (by decide +kernel) rfl
      refine va_calli (va_runV (As := [.int 10, .int (nI (dp + 1))]) (rest := []) ⟨hx, hb, hml, hown, hts⟩ (IHb l dC dI cI cZ cL cJ H.size k9 tc zn_2 a nu ce lo ftn_2 10 (by omega) (ha1) (ha5) (by omega)) (cwV 2 hts gX1_begin_X1_begin rfl rfl rfl (by decide +kernel) ⟨by show 40 - 2 * (dp + 1) + 1 ≤ 40 - 2 * dp; omega, by show 8 + (4 + 11) + (4000 - 100 * (dp + 1)) ≤ 4000 - 100 * dp; omega⟩) ⟨fun a U g mk q => by obtain ⟨q0, q1, qP, qK, qD, qS⟩ := q; exact ⟨q0, q1, qP, va_K.moved (u := U) (U := U.calling g mk a) (Vm.Alike.refl U.vm) qK, qD, stt_same rfl qS⟩, va_recv hK hP (ci := 1) (q0 := 0) rfl rfl, fun U hU hW => ⟨rfl, by rw [hU], by rw [hU]; exact hc_13.1, va_K.moved hW.alike hK, hc_13.2.1.weaken (fun _ _ _ _ => trivial), by rw [hU]; exact stt_warm hW (stt_narrow (stt_kept hst hS.2.1) hc_13.2.2)⟩⟩ rfl rfl hl.1 rfl (lv_room (Nat.le_of_ble_eq_true rfl)) dX1_begin_125 ⟨Nat.le_of_ble_eq_true rfl, Nat.le_of_ble_eq_true rfl⟩) hS (fun q _ h => hc_13.2.2 q h) hc_13.2.2 (fun r_13 u_13 t_13 H1 locs ht hvm h_13 hB hz1 hk1 hS => ?_)
      refine xl_2_4 hB (fun zn_13 ftn_13 hP1 hD1 hF_13_0 hF_13_1 => ?_)
      clear hB
      rw [ht] at hP1
      obtain ⟨hP, hD⟩ := va_join (wr := []) (w1 := [(xo_1_riiiii k9 tc (nI zn_13) nu (nI a) ce lo), (xI tc cI 16 ftn_13)]) hP hD [0, 1] [] rfl rfl (by decide +kernel) (by decide +kernel) hk1 hc_13.2.2 hP1 hD1
      generalize H1 = H at hP hS ⊢
      have hP : va_P (dC, dI) vwCl [(xo_1_riiiii k9 tc (nI zn_13) nu (nI a) ce lo), (xI tc cI 16 ftn_13)] H := hP
      have hD := dto hP hD
      refine lv_bipush (v := 100) hx hb dX1_begin_128 (by decide) ?_
      refine lv_isub hx hb dX1_begin_130 ?_
      refine lv_topi (fun v_14 e_14 => ?_)
      have hX9 := cut2 (wc := [(xo_1_riiiii k9 tc (nI zn_13) nu (nI a) ce lo), (xI tc cI 16 ftn_13)]) hP hD [0, 1] (by decide +kernel) rfl
      exact W.iret (v := v_14) hx hb hr (fun t ht hW => ⟨⟨v_14, (), rfl, (lf_X1_begin_s_8 hz ha1 ha5 hdn c_1 hF_2_0 hF_2_1 k_4 k_5 k_9 hF_13_0 hF_13_1 h_13 e_14), ⟨zn_13, ftn_13, va_Ht ht hX9.1, hX9.2, (by omega), (lf_X1_begin_s_7 hz ha1 ha5 hdn c_1 hF_2_0 hF_2_1 k_4 k_5 k_9 hF_13_0 hF_13_1 h_13 e_14)⟩⟩, hS.F ht⟩) hS.2.2 dX1_begin_131
    by_cases k_15 : x = 14
    · subst k_15
      refine lv_tableIn (off := 114) (tgt := 132) hx hb dX1_begin_18 (by decide) (by decide) (by decide) (by decide) ?_
      refine lv_aload_n hx hb dX1_begin_132 rfl (lv_at hl 1 rfl) ?_
      refine lv_bipush (v := 13) hx hb dX1_begin_133 (by decide) ?_
      refine lv_iload_n hx hb dX1_begin_135 rfl (lv_at hl 0 rfl) ?_
      have hc_16 := cutW (wc := [(xo_1_riiiii k9 tc (nI zn_2) nu (nI a) ce lo), (xI tc cI 16 ftn_2)]) hP hD hS hA [0, 1] (by decide +kernel) rfl
      refine va_calli (va_runV (As := [.int 13, .int (nI (dp + 1))]) (rest := []) ⟨hx, hb, hml, hown, hts⟩ (IHb l dC dI cI cZ cL cJ H.size k9 tc zn_2 a nu ce lo ftn_2 13 (by omega) (ha1) (ha5) (by omega)) (cwV 2 hts gX1_begin_X1_begin rfl rfl rfl (by decide +kernel) ⟨by show 40 - 2 * (dp + 1) + 1 ≤ 40 - 2 * dp; omega, by show 8 + (4 + 11) + (4000 - 100 * (dp + 1)) ≤ 4000 - 100 * dp; omega⟩) ⟨fun a U g mk q => by obtain ⟨q0, q1, qP, qK, qD, qS⟩ := q; exact ⟨q0, q1, qP, va_K.moved (u := U) (U := U.calling g mk a) (Vm.Alike.refl U.vm) qK, qD, stt_same rfl qS⟩, va_recv hK hP (ci := 1) (q0 := 0) rfl rfl, fun U hU hW => ⟨rfl, by rw [hU], by rw [hU]; exact hc_16.1, va_K.moved hW.alike hK, hc_16.2.1.weaken (fun _ _ _ _ => trivial), by rw [hU]; exact stt_warm hW (stt_narrow (stt_kept hst hS.2.1) hc_16.2.2)⟩⟩ rfl rfl hl.1 rfl (lv_room (Nat.le_of_ble_eq_true rfl)) dX1_begin_136 ⟨Nat.le_of_ble_eq_true rfl, Nat.le_of_ble_eq_true rfl⟩) hS (fun q _ h => hc_16.2.2 q h) hc_16.2.2 (fun r_16 u_16 t_16 H1 locs ht hvm h_16 hB hz1 hk1 hS => ?_)
      refine xl_2_4 hB (fun zn_16 ftn_16 hP1 hD1 hF_16_0 hF_16_1 => ?_)
      clear hB
      rw [ht] at hP1
      obtain ⟨hP, hD⟩ := va_join (wr := []) (w1 := [(xo_1_riiiii k9 tc (nI zn_16) nu (nI a) ce lo), (xI tc cI 16 ftn_16)]) hP hD [0, 1] [] rfl rfl (by decide +kernel) (by decide +kernel) hk1 hc_16.2.2 hP1 hD1
      generalize H1 = H at hP hS ⊢
      have hP : va_P (dC, dI) vwCl [(xo_1_riiiii k9 tc (nI zn_16) nu (nI a) ce lo), (xI tc cI 16 ftn_16)] H := hP
      have hD := dto hP hD
      refine lv_iconst (v := 2) hx hb dX1_begin_139 (by decide) ?_
      refine lv_imul hx hb dX1_begin_140 ?_
      refine lv_topi (fun v_17 e_17 => ?_)
      have hX9 := cut2 (wc := [(xo_1_riiiii k9 tc (nI zn_16) nu (nI a) ce lo), (xI tc cI 16 ftn_16)]) hP hD [0, 1] (by decide +kernel) rfl
      exact W.iret (v := v_17) hx hb hr (fun t ht hW => ⟨⟨v_17, (), rfl, (lf_X1_begin_s_10 hz ha1 ha5 hdn c_1 hF_2_0 hF_2_1 k_4 k_5 k_9 k_12 hF_16_0 hF_16_1 h_16 e_17), ⟨zn_16, ftn_16, va_Ht ht hX9.1, hX9.2, (by omega), (lf_X1_begin_s_9 hz ha1 ha5 hdn c_1 hF_2_0 hF_2_1 k_4 k_5 k_9 k_12 hF_16_0 hF_16_1 h_16 e_17)⟩⟩, hS.F ht⟩) hS.2.2 dX1_begin_141
    by_cases k_18 : x = 15
    · subst k_18
      refine lv_tableIn (off := 179) (tgt := 197) hx hb dX1_begin_18 (by decide) (by decide) (by decide) (by decide) ?_
      refine lv_iconst (v := 0) hx hb dX1_begin_197 (by decide) ?_
      have hX9 := cut2 (wc := [(xo_1_riiiii k9 tc (nI zn_2) nu (nI a) ce lo), (xI tc cI 16 ftn_2)]) hP hD [0, 1] (by decide +kernel) rfl
      exact W.iret (v := 0) hx hb hr (fun t ht hW => ⟨⟨0, (), rfl, (lf_X1_begin_s_12 hz ha1 ha5 hdn c_1 hF_2_0 hF_2_1 k_4 k_5 k_9 k_12 k_15), ⟨zn_2, ftn_2, va_Ht ht hX9.1, hX9.2, (by omega), (lf_X1_begin_s_11 hz ha1 ha5 hdn c_1 hF_2_0 hF_2_1 k_4 k_5 k_9 k_12 k_15)⟩⟩, hS.F ht⟩) hS.2.2 dX1_begin_198
    by_cases k_19 : x = 16
    · subst k_19
      refine lv_tableIn (off := 179) (tgt := 197) hx hb dX1_begin_18 (by decide) (by decide) (by decide) (by decide) ?_
      refine lv_iconst (v := 0) hx hb dX1_begin_197 (by decide) ?_
      have hX9 := cut2 (wc := [(xo_1_riiiii k9 tc (nI zn_2) nu (nI a) ce lo), (xI tc cI 16 ftn_2)]) hP hD [0, 1] (by decide +kernel) rfl
      exact W.iret (v := 0) hx hb hr (fun t ht hW => ⟨⟨0, (), rfl, (lf_X1_begin_s_14 hz ha1 ha5 hdn c_1 hF_2_0 hF_2_1 k_4 k_5 k_9 k_12 k_15 k_18), ⟨zn_2, ftn_2, va_Ht ht hX9.1, hX9.2, (by omega), (lf_X1_begin_s_13 hz ha1 ha5 hdn c_1 hF_2_0 hF_2_1 k_4 k_5 k_9 k_12 k_15 k_18)⟩⟩, hS.F ht⟩) hS.2.2 dX1_begin_198
    by_cases k_20 : x = 17
    · subst k_20
      refine lv_tableIn (off := 179) (tgt := 197) hx hb dX1_begin_18 (by decide) (by decide) (by decide) (by decide) ?_
      refine lv_iconst (v := 0) hx hb dX1_begin_197 (by decide) ?_
      have hX9 := cut2 (wc := [(xo_1_riiiii k9 tc (nI zn_2) nu (nI a) ce lo), (xI tc cI 16 ftn_2)]) hP hD [0, 1] (by decide +kernel) rfl
      exact W.iret (v := 0) hx hb hr (fun t ht hW => ⟨⟨0, (), rfl, (lf_X1_begin_s_16 hz ha1 ha5 hdn c_1 hF_2_0 hF_2_1 k_4 k_5 k_9 k_12 k_15 k_18 k_19), ⟨zn_2, ftn_2, va_Ht ht hX9.1, hX9.2, (by omega), (lf_X1_begin_s_15 hz ha1 ha5 hdn c_1 hF_2_0 hF_2_1 k_4 k_5 k_9 k_12 k_15 k_18 k_19)⟩⟩, hS.F ht⟩) hS.2.2 dX1_begin_198
    by_cases k_21 : x = 18
    · subst k_21
      refine lv_tableIn (off := 179) (tgt := 197) hx hb dX1_begin_18 (by decide) (by decide) (by decide) (by decide) ?_
      refine lv_iconst (v := 0) hx hb dX1_begin_197 (by decide) ?_
      have hX9 := cut2 (wc := [(xo_1_riiiii k9 tc (nI zn_2) nu (nI a) ce lo), (xI tc cI 16 ftn_2)]) hP hD [0, 1] (by decide +kernel) rfl
      exact W.iret (v := 0) hx hb hr (fun t ht hW => ⟨⟨0, (), rfl, (lf_X1_begin_s_18 hz ha1 ha5 hdn c_1 hF_2_0 hF_2_1 k_4 k_5 k_9 k_12 k_15 k_18 k_19 k_20), ⟨zn_2, ftn_2, va_Ht ht hX9.1, hX9.2, (by omega), (lf_X1_begin_s_17 hz ha1 ha5 hdn c_1 hF_2_0 hF_2_1 k_4 k_5 k_9 k_12 k_15 k_18 k_19 k_20)⟩⟩, hS.F ht⟩) hS.2.2 dX1_begin_198
    by_cases k_22 : x = 19
    · subst k_22
      refine lv_tableIn (off := 179) (tgt := 197) hx hb dX1_begin_18 (by decide) (by decide) (by decide) (by decide) ?_
      refine lv_iconst (v := 0) hx hb dX1_begin_197 (by decide) ?_
      have hX9 := cut2 (wc := [(xo_1_riiiii k9 tc (nI zn_2) nu (nI a) ce lo), (xI tc cI 16 ftn_2)]) hP hD [0, 1] (by decide +kernel) rfl
      exact W.iret (v := 0) hx hb hr (fun t ht hW => ⟨⟨0, (), rfl, (lf_X1_begin_s_20 hz ha1 ha5 hdn c_1 hF_2_0 hF_2_1 k_4 k_5 k_9 k_12 k_15 k_18 k_19 k_20 k_21), ⟨zn_2, ftn_2, va_Ht ht hX9.1, hX9.2, (by omega), (lf_X1_begin_s_19 hz ha1 ha5 hdn c_1 hF_2_0 hF_2_1 k_4 k_5 k_9 k_12 k_15 k_18 k_19 k_20 k_21)⟩⟩, hS.F ht⟩) hS.2.2 dX1_begin_198
    by_cases k_23 : x = 20
    · subst k_23
      refine lv_tableIn (off := 124) (tgt := 142) hx hb dX1_begin_18 (by decide) (by decide) (by decide) (by decide) ?_
      refine lv_aload_n hx hb dX1_begin_142 rfl (lv_at hl 1 rfl) ?_
      refine va_get (D := (dC, dI)) (ci := 1) (v := .int nu) (C := RX1) (T := TX1) (N := 6) hx hb hts i_X1_begin_X1 hown hK hP 0 rfl rfl 2 (by decide) (hts _ mx_X1_begin_2) (fun _ h9 => h9) rfl dX1_begin_143 ?_
      have hX9 := cut2 (wc := [(xo_1_riiiii k9 tc (nI zn_2) nu (nI a) ce lo), (xI tc cI 16 ftn_2)]) hP hD [0, 1] (by decide +kernel) rfl
      exact W.iret (v := nu) hx hb hr (fun t ht hW => ⟨⟨nu, (), rfl, (lf_X1_begin_s_22 hz ha1 ha5 hdn c_1 hF_2_0 hF_2_1 k_4 k_5 k_9 k_12 k_15 k_18 k_19 k_20 k_21 k_22), ⟨zn_2, ftn_2, va_Ht ht hX9.1, hX9.2, (by omega), (lf_X1_begin_s_21 hz ha1 ha5 hdn c_1 hF_2_0 hF_2_1 k_4 k_5 k_9 k_12 k_15 k_18 k_19 k_20 k_21 k_22)⟩⟩, hS.F ht⟩) hS.2.2 dX1_begin_146
    by_cases k_24 : x = 21
    · subst k_24
      refine lv_tableIn (off := 129) (tgt := 147) hx hb dX1_begin_18 (by decide) (by decide) (by decide) (by decide) ?_
      refine lv_aload_n hx hb dX1_begin_147 rfl (lv_at hl 1 rfl) ?_
      refine lv_bipush (v := 20) hx hb dX1_begin_148 (by decide) ?_
      refine lv_iload_n hx hb dX1_begin_150 rfl (lv_at hl 0 rfl) ?_
      have hc_25 := cutW (wc := [(xo_1_riiiii k9 tc (nI zn_2) nu (nI a) ce lo), (xI tc cI 16 ftn_2)]) hP hD hS hA [0, 1] (by decide +kernel) rfl
      refine va_calli (va_runV (As := [.int 20, .int (nI (dp + 1))]) (rest := []) ⟨hx, hb, hml, hown, hts⟩ (IHb l dC dI cI cZ cL cJ H.size k9 tc zn_2 a nu ce lo ftn_2 20 (by omega) (ha1) (ha5) (by omega)) (cwV 2 hts gX1_begin_X1_begin rfl rfl rfl (by decide +kernel) ⟨by show 40 - 2 * (dp + 1) + 1 ≤ 40 - 2 * dp; omega, by show 8 + (4 + 11) + (4000 - 100 * (dp + 1)) ≤ 4000 - 100 * dp; omega⟩) ⟨fun a U g mk q => by obtain ⟨q0, q1, qP, qK, qD, qS⟩ := q; exact ⟨q0, q1, qP, va_K.moved (u := U) (U := U.calling g mk a) (Vm.Alike.refl U.vm) qK, qD, stt_same rfl qS⟩, va_recv hK hP (ci := 1) (q0 := 0) rfl rfl, fun U hU hW => ⟨rfl, by rw [hU], by rw [hU]; exact hc_25.1, va_K.moved hW.alike hK, hc_25.2.1.weaken (fun _ _ _ _ => trivial), by rw [hU]; exact stt_warm hW (stt_narrow (stt_kept hst hS.2.1) hc_25.2.2)⟩⟩ rfl rfl hl.1 rfl (lv_room (Nat.le_of_ble_eq_true rfl)) dX1_begin_151 ⟨Nat.le_of_ble_eq_true rfl, Nat.le_of_ble_eq_true rfl⟩) hS (fun q _ h => hc_25.2.2 q h) hc_25.2.2 (fun r_25 u_25 t_25 H1 locs ht hvm h_25 hB hz1 hk1 hS => ?_)
      refine xl_2_4 hB (fun zn_25 ftn_25 hP1 hD1 hF_25_0 hF_25_1 => ?_)
      clear hB
      rw [ht] at hP1
      obtain ⟨hP, hD⟩ := va_join (wr := []) (w1 := [(xo_1_riiiii k9 tc (nI zn_25) nu (nI a) ce lo), (xI tc cI 16 ftn_25)]) hP hD [0, 1] [] rfl rfl (by decide +kernel) (by decide +kernel) hk1 hc_25.2.2 hP1 hD1
      generalize H1 = H at hP hS ⊢
      have hP : va_P (dC, dI) vwCl [(xo_1_riiiii k9 tc (nI zn_25) nu (nI a) ce lo), (xI tc cI 16 ftn_25)] H := hP
      have hD := dto hP hD
      refine lv_aload_n hx hb dX1_begin_154 rfl (lv_at hl 1 rfl) ?_
      refine va_get (D := (dC, dI)) (ci := 1) (v := .int ce) (C := RX1) (T := TX1) (N := 6) hx hb hts i_X1_begin_X1 hown hK hP 0 rfl rfl 4 (by decide) (hts _ mx_X1_begin_3) (fun _ h9 => h9) rfl dX1_begin_155 ?_
      refine lv_iadd hx hb dX1_begin_158 ?_
      refine lv_topi (fun v_26 e_26 => ?_)
      have hX9 := cut2 (wc := [(xo_1_riiiii k9 tc (nI zn_25) nu (nI a) ce lo), (xI tc cI 16 ftn_25)]) hP hD [0, 1] (by decide +kernel) rfl
      exact W.iret (v := v_26) hx hb hr (fun t ht hW => ⟨⟨v_26, (), rfl, (lf_X1_begin_s_24 hz ha1 ha5 hdn c_1 hF_2_0 hF_2_1 k_4 k_5 k_9 k_12 k_15 k_18 k_19 k_20 k_21 k_22 k_23 hF_25_0 hF_25_1 h_25 e_26), ⟨zn_25, ftn_25, va_Ht ht hX9.1, hX9.2, (by omega), (lf_X1_begin_s_23 hz ha1 ha5 hdn c_1 hF_2_0 hF_2_1 k_4 k_5 k_9 k_12 k_15 k_18 k_19 k_20 k_21 k_22 k_23 hF_25_0 hF_25_1 h_25 e_26)⟩⟩, hS.F ht⟩) hS.2.2 dX1_begin_159
    by_cases k_27 : x = 22
    · subst k_27
      refine lv_tableIn (off := 142) (tgt := 160) hx hb dX1_begin_18 (by decide) (by decide) (by decide) (by decide) ?_
      refine lv_aload_n hx hb dX1_begin_160 rfl (lv_at hl 1 rfl) ?_
      refine lv_bipush (v := 21) hx hb dX1_begin_161 (by decide) ?_
      refine lv_iload_n hx hb dX1_begin_163 rfl (lv_at hl 0 rfl) ?_
      have hc_28 := cutW (wc := [(xo_1_riiiii k9 tc (nI zn_2) nu (nI a) ce lo), (xI tc cI 16 ftn_2)]) hP hD hS hA [0, 1] (by decide +kernel) rfl
      refine va_calli (va_runV (As := [.int 21, .int (nI (dp + 1))]) (rest := []) ⟨hx, hb, hml, hown, hts⟩ (IHb l dC dI cI cZ cL cJ H.size k9 tc zn_2 a nu ce lo ftn_2 21 (by omega) (ha1) (ha5) (by omega)) (cwV 2 hts gX1_begin_X1_begin rfl rfl rfl (by decide +kernel) ⟨by show 40 - 2 * (dp + 1) + 1 ≤ 40 - 2 * dp; omega, by show 8 + (4 + 11) + (4000 - 100 * (dp + 1)) ≤ 4000 - 100 * dp; omega⟩) ⟨fun a U g mk q => by obtain ⟨q0, q1, qP, qK, qD, qS⟩ := q; exact ⟨q0, q1, qP, va_K.moved (u := U) (U := U.calling g mk a) (Vm.Alike.refl U.vm) qK, qD, stt_same rfl qS⟩, va_recv hK hP (ci := 1) (q0 := 0) rfl rfl, fun U hU hW => ⟨rfl, by rw [hU], by rw [hU]; exact hc_28.1, va_K.moved hW.alike hK, hc_28.2.1.weaken (fun _ _ _ _ => trivial), by rw [hU]; exact stt_warm hW (stt_narrow (stt_kept hst hS.2.1) hc_28.2.2)⟩⟩ rfl rfl hl.1 rfl (lv_room (Nat.le_of_ble_eq_true rfl)) dX1_begin_164 ⟨Nat.le_of_ble_eq_true rfl, Nat.le_of_ble_eq_true rfl⟩) hS (fun q _ h => hc_28.2.2 q h) hc_28.2.2 (fun r_28 u_28 t_28 H1 locs ht hvm h_28 hB hz1 hk1 hS => ?_)
      refine xl_2_4 hB (fun zn_28 ftn_28 hP1 hD1 hF_28_0 hF_28_1 => ?_)
      clear hB
      rw [ht] at hP1
      obtain ⟨hP, hD⟩ := va_join (wr := []) (w1 := [(xo_1_riiiii k9 tc (nI zn_28) nu (nI a) ce lo), (xI tc cI 16 ftn_28)]) hP hD [0, 1] [] rfl rfl (by decide +kernel) (by decide +kernel) hk1 hc_28.2.2 hP1 hD1
      generalize H1 = H at hP hS ⊢
      have hP : va_P (dC, dI) vwCl [(xo_1_riiiii k9 tc (nI zn_28) nu (nI a) ce lo), (xI tc cI 16 ftn_28)] H := hP
      have hD := dto hP hD
      refine lv_sipush (v := 1000) hx hb dX1_begin_167 (by decide) ?_
      refine lv_isub hx hb dX1_begin_170 ?_
      refine lv_topi (fun v_29 e_29 => ?_)
      have hX9 := cut2 (wc := [(xo_1_riiiii k9 tc (nI zn_28) nu (nI a) ce lo), (xI tc cI 16 ftn_28)]) hP hD [0, 1] (by decide +kernel) rfl
      exact W.iret (v := v_29) hx hb hr (fun t ht hW => ⟨⟨v_29, (), rfl, (lf_X1_begin_s_26 hz ha1 ha5 hdn c_1 hF_2_0 hF_2_1 k_4 k_5 k_9 k_12 k_15 k_18 k_19 k_20 k_21 k_22 k_23 k_24 hF_28_0 hF_28_1 h_28 e_29), ⟨zn_28, ftn_28, va_Ht ht hX9.1, hX9.2, (by omega), (lf_X1_begin_s_25 hz ha1 ha5 hdn c_1 hF_2_0 hF_2_1 k_4 k_5 k_9 k_12 k_15 k_18 k_19 k_20 k_21 k_22 k_23 k_24 hF_28_0 hF_28_1 h_28 e_29)⟩⟩, hS.F ht⟩) hS.2.2 dX1_begin_171
    by_cases k_30 : x = 23
    · subst k_30
      refine lv_tableIn (off := 154) (tgt := 172) hx hb dX1_begin_18 (by decide) (by decide) (by decide) (by decide) ?_
      refine lv_aload_n hx hb dX1_begin_172 rfl (lv_at hl 1 rfl) ?_
      refine lv_bipush (v := 20) hx hb dX1_begin_173 (by decide) ?_
      refine lv_iload_n hx hb dX1_begin_175 rfl (lv_at hl 0 rfl) ?_
      have hc_31 := cutW (wc := [(xo_1_riiiii k9 tc (nI zn_2) nu (nI a) ce lo), (xI tc cI 16 ftn_2)]) hP hD hS hA [0, 1] (by decide +kernel) rfl
      refine va_calli (va_runV (As := [.int 20, .int (nI (dp + 1))]) (rest := []) ⟨hx, hb, hml, hown, hts⟩ (IHb l dC dI cI cZ cL cJ H.size k9 tc zn_2 a nu ce lo ftn_2 20 (by omega) (ha1) (ha5) (by omega)) (cwV 2 hts gX1_begin_X1_begin rfl rfl rfl (by decide +kernel) ⟨by show 40 - 2 * (dp + 1) + 1 ≤ 40 - 2 * dp; omega, by show 8 + (4 + 11) + (4000 - 100 * (dp + 1)) ≤ 4000 - 100 * dp; omega⟩) ⟨fun a U g mk q => by obtain ⟨q0, q1, qP, qK, qD, qS⟩ := q; exact ⟨q0, q1, qP, va_K.moved (u := U) (U := U.calling g mk a) (Vm.Alike.refl U.vm) qK, qD, stt_same rfl qS⟩, va_recv hK hP (ci := 1) (q0 := 0) rfl rfl, fun U hU hW => ⟨rfl, by rw [hU], by rw [hU]; exact hc_31.1, va_K.moved hW.alike hK, hc_31.2.1.weaken (fun _ _ _ _ => trivial), by rw [hU]; exact stt_warm hW (stt_narrow (stt_kept hst hS.2.1) hc_31.2.2)⟩⟩ rfl rfl hl.1 rfl (lv_room (Nat.le_of_ble_eq_true rfl)) dX1_begin_176 ⟨Nat.le_of_ble_eq_true rfl, Nat.le_of_ble_eq_true rfl⟩) hS (fun q _ h => hc_31.2.2 q h) hc_31.2.2 (fun r_31 u_31 t_31 H1 locs ht hvm h_31 hB hz1 hk1 hS => ?_)
      refine xl_2_4 hB (fun zn_31 ftn_31 hP1 hD1 hF_31_0 hF_31_1 => ?_)
      clear hB
      rw [ht] at hP1
      obtain ⟨hP, hD⟩ := va_join (wr := []) (w1 := [(xo_1_riiiii k9 tc (nI zn_31) nu (nI a) ce lo), (xI tc cI 16 ftn_31)]) hP hD [0, 1] [] rfl rfl (by decide +kernel) (by decide +kernel) hk1 hc_31.2.2 hP1 hD1
      generalize H1 = H at hP hS ⊢
      have hP : va_P (dC, dI) vwCl [(xo_1_riiiii k9 tc (nI zn_31) nu (nI a) ce lo), (xI tc cI 16 ftn_31)] H := hP
      have hD := dto hP hD
      refine lv_aload_n hx hb dX1_begin_179 rfl (lv_at hl 1 rfl) ?_
      refine lv_iconst (v := 0) hx hb dX1_begin_180 (by decide) ?_
      refine lv_iload_n hx hb dX1_begin_181 rfl (lv_at hl 0 rfl) ?_
      have hc_32 := cutW (wc := [(xo_1_riiiii k9 tc (nI zn_31) nu (nI a) ce lo), (xI tc cI 16 ftn_31)]) hP hD hS hA [0, 1] (by decide +kernel) rfl
      refine va_calli (va_runV (As := [.int 0, .int (nI (dp + 1))]) (rest := [.int r_31]) ⟨hx, hb, hml, hown, hts⟩ (IHa l dC dI cI cZ cL cJ H.size k9 tc zn_31 a nu ce lo ftn_31 0 (by omega) (ha1) (ha5) (by omega) (by decide)) (cwV 2 hts gX1_begin_X1_askAnew rfl rfl rfl (by decide +kernel) ⟨by show 41 - 2 * (dp + 1) + 1 ≤ 40 - 2 * dp; omega, by show 8 + (3 + 11) + (4050 - 100 * (dp + 1)) ≤ 4000 - 100 * dp; omega⟩) ⟨fun a U g mk q => by obtain ⟨q0, q1, qP, qK, qD, qS⟩ := q; exact ⟨q0, q1, qP, va_K.moved (u := U) (U := U.calling g mk a) (Vm.Alike.refl U.vm) qK, qD, stt_same rfl qS⟩, va_recv hK hP (ci := 1) (q0 := 0) rfl rfl, fun U hU hW => ⟨rfl, by rw [hU], by rw [hU]; exact hc_32.1, va_K.moved hW.alike hK, hc_32.2.1.weaken (fun _ _ _ _ => trivial), by rw [hU]; exact stt_warm hW (stt_narrow (stt_kept hst hS.2.1) hc_32.2.2)⟩⟩ rfl rfl hl.1 rfl (lv_room (Nat.le_of_ble_eq_true rfl)) dX1_begin_182 ⟨Nat.le_of_ble_eq_true rfl, Nat.le_of_ble_eq_true rfl⟩) hS (fun q _ h => hc_32.2.2 q h) hc_32.2.2 (fun r_32 u_32 t_32 H1 locs ht hvm h_32 hB hz1 hk1 hS => ?_)
      refine xl_2_4 hB (fun zn_32 ftn_32 hP1 hD1 hF_32_0 hF_32_1 => ?_)
      clear hB
      rw [ht] at hP1
      obtain ⟨hP, hD⟩ := va_join (wr := []) (w1 := [(xo_1_riiiii k9 tc (nI zn_32) nu (nI a) ce lo), (xI tc cI 16 ftn_32)]) hP hD [0, 1] [] rfl rfl (by decide +kernel) (by decide +kernel) hk1 hc_32.2.2 hP1 hD1
      generalize H1 = H at hP hS ⊢
      have hP : va_P (dC, dI) vwCl [(xo_1_riiiii k9 tc (nI zn_32) nu (nI a) ce lo), (xI tc cI 16 ftn_32)] H := hP
      have hD := dto hP hD
      refine lv_isub hx hb dX1_begin_185 ?_
      refine lv_topi (fun v_33 e_33 => ?_)
      have hX9 := cut2 (wc := [(xo_1_riiiii k9 tc (nI zn_32) nu (nI a) ce lo), (xI tc cI 16 ftn_32)]) hP hD [0, 1] (by decide +kernel) rfl
      exact W.iret (v := v_33) hx hb hr (fun t ht hW => ⟨⟨v_33, (), rfl, (lf_X1_begin_s_28 hz ha1 ha5 hdn c_1 hF_2_0 hF_2_1 k_4 k_5 k_9 k_12 k_15 k_18 k_19 k_20 k_21 k_22 k_23 k_24 k_27 hF_31_0 hF_31_1 h_31 hF_32_0 hF_32_1 h_32 e_33), ⟨zn_32, ftn_32, va_Ht ht hX9.1, hX9.2, (by omega), (lf_X1_begin_s_27 hz ha1 ha5 hdn c_1 hF_2_0 hF_2_1 k_4 k_5 k_9 k_12 k_15 k_18 k_19 k_20 k_21 k_22 k_23 k_24 k_27 hF_31_0 hF_31_1 h_31 hF_32_0 hF_32_1 h_32 e_33)⟩⟩, hS.F ht⟩) hS.2.2 dX1_begin_186
    by_cases k_34 : x = 24
    · subst k_34
      refine lv_tableIn (off := 169) (tgt := 187) hx hb dX1_begin_18 (by decide) (by decide) (by decide) (by decide) ?_
      refine lv_aload_n hx hb dX1_begin_187 rfl (lv_at hl 1 rfl) ?_
      refine lv_bipush (v := 21) hx hb dX1_begin_188 (by decide) ?_
      refine lv_iload_n hx hb dX1_begin_190 rfl (lv_at hl 0 rfl) ?_
      have hc_35 := cutW (wc := [(xo_1_riiiii k9 tc (nI zn_2) nu (nI a) ce lo), (xI tc cI 16 ftn_2)]) hP hD hS hA [0, 1] (by decide +kernel) rfl
      refine va_calli (va_runV (As := [.int 21, .int (nI (dp + 1))]) (rest := []) ⟨hx, hb, hml, hown, hts⟩ (IHb l dC dI cI cZ cL cJ H.size k9 tc zn_2 a nu ce lo ftn_2 21 (by omega) (ha1) (ha5) (by omega)) (cwV 2 hts gX1_begin_X1_begin rfl rfl rfl (by decide +kernel) ⟨by show 40 - 2 * (dp + 1) + 1 ≤ 40 - 2 * dp; omega, by show 8 + (4 + 11) + (4000 - 100 * (dp + 1)) ≤ 4000 - 100 * dp; omega⟩) ⟨fun a U g mk q => by obtain ⟨q0, q1, qP, qK, qD, qS⟩ := q; exact ⟨q0, q1, qP, va_K.moved (u := U) (U := U.calling g mk a) (Vm.Alike.refl U.vm) qK, qD, stt_same rfl qS⟩, va_recv hK hP (ci := 1) (q0 := 0) rfl rfl, fun U hU hW => ⟨rfl, by rw [hU], by rw [hU]; exact hc_35.1, va_K.moved hW.alike hK, hc_35.2.1.weaken (fun _ _ _ _ => trivial), by rw [hU]; exact stt_warm hW (stt_narrow (stt_kept hst hS.2.1) hc_35.2.2)⟩⟩ rfl rfl hl.1 rfl (lv_room (Nat.le_of_ble_eq_true rfl)) dX1_begin_191 ⟨Nat.le_of_ble_eq_true rfl, Nat.le_of_ble_eq_true rfl⟩) hS (fun q _ h => hc_35.2.2 q h) hc_35.2.2 (fun r_35 u_35 t_35 H1 locs ht hvm h_35 hB hz1 hk1 hS => ?_)
      refine xl_2_4 hB (fun zn_35 ftn_35 hP1 hD1 hF_35_0 hF_35_1 => ?_)
      clear hB
      rw [ht] at hP1
      obtain ⟨hP, hD⟩ := va_join (wr := []) (w1 := [(xo_1_riiiii k9 tc (nI zn_35) nu (nI a) ce lo), (xI tc cI 16 ftn_35)]) hP hD [0, 1] [] rfl rfl (by decide +kernel) (by decide +kernel) hk1 hc_35.2.2 hP1 hD1
      generalize H1 = H at hP hS ⊢
      have hP : va_P (dC, dI) vwCl [(xo_1_riiiii k9 tc (nI zn_35) nu (nI a) ce lo), (xI tc cI 16 ftn_35)] H := hP
      have hD := dto hP hD
      refine lv_iconst (v := 2) hx hb dX1_begin_194 (by decide) ?_
      refine lv_imul hx hb dX1_begin_195 ?_
      refine lv_topi (fun v_36 e_36 => ?_)
      have hX9 := cut2 (wc := [(xo_1_riiiii k9 tc (nI zn_35) nu (nI a) ce lo), (xI tc cI 16 ftn_35)]) hP hD [0, 1] (by decide +kernel) rfl
      exact W.iret (v := v_36) hx hb hr (fun t ht hW => ⟨⟨v_36, (), rfl, (lf_X1_begin_s_30 hz ha1 ha5 hdn c_1 hF_2_0 hF_2_1 k_4 k_5 k_9 k_12 k_15 k_18 k_19 k_20 k_21 k_22 k_23 k_24 k_27 k_30 hF_35_0 hF_35_1 h_35 e_36), ⟨zn_35, ftn_35, va_Ht ht hX9.1, hX9.2, (by omega), (lf_X1_begin_s_29 hz ha1 ha5 hdn c_1 hF_2_0 hF_2_1 k_4 k_5 k_9 k_12 k_15 k_18 k_19 k_20 k_21 k_22 k_23 k_24 k_27 k_30 hF_35_0 hF_35_1 h_35 e_36)⟩⟩, hS.F ht⟩) hS.2.2 dX1_begin_196
    have kT_4 := lv_neT k_4 (show (10 : Int32).toInt = 10 from rfl)
    have kT_5 := lv_neT k_5 (show (11 : Int32).toInt = 11 from rfl)
    have kT_9 := lv_neT k_9 (show (12 : Int32).toInt = 12 from rfl)
    have kT_12 := lv_neT k_12 (show (13 : Int32).toInt = 13 from rfl)
    have kT_15 := lv_neT k_15 (show (14 : Int32).toInt = 14 from rfl)
    have kT_18 := lv_neT k_18 (show (15 : Int32).toInt = 15 from rfl)
    have kT_19 := lv_neT k_19 (show (16 : Int32).toInt = 16 from rfl)
    have kT_20 := lv_neT k_20 (show (17 : Int32).toInt = 17 from rfl)
    have kT_21 := lv_neT k_21 (show (18 : Int32).toInt = 18 from rfl)
    have kT_22 := lv_neT k_22 (show (19 : Int32).toInt = 19 from rfl)
    have kT_23 := lv_neT k_23 (show (20 : Int32).toInt = 20 from rfl)
    have kT_24 := lv_neT k_24 (show (21 : Int32).toInt = 21 from rfl)
    have kT_27 := lv_neT k_27 (show (22 : Int32).toInt = 22 from rfl)
    have kT_30 := lv_neT k_30 (show (23 : Int32).toInt = 23 from rfl)
    have kT_34 := lv_neT k_34 (show (24 : Int32).toInt = 24 from rfl)
    refine lv_tableOut (tgt := 197) hx hb dX1_begin_18 (by omega) (by decide) ?_
    refine lv_iconst (v := 0) hx hb dX1_begin_197 (by decide) ?_
    have hX9 := cut2 (wc := [(xo_1_riiiii k9 tc (nI zn_2) nu (nI a) ce lo), (xI tc cI 16 ftn_2)]) hP hD [0, 1] (by decide +kernel) rfl
    exact W.iret (v := 0) hx hb hr (fun t ht hW => ⟨⟨0, (), rfl, (lf_X1_begin_s_32 hz ha1 ha5 hdn c_1 hF_2_0 hF_2_1 k_4 k_5 k_9 k_12 k_15 k_18 k_19 k_20 k_21 k_22 k_23 k_24 k_27 k_30 k_34), ⟨zn_2, ftn_2, va_Ht ht hX9.1, hX9.2, (by omega), (lf_X1_begin_s_31 hz ha1 ha5 hdn c_1 hF_2_0 hF_2_1 k_4 k_5 k_9 k_12 k_15 k_18 k_19 k_20 k_21 k_22 k_23 k_24 k_27 k_30 k_34)⟩⟩, hS.F ht⟩) hS.2.2 dX1_begin_198
  · have c_1 : ¬ (dp < 16) := fun q_ => c_1 ((nI_ltI (a := dp) (b := 16) (by omega) (by omega)).mpr q_)
    refine lv_iconst (v := 0) hx hb dX1_begin_6 (by decide) ?_
    have hX9 := cut2 (wc := [(xo_1_riiiii k9 tc (nI z) nu (nI a) ce lo), (xI tc cI 16 ft)]) hP hD [0, 1] (by decide +kernel) rfl
    exact W.iret (v := 0) hx hb hr (fun t ht hW => ⟨⟨0, (), rfl, (lf_X1_begin_s_34 hz ha1 ha5 hdn c_1), ⟨z, ft, va_Ht ht hX9.1, hX9.2, (by omega), (lf_X1_begin_s_33 hz ha1 ha5 hdn c_1)⟩⟩, hS.F ht⟩) hS.2.2 dX1_begin_7
theorem lf_X1_askAnew_s_1 {z : Nat} {a : Nat} {nu : Int32} {ce : Int32} {lo : Int32} {ft : Nat → Int32} {dp : Nat} {x : Int32} {r_1 : Int32} {zn_2 : Nat} {ftn_2 : Nat → Int32} {r_2 : Int32} (hz : z ≤ 16) (ha1 : 1 ≤ a) (ha5 : a ≤ 5) (hdn : dp ≤ 16) (hx01 : x = 0 ∨ x = 1) (h_1 : r_1 = (bfX a x)) (hF_2_0 : zn_2 ≤ 16) (hF_2_1 : (bgX nu a ce lo (16 - dp) r_1 (z, ft)).2 = (zn_2, ftn_2)) (h_2 : r_2 = ((bgX nu a ce lo (16 - dp) r_1 (z, ft)).1)) : (bgX nu a ce lo (16 - dp) (bfX a x) (z, ft)).2 = (zn_2, ftn_2) := by
  first | omega | grind
theorem lf_X1_askAnew_s_2 {z : Nat} {a : Nat} {nu : Int32} {ce : Int32} {lo : Int32} {ft : Nat → Int32} {dp : Nat} {x : Int32} {r_1 : Int32} {zn_2 : Nat} {ftn_2 : Nat → Int32} {r_2 : Int32} (hz : z ≤ 16) (ha1 : 1 ≤ a) (ha5 : a ≤ 5) (hdn : dp ≤ 16) (hx01 : x = 0 ∨ x = 1) (h_1 : r_1 = (bfX a x)) (hF_2_0 : zn_2 ≤ 16) (hF_2_1 : (bgX nu a ce lo (16 - dp) r_1 (z, ft)).2 = (zn_2, ftn_2)) (h_2 : r_2 = ((bgX nu a ce lo (16 - dp) r_1 (z, ft)).1)) : r_2 = ((bgX nu a ce lo (16 - dp) (bfX a x) (z, ft)).1) := by
  first | omega | grind
set_option maxHeartbeats 4000000 in
set_option maxRecDepth 100000 in
theorem r_X1_askAnew_s (l : Launch) (dC : Nat → ClassId) (dI : Nat → Nat → Nat) (cI cZ cL cJ : ClassId) (sz : Nat) (k9 : Nat) (tc : Nat) (z : Nat) (a : Nat) (nu : Int32) (ce : Int32) (lo : Int32) (ft : Nat → Int32) (dp : Nat) (x : Int32) (hz : z ≤ 16) (ha1 : 1 ≤ a) (ha5 : a ≤ 5) (hdn : dp ≤ 16) (hx01 : x = 0 ∨ x = 1) (IHc : ∀ (l : Launch) (dC : Nat → ClassId) (dI : Nat → Nat → Nat) (cI cZ cL cJ : ClassId) (sz : Nat) (k9 : Nat) (tc : Nat) (z : Nat) (a : Nat) (nu : Int32) (ce : Int32) (lo : Int32) (ft : Nat → Int32) (x : Int32) (hz : z ≤ 16) (ha1 : 1 ≤ a) (ha5 : a ≤ 5) (hdn : dp ≤ 16), Met l yX1_begin wsX1_begin ({ frames := 40 - 2 * dp, cells := 0, slots := 0, locals := 4000 - 100 * dp }) (va_Pc [.ref k9, .int x, .int (nI dp)] (fun U => U.heap.size = sz ∧ va_P (dC, dI) vwCl [(xo_1_riiiii k9 tc (nI z) nu (nI a) ce lo), (xI tc cI 16 ft)] U.heap ∧ va_K (dC, dI) vwCl [(cI, .int), (cZ, .boolean), (cL, .object RX3), (cJ, .array .int)] U ∧ va_D (fun _ => True) [(xo_1_riiiii k9 tc (nI z) nu (nI a) ce lo), (xI tc cI 16 ft)] ∧ stt (va_A [(xo_1_riiiii k9 tc (nI z) nu (nI a) ce lo), (xI tc cI 16 ft)] sz) U U.heap)) (va_Qi (fun r (_ : Unit) => r = ((bgX nu a ce lo (16 - dp) x (z, ft)).1)) (fun (_ : Unit) t => ∃ (zn : Nat) (ftn : Nat → Int32), va_P (dC, dI) vwCl [(xo_1_riiiii k9 tc (nI zn) nu (nI a) ce lo), (xI tc cI 16 ftn)] t.heap ∧ va_D (va_A [(xo_1_riiiii k9 tc (nI z) nu (nI a) ce lo), (xI tc cI 16 ft)] sz) [(xo_1_riiiii k9 tc (nI zn) nu (nI a) ce lo), (xI tc cI 16 ftn)] ∧ zn ≤ 16 ∧ (bgX nu a ce lo (16 - dp) x (z, ft)).2 = (zn, ftn)) (va_A [(xo_1_riiiii k9 tc (nI z) nu (nI a) ce lo), (xI tc cI 16 ft)] sz)) 0 0 (va_A [(xo_1_riiiii k9 tc (nI z) nu (nI a) ce lo), (xI tc cI 16 ft)] sz)) : Met l yX1_askAnew wsX1_askAnew ({ frames := 41 - 2 * dp, cells := 0, slots := 0, locals := 4050 - 100 * dp }) (va_Pc [.ref k9, .int x, .int (nI dp)] (fun U => U.heap.size = sz ∧ va_P (dC, dI) vwCl [(xo_1_riiiii k9 tc (nI z) nu (nI a) ce lo), (xI tc cI 16 ft)] U.heap ∧ va_K (dC, dI) vwCl [(cI, .int), (cZ, .boolean), (cL, .object RX3), (cJ, .array .int)] U ∧ va_D (fun _ => True) [(xo_1_riiiii k9 tc (nI z) nu (nI a) ce lo), (xI tc cI 16 ft)] ∧ stt (va_A [(xo_1_riiiii k9 tc (nI z) nu (nI a) ce lo), (xI tc cI 16 ft)] sz) U U.heap)) (va_Qi (fun r (_ : Unit) => r = ((bgX nu a ce lo (16 - dp) (bfX a x) (z, ft)).1)) (fun (_ : Unit) t => ∃ (zn : Nat) (ftn : Nat → Int32), va_P (dC, dI) vwCl [(xo_1_riiiii k9 tc (nI zn) nu (nI a) ce lo), (xI tc cI 16 ftn)] t.heap ∧ va_D (va_A [(xo_1_riiiii k9 tc (nI z) nu (nI a) ce lo), (xI tc cI 16 ft)] sz) [(xo_1_riiiii k9 tc (nI zn) nu (nI a) ce lo), (xI tc cI 16 ftn)] ∧ zn ≤ 16 ∧ (bgX nu a ce lo (16 - dp) (bfX a x) (z, ft)).2 = (zn, ftn)) (va_A [(xo_1_riiiii k9 tc (nI z) nu (nI a) ce lo), (xI tc cI 16 ft)] sz)) 0 0 (va_A [(xo_1_riiiii k9 tc (nI z) nu (nI a) ce lo), (xI tc cI 16 ft)] sz) := by
  refine Met.ofW (cc := cX1_askAnew) (maxL := 3) (ret := (some .int)) (by decide) rfl ?_
  intro p e s m args below meth c s₁ B hml hv
  obtain ⟨rfl, hsz, hP, hK, hD0, hst⟩ := hv
  have hx := B.exec
  have hb := B.bytes
  have hr := B.returns
  have hts := atoms_spec (ws := wsX1_askAnew) B.pre
  have hown : s.vm.findClass RX1 = some m.cls := findClass_of_methodNamed B.named
  have hlocks := B.notSynchronized
  subst hsz
  have hD := hD0.self (sz := s.heap.size)
  generalize hAe : va_A [(xo_1_riiiii k9 tc (nI z) nu (nI a) ce lo), (xI tc cI 16 ft)] s.heap.size = A at hD hst ⊢
  have hA : ∀ q : Nat, s.heap.size ≤ q → A q := fun q h => by rw [← hAe]; exact Or.inr h
  have hS : va_S A s.heap s.heap [] := va_S.rf
  have hP : va_P (dC, dI) vwCl [(xo_1_riiiii k9 tc (nI z) nu (nI a) ce lo), (xI tc cI 16 ft)] s.heap := hP
  obtain ⟨⟨tb1, hZ1, hT1⟩, ⟨tb2, hZ2, hT2⟩, ⟨tb3, hZ3, hT3⟩, hNk⟩ := id hst
  have hl := lv_entry ([.ref k9, .int x, .int (nI dp)]) (n := 3) (Nat.le_of_ble_eq_true rfl)
  rw [lg_entry_eq]
  generalize (lg_sl ([.ref k9, .int x, .int (nI dp)]) ++ List.replicate (3 - (lg_sl ([.ref k9, .int x, .int (nI dp)])).length) Slot.unset).toArray = ls at hl ⊢
  have hl : lv_has ls 3 [(0, .ref k9), (1, .int x), (2, .int (nI dp))] := hl
  refine lv_aload_n hx hb dX1_askAnew_0 rfl (lv_at hl 0 rfl) ?_
  refine lv_aload_n hx hb dX1_askAnew_1 rfl (lv_at hl 0 rfl) ?_
  refine lv_iload_n hx hb dX1_askAnew_2 rfl (lv_at hl 1 rfl) ?_
  have hPc_1 := hP.sub (ws' := [(xo_1_riiiii k9 tc (nI z) nu (nI a) ce lo)]) [0] rfl
  refine vp_callSi (W.runV (As := [.int x]) (rest := [.ref k9]) ⟨hx, hb, hml, hown, hts⟩ (r_X1_bodyFor l dC dI cI cZ cL cJ k9 tc z a nu ce lo x (ha1) (ha5) (hx01)) (cwV 1 hts gX1_askAnew_X1_bodyFor rfl rfl rfl (by decide +kernel) ⟨by show 0 + 1 ≤ 41 - 2 * dp; omega, by show 8 + (5 + 11) + 0 ≤ 4050 - 100 * dp; omega⟩) ⟨fun a U g mk q => by obtain ⟨q0, qP, qK, qS⟩ := q; exact ⟨q0, qP, va_K.moved (u := U) (U := U.calling g mk a) (Vm.Alike.refl U.vm) qK, stt_same rfl qS⟩, va_recv hK hP (ci := 1) (q0 := 0) rfl rfl, fun U hU hW => ⟨rfl, by rw [hU]; exact hPc_1, va_K.moved hW.alike hK, by rw [hU]; exact stt_warm hW (stt_narrow (stt_kept hst hS.2.1) (fun _ h => h.elim))⟩⟩ rfl rfl hl.1 rfl (lv_room (Nat.le_of_ble_eq_true rfl)) dX1_askAnew_3 ⟨Nat.le_of_ble_eq_true rfl, Nat.le_of_ble_eq_true rfl⟩) (fun r_1 h_1 => ?_)
  refine lv_iload_n hx hb dX1_askAnew_6 rfl (lv_at hl 2 rfl) ?_
  have hc_2 := cutW (wc := [(xo_1_riiiii k9 tc (nI z) nu (nI a) ce lo), (xI tc cI 16 ft)]) hP hD hS hA [0, 1] (by decide +kernel) rfl
  refine va_calli (va_runV (As := [.int r_1, .int (nI dp)]) (rest := []) ⟨hx, hb, hml, hown, hts⟩ (IHc l dC dI cI cZ cL cJ s.heap.size k9 tc z a nu ce lo ft r_1 (by omega) (ha1) (ha5) (by omega)) (cwV 2 hts gX1_askAnew_X1_begin rfl rfl rfl (by decide +kernel) ⟨by show 40 - 2 * dp + 1 ≤ 41 - 2 * dp; omega, by show 8 + (4 + 11) + (4000 - 100 * dp) ≤ 4050 - 100 * dp; omega⟩) ⟨fun a U g mk q => by obtain ⟨q0, q1, qP, qK, qD, qS⟩ := q; exact ⟨q0, q1, qP, va_K.moved (u := U) (U := U.calling g mk a) (Vm.Alike.refl U.vm) qK, qD, stt_same rfl qS⟩, va_recv hK hP (ci := 1) (q0 := 0) rfl rfl, fun U hU hW => ⟨rfl, by rw [hU], by rw [hU]; exact hc_2.1, va_K.moved hW.alike hK, hc_2.2.1.weaken (fun _ _ _ _ => trivial), by rw [hU]; exact stt_warm hW (stt_narrow (stt_kept hst hS.2.1) hc_2.2.2)⟩⟩ rfl rfl hl.1 rfl (lv_room (Nat.le_of_ble_eq_true rfl)) dX1_askAnew_7 ⟨Nat.le_of_ble_eq_true rfl, Nat.le_of_ble_eq_true rfl⟩) hS (fun q _ h => hc_2.2.2 q h) hc_2.2.2 (fun r_2 u_2 t_2 H1 locs ht hvm h_2 hB hz1 hk1 hS => ?_)
  refine xl_2_4 hB (fun zn_2 ftn_2 hP1 hD1 hF_2_0 hF_2_1 => ?_)
  clear hB
  rw [ht] at hP1
  obtain ⟨hP, hD⟩ := va_join (wr := []) (w1 := [(xo_1_riiiii k9 tc (nI zn_2) nu (nI a) ce lo), (xI tc cI 16 ftn_2)]) hP hD [0, 1] [] rfl rfl (by decide +kernel) (by decide +kernel) hk1 hc_2.2.2 hP1 hD1
  generalize H1 = H at hP hS ⊢
  have hP : va_P (dC, dI) vwCl [(xo_1_riiiii k9 tc (nI zn_2) nu (nI a) ce lo), (xI tc cI 16 ftn_2)] H := hP
  have hD := dto hP hD
  have hX9 := cut2 (wc := [(xo_1_riiiii k9 tc (nI zn_2) nu (nI a) ce lo), (xI tc cI 16 ftn_2)]) hP hD [0, 1] (by decide +kernel) rfl
  exact W.iret (v := r_2) hx hb hr (fun t ht hW => ⟨⟨r_2, (), rfl, (lf_X1_askAnew_s_2 hz ha1 ha5 hdn hx01 h_1 hF_2_0 hF_2_1 h_2), ⟨zn_2, ftn_2, va_Ht ht hX9.1, hX9.2, (by omega), (lf_X1_askAnew_s_1 hz ha1 ha5 hdn hx01 h_1 hF_2_0 hF_2_1 h_2)⟩⟩, hS.F ht⟩) hS.2.2 dX1_askAnew_10
theorem r_X1_i : ∀ (n_ : Nat) (dp : Nat), 16 - dp ≤ n_ → (∀ (l : Launch) (dC : Nat → ClassId) (dI : Nat → Nat → Nat) (cI cZ cL cJ : ClassId) (sz : Nat) (k9 : Nat) (tc : Nat) (z : Nat) (a : Nat) (nu : Int32) (ce : Int32) (lo : Int32) (ft : Nat → Int32) (x : Int32) (hz : z ≤ 16) (ha1 : 1 ≤ a) (ha5 : a ≤ 5) (hdn : dp ≤ 16), Met l yX1_begin wsX1_begin ({ frames := 40 - 2 * dp, cells := 0, slots := 0, locals := 4000 - 100 * dp }) (va_Pc [.ref k9, .int x, .int (nI dp)] (fun U => U.heap.size = sz ∧ va_P (dC, dI) vwCl [(xo_1_riiiii k9 tc (nI z) nu (nI a) ce lo), (xI tc cI 16 ft)] U.heap ∧ va_K (dC, dI) vwCl [(cI, .int), (cZ, .boolean), (cL, .object RX3), (cJ, .array .int)] U ∧ va_D (fun _ => True) [(xo_1_riiiii k9 tc (nI z) nu (nI a) ce lo), (xI tc cI 16 ft)] ∧ stt (va_A [(xo_1_riiiii k9 tc (nI z) nu (nI a) ce lo), (xI tc cI 16 ft)] sz) U U.heap)) (va_Qi (fun r (_ : Unit) => r = ((bgX nu a ce lo (16 - dp) x (z, ft)).1)) (fun (_ : Unit) t => ∃ (zn : Nat) (ftn : Nat → Int32), va_P (dC, dI) vwCl [(xo_1_riiiii k9 tc (nI zn) nu (nI a) ce lo), (xI tc cI 16 ftn)] t.heap ∧ va_D (va_A [(xo_1_riiiii k9 tc (nI z) nu (nI a) ce lo), (xI tc cI 16 ft)] sz) [(xo_1_riiiii k9 tc (nI zn) nu (nI a) ce lo), (xI tc cI 16 ftn)] ∧ zn ≤ 16 ∧ (bgX nu a ce lo (16 - dp) x (z, ft)).2 = (zn, ftn)) (va_A [(xo_1_riiiii k9 tc (nI z) nu (nI a) ce lo), (xI tc cI 16 ft)] sz)) 0 0 (va_A [(xo_1_riiiii k9 tc (nI z) nu (nI a) ce lo), (xI tc cI 16 ft)] sz)) ∧ (∀ (l : Launch) (dC : Nat → ClassId) (dI : Nat → Nat → Nat) (cI cZ cL cJ : ClassId) (sz : Nat) (k9 : Nat) (tc : Nat) (z : Nat) (a : Nat) (nu : Int32) (ce : Int32) (lo : Int32) (ft : Nat → Int32) (x : Int32) (hz : z ≤ 16) (ha1 : 1 ≤ a) (ha5 : a ≤ 5) (hdn : dp ≤ 16) (hx01 : x = 0 ∨ x = 1), Met l yX1_askAnew wsX1_askAnew ({ frames := 41 - 2 * dp, cells := 0, slots := 0, locals := 4050 - 100 * dp }) (va_Pc [.ref k9, .int x, .int (nI dp)] (fun U => U.heap.size = sz ∧ va_P (dC, dI) vwCl [(xo_1_riiiii k9 tc (nI z) nu (nI a) ce lo), (xI tc cI 16 ft)] U.heap ∧ va_K (dC, dI) vwCl [(cI, .int), (cZ, .boolean), (cL, .object RX3), (cJ, .array .int)] U ∧ va_D (fun _ => True) [(xo_1_riiiii k9 tc (nI z) nu (nI a) ce lo), (xI tc cI 16 ft)] ∧ stt (va_A [(xo_1_riiiii k9 tc (nI z) nu (nI a) ce lo), (xI tc cI 16 ft)] sz) U U.heap)) (va_Qi (fun r (_ : Unit) => r = ((bgX nu a ce lo (16 - dp) (bfX a x) (z, ft)).1)) (fun (_ : Unit) t => ∃ (zn : Nat) (ftn : Nat → Int32), va_P (dC, dI) vwCl [(xo_1_riiiii k9 tc (nI zn) nu (nI a) ce lo), (xI tc cI 16 ftn)] t.heap ∧ va_D (va_A [(xo_1_riiiii k9 tc (nI z) nu (nI a) ce lo), (xI tc cI 16 ft)] sz) [(xo_1_riiiii k9 tc (nI zn) nu (nI a) ce lo), (xI tc cI 16 ftn)] ∧ zn ≤ 16 ∧ (bgX nu a ce lo (16 - dp) (bfX a x) (z, ft)).2 = (zn, ftn)) (va_A [(xo_1_riiiii k9 tc (nI z) nu (nI a) ce lo), (xI tc cI 16 ft)] sz)) 0 0 (va_A [(xo_1_riiiii k9 tc (nI z) nu (nI a) ce lo), (xI tc cI 16 ft)] sz))
  | 0, dp, hdp => by
    have b : ∀ (l : Launch) (dC : Nat → ClassId) (dI : Nat → Nat → Nat) (cI cZ cL cJ : ClassId) (sz : Nat) (k9 : Nat) (tc : Nat) (z : Nat) (a : Nat) (nu : Int32) (ce : Int32) (lo : Int32) (ft : Nat → Int32) (x : Int32) (hz : z ≤ 16) (ha1 : 1 ≤ a) (ha5 : a ≤ 5) (hdn : dp ≤ 16), Met l yX1_begin wsX1_begin ({ frames := 40 - 2 * dp, cells := 0, slots := 0, locals := 4000 - 100 * dp }) (va_Pc [.ref k9, .int x, .int (nI dp)] (fun U => U.heap.size = sz ∧ va_P (dC, dI) vwCl [(xo_1_riiiii k9 tc (nI z) nu (nI a) ce lo), (xI tc cI 16 ft)] U.heap ∧ va_K (dC, dI) vwCl [(cI, .int), (cZ, .boolean), (cL, .object RX3), (cJ, .array .int)] U ∧ va_D (fun _ => True) [(xo_1_riiiii k9 tc (nI z) nu (nI a) ce lo), (xI tc cI 16 ft)] ∧ stt (va_A [(xo_1_riiiii k9 tc (nI z) nu (nI a) ce lo), (xI tc cI 16 ft)] sz) U U.heap)) (va_Qi (fun r (_ : Unit) => r = ((bgX nu a ce lo (16 - dp) x (z, ft)).1)) (fun (_ : Unit) t => ∃ (zn : Nat) (ftn : Nat → Int32), va_P (dC, dI) vwCl [(xo_1_riiiii k9 tc (nI zn) nu (nI a) ce lo), (xI tc cI 16 ftn)] t.heap ∧ va_D (va_A [(xo_1_riiiii k9 tc (nI z) nu (nI a) ce lo), (xI tc cI 16 ft)] sz) [(xo_1_riiiii k9 tc (nI zn) nu (nI a) ce lo), (xI tc cI 16 ftn)] ∧ zn ≤ 16 ∧ (bgX nu a ce lo (16 - dp) x (z, ft)).2 = (zn, ftn)) (va_A [(xo_1_riiiii k9 tc (nI z) nu (nI a) ce lo), (xI tc cI 16 ft)] sz)) 0 0 (va_A [(xo_1_riiiii k9 tc (nI z) nu (nI a) ce lo), (xI tc cI 16 ft)] sz) := fun l dC dI cI cZ cL cJ sz k9 tc z a nu ce lo ft x hz ha1 ha5 hdn => r_X1_begin_s l dC dI cI cZ cL cJ sz k9 tc z a nu ce lo ft dp x hz ha1 ha5 hdn (fun l dC dI cI cZ cL cJ sz k9 tc z a nu ce lo ft x hz ha1 ha5 hdn => absurd hdn (by omega)) (fun l dC dI cI cZ cL cJ sz k9 tc z a nu ce lo ft x hz ha1 ha5 hdn hx01 => absurd hdn (by omega))
    exact ⟨b, fun l dC dI cI cZ cL cJ sz k9 tc z a nu ce lo ft x hz ha1 ha5 hdn hx01 => r_X1_askAnew_s l dC dI cI cZ cL cJ sz k9 tc z a nu ce lo ft dp x hz ha1 ha5 hdn hx01 b⟩
  | n_ + 1, dp, hdp => by
    have b : ∀ (l : Launch) (dC : Nat → ClassId) (dI : Nat → Nat → Nat) (cI cZ cL cJ : ClassId) (sz : Nat) (k9 : Nat) (tc : Nat) (z : Nat) (a : Nat) (nu : Int32) (ce : Int32) (lo : Int32) (ft : Nat → Int32) (x : Int32) (hz : z ≤ 16) (ha1 : 1 ≤ a) (ha5 : a ≤ 5) (hdn : dp ≤ 16), Met l yX1_begin wsX1_begin ({ frames := 40 - 2 * dp, cells := 0, slots := 0, locals := 4000 - 100 * dp }) (va_Pc [.ref k9, .int x, .int (nI dp)] (fun U => U.heap.size = sz ∧ va_P (dC, dI) vwCl [(xo_1_riiiii k9 tc (nI z) nu (nI a) ce lo), (xI tc cI 16 ft)] U.heap ∧ va_K (dC, dI) vwCl [(cI, .int), (cZ, .boolean), (cL, .object RX3), (cJ, .array .int)] U ∧ va_D (fun _ => True) [(xo_1_riiiii k9 tc (nI z) nu (nI a) ce lo), (xI tc cI 16 ft)] ∧ stt (va_A [(xo_1_riiiii k9 tc (nI z) nu (nI a) ce lo), (xI tc cI 16 ft)] sz) U U.heap)) (va_Qi (fun r (_ : Unit) => r = ((bgX nu a ce lo (16 - dp) x (z, ft)).1)) (fun (_ : Unit) t => ∃ (zn : Nat) (ftn : Nat → Int32), va_P (dC, dI) vwCl [(xo_1_riiiii k9 tc (nI zn) nu (nI a) ce lo), (xI tc cI 16 ftn)] t.heap ∧ va_D (va_A [(xo_1_riiiii k9 tc (nI z) nu (nI a) ce lo), (xI tc cI 16 ft)] sz) [(xo_1_riiiii k9 tc (nI zn) nu (nI a) ce lo), (xI tc cI 16 ftn)] ∧ zn ≤ 16 ∧ (bgX nu a ce lo (16 - dp) x (z, ft)).2 = (zn, ftn)) (va_A [(xo_1_riiiii k9 tc (nI z) nu (nI a) ce lo), (xI tc cI 16 ft)] sz)) 0 0 (va_A [(xo_1_riiiii k9 tc (nI z) nu (nI a) ce lo), (xI tc cI 16 ft)] sz) := fun l dC dI cI cZ cL cJ sz k9 tc z a nu ce lo ft x hz ha1 ha5 hdn => r_X1_begin_s l dC dI cI cZ cL cJ sz k9 tc z a nu ce lo ft dp x hz ha1 ha5 hdn (r_X1_i n_ (dp + 1) (by omega)).1 (r_X1_i n_ (dp + 1) (by omega)).2
    exact ⟨b, fun l dC dI cI cZ cL cJ sz k9 tc z a nu ce lo ft x hz ha1 ha5 hdn hx01 => r_X1_askAnew_s l dC dI cI cZ cL cJ sz k9 tc z a nu ce lo ft dp x hz ha1 ha5 hdn hx01 b⟩
theorem r_X1_askAnew (l : Launch) (dC : Nat → ClassId) (dI : Nat → Nat → Nat) (cI cZ cL cJ : ClassId) (sz : Nat) (k9 : Nat) (tc : Nat) (z : Nat) (a : Nat) (nu : Int32) (ce : Int32) (lo : Int32) (ft : Nat → Int32) (dp : Nat) (x : Int32) (hz : z ≤ 16) (ha1 : 1 ≤ a) (ha5 : a ≤ 5) (hdn : dp ≤ 16) (hx01 : x = 0 ∨ x = 1) : Met l yX1_askAnew wsX1_askAnew ({ frames := 41 - 2 * dp, cells := 0, slots := 0, locals := 4050 - 100 * dp }) (va_Pc [.ref k9, .int x, .int (nI dp)] (fun U => U.heap.size = sz ∧ va_P (dC, dI) vwCl [(xo_1_riiiii k9 tc (nI z) nu (nI a) ce lo), (xI tc cI 16 ft)] U.heap ∧ va_K (dC, dI) vwCl [(cI, .int), (cZ, .boolean), (cL, .object RX3), (cJ, .array .int)] U ∧ va_D (fun _ => True) [(xo_1_riiiii k9 tc (nI z) nu (nI a) ce lo), (xI tc cI 16 ft)] ∧ stt (va_A [(xo_1_riiiii k9 tc (nI z) nu (nI a) ce lo), (xI tc cI 16 ft)] sz) U U.heap)) (va_Qi (fun r (_ : Unit) => r = ((bgX nu a ce lo (16 - dp) (bfX a x) (z, ft)).1)) (fun (_ : Unit) t => ∃ (zn : Nat) (ftn : Nat → Int32), va_P (dC, dI) vwCl [(xo_1_riiiii k9 tc (nI zn) nu (nI a) ce lo), (xI tc cI 16 ftn)] t.heap ∧ va_D (va_A [(xo_1_riiiii k9 tc (nI z) nu (nI a) ce lo), (xI tc cI 16 ft)] sz) [(xo_1_riiiii k9 tc (nI zn) nu (nI a) ce lo), (xI tc cI 16 ftn)] ∧ zn ≤ 16 ∧ (bgX nu a ce lo (16 - dp) (bfX a x) (z, ft)).2 = (zn, ftn)) (va_A [(xo_1_riiiii k9 tc (nI z) nu (nI a) ce lo), (xI tc cI 16 ft)] sz)) 0 0 (va_A [(xo_1_riiiii k9 tc (nI z) nu (nI a) ce lo), (xI tc cI 16 ft)] sz) :=
  (r_X1_i 16 dp (by omega)).2 l dC dI cI cZ cL cJ sz k9 tc z a nu ce lo ft x hz ha1 ha5 hdn hx01
theorem lf_X1_answer_1 {z : Nat} {ft : Nat → Int32} {hh : Nat} {ww : Nat} {kk : Nat} {g2 : Nat → Int32} {g3 : Nat → Int32} {g4 : Nat → Int32} {i : Nat} {a : Nat} {x : Int32} {v_2 : Int32} {v_3 : Int32} {zn_4 : Nat} {ftn_4 : Nat → Int32} {r_4 : Int32} (hz : z ≤ 16) (hhb : hh ≤ 999) (hww : ww ≤ 6) (hkk : kk ≤ 6) (hi : i < 6) (ha1 : 1 ≤ a) (ha5 : a ≤ 5) (hka : g2 i = nI a) (hx01 : x = 0 ∨ x = 1) (e_2 : v_2 = g3 i) (e_3 : v_3 = g4 i) (hF_4_0 : zn_4 ≤ 16) (hF_4_1 : (bgX (nI i) a v_2 v_3 (16 - 0) (bfX a x) (0, ft)).2 = (zn_4, ftn_4)) (h_4 : r_4 = ((bgX (nI i) a v_2 v_3 (16 - 0) (bfX a x) (0, ft)).1)) : (bgX (nI i) a (g3 i) (g4 i) 16 (bfX a x) (0, ft)).2 = (zn_4, ftn_4) := by
  first | omega | (simp only [Nat.sub_zero] at *; grind)
theorem lf_X1_answer_2 {z : Nat} {ft : Nat → Int32} {hh : Nat} {ww : Nat} {kk : Nat} {g2 : Nat → Int32} {g3 : Nat → Int32} {g4 : Nat → Int32} {i : Nat} {a : Nat} {x : Int32} {v_2 : Int32} {v_3 : Int32} {zn_4 : Nat} {ftn_4 : Nat → Int32} {r_4 : Int32} (hz : z ≤ 16) (hhb : hh ≤ 999) (hww : ww ≤ 6) (hkk : kk ≤ 6) (hi : i < 6) (ha1 : 1 ≤ a) (ha5 : a ≤ 5) (hka : g2 i = nI a) (hx01 : x = 0 ∨ x = 1) (e_2 : v_2 = g3 i) (e_3 : v_3 = g4 i) (hF_4_0 : zn_4 ≤ 16) (hF_4_1 : (bgX (nI i) a v_2 v_3 (16 - 0) (bfX a x) (0, ft)).2 = (zn_4, ftn_4)) (h_4 : r_4 = ((bgX (nI i) a v_2 v_3 (16 - 0) (bfX a x) (0, ft)).1)) : r_4 = ((bgX (nI i) a (g3 i) (g4 i) 16 (bfX a x) (0, ft)).1) := by
  first | omega | (simp only [Nat.sub_zero] at *; grind)
set_option maxHeartbeats 4000000 in
set_option maxRecDepth 100000 in
theorem r_X1_answer (l : Launch) (dC : Nat → ClassId) (dI : Nat → Nat → Nat) (cI cZ cL cJ : ClassId) (sz : Nat) (k9 : Nat) (tc : Nat) (z : Nat) (nu : Int32) (ki : Int32) (ce : Int32) (lo : Int32) (ft : Nat → Int32) (h : Nat) (v0 : Int32) (v1 : Int32) (v2 : Int32) (v3 : Int32) (v5 : Int32) (hh : Nat) (ww : Nat) (kk : Nat) (b1 : Nat) (b2 : Nat) (b3 : Nat) (b4 : Nat) (b5 : Nat) (g1 : Nat → Int32) (g2 : Nat → Int32) (g3 : Nat → Int32) (g4 : Nat → Int32) (g5 : Nat → Int32) (i : Nat) (a : Nat) (x : Int32) (hz : z ≤ 16) (hhb : hh ≤ 999) (hww : ww ≤ 6) (hkk : kk ≤ 6) (hi : i < 6) (ha1 : 1 ≤ a) (ha5 : a ≤ 5) (hka : g2 i = nI a) (hx01 : x = 0 ∨ x = 1) : Met l yX1_answer wsX1_answer ({ frames := 42, cells := 0, slots := 0, locals := 4072 }) (va_Pc [.ref k9, .ref h, .int (nI i), .int x] (fun U => U.heap.size = sz ∧ va_P (dC, dI) vwCl [(xo_1_riiiii k9 tc (nI z) nu ki ce lo), (xI tc cI 16 ft), (xo_3_iiiiiiiirrrrr h v0 v1 v2 v3 (nI hh) v5 (nI ww) (nI kk) b1 b2 b3 b4 b5), (xI b1 cI 6 g1), (xI b2 cI 6 g2), (xI b3 cI 6 g3), (xI b4 cI 6 g4), (xI b5 cI 6 g5)] U.heap ∧ va_K (dC, dI) vwCl [(cI, .int), (cZ, .boolean), (cL, .object RX3), (cJ, .array .int)] U ∧ va_D (fun _ => True) [(xo_1_riiiii k9 tc (nI z) nu ki ce lo), (xI tc cI 16 ft), (xo_3_iiiiiiiirrrrr h v0 v1 v2 v3 (nI hh) v5 (nI ww) (nI kk) b1 b2 b3 b4 b5), (xI b1 cI 6 g1), (xI b2 cI 6 g2), (xI b3 cI 6 g3), (xI b4 cI 6 g4), (xI b5 cI 6 g5)] ∧ stt (va_A [(xo_1_riiiii k9 tc (nI z) nu ki ce lo), (xI tc cI 16 ft), (xo_3_iiiiiiiirrrrr h v0 v1 v2 v3 (nI hh) v5 (nI ww) (nI kk) b1 b2 b3 b4 b5), (xI b1 cI 6 g1), (xI b2 cI 6 g2), (xI b3 cI 6 g3), (xI b4 cI 6 g4), (xI b5 cI 6 g5)] sz) U U.heap)) (va_Qi (fun r (_ : Unit) => r = ((bgX (nI i) a (g3 i) (g4 i) 16 (bfX a x) (0, ft)).1)) (fun (_ : Unit) t => ∃ (zn : Nat) (nun : Int32) (kin : Int32) (cen : Int32) (lon : Int32) (ftn : Nat → Int32), va_P (dC, dI) vwCl [(xo_1_riiiii k9 tc (nI zn) nun kin cen lon), (xI tc cI 16 ftn), (xo_3_iiiiiiiirrrrr h v0 v1 v2 v3 (nI hh) v5 (nI ww) (nI kk) b1 b2 b3 b4 b5), (xI b1 cI 6 g1), (xI b2 cI 6 g2), (xI b3 cI 6 g3), (xI b4 cI 6 g4), (xI b5 cI 6 g5)] t.heap ∧ va_D (va_A [(xo_1_riiiii k9 tc (nI z) nu ki ce lo), (xI tc cI 16 ft), (xo_3_iiiiiiiirrrrr h v0 v1 v2 v3 (nI hh) v5 (nI ww) (nI kk) b1 b2 b3 b4 b5), (xI b1 cI 6 g1), (xI b2 cI 6 g2), (xI b3 cI 6 g3), (xI b4 cI 6 g4), (xI b5 cI 6 g5)] sz) [(xo_1_riiiii k9 tc (nI zn) nun kin cen lon), (xI tc cI 16 ftn), (xo_3_iiiiiiiirrrrr h v0 v1 v2 v3 (nI hh) v5 (nI ww) (nI kk) b1 b2 b3 b4 b5), (xI b1 cI 6 g1), (xI b2 cI 6 g2), (xI b3 cI 6 g3), (xI b4 cI 6 g4), (xI b5 cI 6 g5)] ∧ zn ≤ 16 ∧ (bgX (nI i) a (g3 i) (g4 i) 16 (bfX a x) (0, ft)).2 = (zn, ftn)) (va_A [(xo_1_riiiii k9 tc (nI z) nu ki ce lo), (xI tc cI 16 ft), (xo_3_iiiiiiiirrrrr h v0 v1 v2 v3 (nI hh) v5 (nI ww) (nI kk) b1 b2 b3 b4 b5), (xI b1 cI 6 g1), (xI b2 cI 6 g2), (xI b3 cI 6 g3), (xI b4 cI 6 g4), (xI b5 cI 6 g5)] sz)) 0 0 (va_A [(xo_1_riiiii k9 tc (nI z) nu ki ce lo), (xI tc cI 16 ft), (xo_3_iiiiiiiirrrrr h v0 v1 v2 v3 (nI hh) v5 (nI ww) (nI kk) b1 b2 b3 b4 b5), (xI b1 cI 6 g1), (xI b2 cI 6 g2), (xI b3 cI 6 g3), (xI b4 cI 6 g4), (xI b5 cI 6 g5)] sz) := by
  refine Met.ofW (cc := cX1_answer) (maxL := 4) (ret := (some .int)) (by decide) rfl ?_
  intro p e s m args below meth c s₁ B hml hv
  obtain ⟨rfl, hsz, hP, hK, hD0, hst⟩ := hv
  have hx := B.exec
  have hb := B.bytes
  have hr := B.returns
  have hts := atoms_spec (ws := wsX1_answer) B.pre
  have hown : s.vm.findClass RX1 = some m.cls := findClass_of_methodNamed B.named
  have hlocks := B.notSynchronized
  subst hsz
  have hD := hD0.self (sz := s.heap.size)
  generalize hAe : va_A [(xo_1_riiiii k9 tc (nI z) nu ki ce lo), (xI tc cI 16 ft), (xo_3_iiiiiiiirrrrr h v0 v1 v2 v3 (nI hh) v5 (nI ww) (nI kk) b1 b2 b3 b4 b5), (xI b1 cI 6 g1), (xI b2 cI 6 g2), (xI b3 cI 6 g3), (xI b4 cI 6 g4), (xI b5 cI 6 g5)] s.heap.size = A at hD hst ⊢
  have hA : ∀ q : Nat, s.heap.size ≤ q → A q := fun q h => by rw [← hAe]; exact Or.inr h
  have hS : va_S A s.heap s.heap [] := va_S.rf
  have hP : va_P (dC, dI) vwCl [(xo_1_riiiii k9 tc (nI z) nu ki ce lo), (xI tc cI 16 ft), (xo_3_iiiiiiiirrrrr h v0 v1 v2 v3 (nI hh) v5 (nI ww) (nI kk) b1 b2 b3 b4 b5), (xI b1 cI 6 g1), (xI b2 cI 6 g2), (xI b3 cI 6 g3), (xI b4 cI 6 g4), (xI b5 cI 6 g5)] s.heap := hP
  obtain ⟨⟨tb1, hZ1, hT1⟩, ⟨tb2, hZ2, hT2⟩, ⟨tb3, hZ3, hT3⟩, hNk⟩ := id hst
  have hl := lv_entry ([.ref k9, .ref h, .int (nI i), .int x]) (n := 4) (Nat.le_of_ble_eq_true rfl)
  rw [lg_entry_eq]
  generalize (lg_sl ([.ref k9, .ref h, .int (nI i), .int x]) ++ List.replicate (4 - (lg_sl ([.ref k9, .ref h, .int (nI i), .int x])).length) Slot.unset).toArray = ls at hl ⊢
  have hl : lv_has ls 4 [(0, .ref k9), (1, .ref h), (2, .int (nI i)), (3, .int x)] := hl
  refine lv_aload_n hx hb dX1_answer_0 rfl (lv_at hl 0 rfl) ?_
  refine lv_iconst (v := 0) hx hb dX1_answer_1 (by decide) ?_
  refine va_put (D := (dC, dI)) (ci := 1) (v := .int 0) (ty := .int) (C := RX1) (T := TX1) (N := 6) hx hb hts i_X1_answer_X1 tyX1 tyX1_ok nmX1 hown hK hP hD hS 0 rfl rfl 1 (by decide) (hts _ mx_X1_answer_1) (fun _ h9 => h9) rfl (by decide +kernel) rfl rfl (Nat.le_of_ble_eq_true rfl) dX1_answer_2 (fun H locs hP hD hS => ?_)
  have hP : va_P (dC, dI) vwCl [(xo_1_riiiii k9 tc 0 nu ki ce lo), (xI tc cI 16 ft), (xo_3_iiiiiiiirrrrr h v0 v1 v2 v3 (nI hh) v5 (nI ww) (nI kk) b1 b2 b3 b4 b5), (xI b1 cI 6 g1), (xI b2 cI 6 g2), (xI b3 cI 6 g3), (xI b4 cI 6 g4), (xI b5 cI 6 g5)] H := hP
  have hD := dto hP hD
  refine lv_aload_n hx hb dX1_answer_5 rfl (lv_at hl 0 rfl) ?_
  refine lv_iload_n hx hb dX1_answer_6 rfl (lv_at hl 2 rfl) ?_
  refine va_put (D := (dC, dI)) (ci := 1) (v := .int (nI i)) (ty := .int) (C := RX1) (T := TX1) (N := 6) hx hb hts i_X1_answer_X1 tyX1 tyX1_ok nmX1 hown hK hP hD hS 0 rfl rfl 2 (by decide) (hts _ mx_X1_answer_2) (fun _ h9 => h9) rfl (by decide +kernel) rfl rfl (Nat.le_of_ble_eq_true rfl) dX1_answer_7 (fun H locs hP hD hS => ?_)
  have hP : va_P (dC, dI) vwCl [(xo_1_riiiii k9 tc 0 (nI i) ki ce lo), (xI tc cI 16 ft), (xo_3_iiiiiiiirrrrr h v0 v1 v2 v3 (nI hh) v5 (nI ww) (nI kk) b1 b2 b3 b4 b5), (xI b1 cI 6 g1), (xI b2 cI 6 g2), (xI b3 cI 6 g3), (xI b4 cI 6 g4), (xI b5 cI 6 g5)] H := hP
  have hD := dto hP hD
  refine lv_aload_n hx hb dX1_answer_10 rfl (lv_at hl 0 rfl) ?_
  refine lv_aload_n hx hb dX1_answer_11 rfl (lv_at hl 1 rfl) ?_
  refine va_get (D := (dC, dI)) (ci := 3) (v := .ref b2) (C := RX3) (T := TX3) (N := 13) hx hb hts i_X1_answer_X3 hown hK hP 2 rfl rfl 9 (by decide) (hts _ mx_X1_answer_3) (fun _ h9 => h9) rfl dX1_answer_12 ?_
  refine lv_iload_n hx hb dX1_answer_15 rfl (lv_at hl 2 rfl) ?_
  refine va_iald hx hb hK hP 4 0 rfl rfl (vp_in_nI (by omega) (by omega)) dX1_answer_16 ?_
  refine lv_topi (fun v_1 e_1 => ?_)
  obtain rfl : v_1 = nI a := (e_1.trans (congrArg g2 (nI_clamp (by omega)))).trans hka
  refine va_put (D := (dC, dI)) (ci := 1) (v := .int (nI a)) (ty := .int) (C := RX1) (T := TX1) (N := 6) hx hb hts i_X1_answer_X1 tyX1 tyX1_ok nmX1 hown hK hP hD hS 0 rfl rfl 3 (by decide) (hts _ mx_X1_answer_4) (fun _ h9 => h9) rfl (by decide +kernel) rfl rfl (Nat.le_of_ble_eq_true rfl) dX1_answer_17 (fun H locs hP hD hS => ?_)
  have hP : va_P (dC, dI) vwCl [(xo_1_riiiii k9 tc 0 (nI i) (nI a) ce lo), (xI tc cI 16 ft), (xo_3_iiiiiiiirrrrr h v0 v1 v2 v3 (nI hh) v5 (nI ww) (nI kk) b1 b2 b3 b4 b5), (xI b1 cI 6 g1), (xI b2 cI 6 g2), (xI b3 cI 6 g3), (xI b4 cI 6 g4), (xI b5 cI 6 g5)] H := hP
  have hD := dto hP hD
  refine lv_aload_n hx hb dX1_answer_20 rfl (lv_at hl 0 rfl) ?_
  refine lv_aload_n hx hb dX1_answer_21 rfl (lv_at hl 1 rfl) ?_
  refine va_get (D := (dC, dI)) (ci := 3) (v := .ref b3) (C := RX3) (T := TX3) (N := 13) hx hb hts i_X1_answer_X3 hown hK hP 2 rfl rfl 10 (by decide) (hts _ mx_X1_answer_5) (fun _ h9 => h9) rfl dX1_answer_22 ?_
  refine lv_iload_n hx hb dX1_answer_25 rfl (lv_at hl 2 rfl) ?_
  refine va_iald hx hb hK hP 5 0 rfl rfl (vp_in_nI (by omega) (by omega)) dX1_answer_26 ?_
  refine lv_topi (fun v_2 e_2 => ?_)
  have e_2 : v_2 = g3 i := e_2.trans (congrArg g3 (nI_clamp (by omega)))
  refine va_put (D := (dC, dI)) (ci := 1) (v := .int v_2) (ty := .int) (C := RX1) (T := TX1) (N := 6) hx hb hts i_X1_answer_X1 tyX1 tyX1_ok nmX1 hown hK hP hD hS 0 rfl rfl 4 (by decide) (hts _ mx_X1_answer_6) (fun _ h9 => h9) rfl (by decide +kernel) rfl rfl (Nat.le_of_ble_eq_true rfl) dX1_answer_27 (fun H locs hP hD hS => ?_)
  have hP : va_P (dC, dI) vwCl [(xo_1_riiiii k9 tc 0 (nI i) (nI a) v_2 lo), (xI tc cI 16 ft), (xo_3_iiiiiiiirrrrr h v0 v1 v2 v3 (nI hh) v5 (nI ww) (nI kk) b1 b2 b3 b4 b5), (xI b1 cI 6 g1), (xI b2 cI 6 g2), (xI b3 cI 6 g3), (xI b4 cI 6 g4), (xI b5 cI 6 g5)] H := hP
  have hD := dto hP hD
  refine lv_aload_n hx hb dX1_answer_30 rfl (lv_at hl 0 rfl) ?_
  refine lv_aload_n hx hb dX1_answer_31 rfl (lv_at hl 1 rfl) ?_
  refine va_get (D := (dC, dI)) (ci := 3) (v := .ref b4) (C := RX3) (T := TX3) (N := 13) hx hb hts i_X1_answer_X3 hown hK hP 2 rfl rfl 11 (by decide) (hts _ mx_X1_answer_7) (fun _ h9 => h9) rfl dX1_answer_32 ?_
  refine lv_iload_n hx hb dX1_answer_35 rfl (lv_at hl 2 rfl) ?_
  refine va_iald hx hb hK hP 6 0 rfl rfl (vp_in_nI (by omega) (by omega)) dX1_answer_36 ?_
  refine lv_topi (fun v_3 e_3 => ?_)
  have e_3 : v_3 = g4 i := e_3.trans (congrArg g4 (nI_clamp (by omega)))
  refine va_put (D := (dC, dI)) (ci := 1) (v := .int v_3) (ty := .int) (C := RX1) (T := TX1) (N := 6) hx hb hts i_X1_answer_X1 tyX1 tyX1_ok nmX1 hown hK hP hD hS 0 rfl rfl 5 (by decide) (hts _ mx_X1_answer_8) (fun _ h9 => h9) rfl (by decide +kernel) rfl rfl (Nat.le_of_ble_eq_true rfl) dX1_answer_37 (fun H locs hP hD hS => ?_)
  have hP : va_P (dC, dI) vwCl [(xo_1_riiiii k9 tc 0 (nI i) (nI a) v_2 v_3), (xI tc cI 16 ft), (xo_3_iiiiiiiirrrrr h v0 v1 v2 v3 (nI hh) v5 (nI ww) (nI kk) b1 b2 b3 b4 b5), (xI b1 cI 6 g1), (xI b2 cI 6 g2), (xI b3 cI 6 g3), (xI b4 cI 6 g4), (xI b5 cI 6 g5)] H := hP
  have hD := dto hP hD
  refine lv_aload_n hx hb dX1_answer_40 rfl (lv_at hl 0 rfl) ?_
  refine lv_iload_n hx hb dX1_answer_41 rfl (lv_at hl 3 rfl) ?_
  refine lv_iconst (v := 0) hx hb dX1_answer_42 (by decide) ?_
  have hc_4 := cutW (wc := [(xo_1_riiiii k9 tc (nI 0) (nI i) (nI a) v_2 v_3), (xI tc cI 16 ft)]) hP hD hS hA [0, 1] (by decide +kernel) rfl
  refine va_calli (va_runV (As := [.int x, .int 0]) (rest := []) ⟨hx, hb, hml, hown, hts⟩ (r_X1_askAnew l dC dI cI cZ cL cJ H.size k9 tc 0 a (nI i) v_2 v_3 ft 0 x (by omega) (ha1) (ha5) (by omega) (hx01)) (cwV 2 hts gX1_answer_X1_askAnew rfl rfl rfl (by decide +kernel) ⟨Nat.le_of_ble_eq_true rfl, Nat.le_of_ble_eq_true rfl⟩) ⟨fun a U g mk q => by obtain ⟨q0, q1, qP, qK, qD, qS⟩ := q; exact ⟨q0, q1, qP, va_K.moved (u := U) (U := U.calling g mk a) (Vm.Alike.refl U.vm) qK, qD, stt_same rfl qS⟩, va_recv hK hP (ci := 1) (q0 := 0) rfl rfl, fun U hU hW => ⟨rfl, by rw [hU], by rw [hU]; exact hc_4.1, va_K.moved hW.alike hK, hc_4.2.1.weaken (fun _ _ _ _ => trivial), by rw [hU]; exact stt_warm hW (stt_narrow (stt_kept hst hS.2.1) hc_4.2.2)⟩⟩ rfl rfl hl.1 rfl (lv_room (Nat.le_of_ble_eq_true rfl)) dX1_answer_43 ⟨Nat.le_of_ble_eq_true rfl, Nat.le_of_ble_eq_true rfl⟩) hS (fun q _ h => hc_4.2.2 q h) hc_4.2.2 (fun r_4 u_4 t_4 H1 locs ht hvm h_4 hB hz1 hk1 hS => ?_)
  refine xl_2_4 hB (fun zn_4 ftn_4 hP1 hD1 hF_4_0 hF_4_1 => ?_)
  clear hB
  rw [ht] at hP1
  obtain ⟨hP, hD⟩ := va_join (wr := [(xo_3_iiiiiiiirrrrr h v0 v1 v2 v3 (nI hh) v5 (nI ww) (nI kk) b1 b2 b3 b4 b5), (xI b1 cI 6 g1), (xI b2 cI 6 g2), (xI b3 cI 6 g3), (xI b4 cI 6 g4), (xI b5 cI 6 g5)]) (w1 := [(xo_1_riiiii k9 tc (nI zn_4) (nI i) (nI a) v_2 v_3), (xI tc cI 16 ftn_4)]) hP hD [0, 1] [2, 3, 4, 5, 6, 7] rfl rfl (by decide +kernel) (by decide +kernel) hk1 hc_4.2.2 hP1 hD1
  generalize H1 = H at hP hS ⊢
  have hP : va_P (dC, dI) vwCl [(xo_3_iiiiiiiirrrrr h v0 v1 v2 v3 (nI hh) v5 (nI ww) (nI kk) b1 b2 b3 b4 b5), (xI b1 cI 6 g1), (xI b2 cI 6 g2), (xI b3 cI 6 g3), (xI b4 cI 6 g4), (xI b5 cI 6 g5), (xo_1_riiiii k9 tc (nI zn_4) (nI i) (nI a) v_2 v_3), (xI tc cI 16 ftn_4)] H := hP
  have hD := dto hP hD
  have hX9 := cut2 (wc := [(xo_1_riiiii k9 tc (nI zn_4) (nI i) (nI a) v_2 v_3), (xI tc cI 16 ftn_4), (xo_3_iiiiiiiirrrrr h v0 v1 v2 v3 (nI hh) v5 (nI ww) (nI kk) b1 b2 b3 b4 b5), (xI b1 cI 6 g1), (xI b2 cI 6 g2), (xI b3 cI 6 g3), (xI b4 cI 6 g4), (xI b5 cI 6 g5)]) hP hD [6, 7, 0, 1, 2, 3, 4, 5] (by decide +kernel) rfl
  exact W.iret (v := r_4) hx hb hr (fun t ht hW => ⟨⟨r_4, (), rfl, (lf_X1_answer_2 hz hhb hww hkk hi ha1 ha5 hka hx01 e_2 e_3 hF_4_0 hF_4_1 h_4), ⟨zn_4, (nI i), (nI a), v_2, v_3, ftn_4, va_Ht ht hX9.1, hX9.2, (by omega), (lf_X1_answer_1 hz hhb hww hkk hi ha1 ha5 hka hx01 e_2 e_3 hF_4_0 hF_4_1 h_4)⟩⟩, hS.F ht⟩) hS.2.2 dX1_answer_46
-- 24.mill_d
theorem nI_inj {a b : Nat} (h : nI a = nI b) (ha : a < 2 ^ 31) (hb : b < 2 ^ 31) : a = b := (nI_eq ha hb).mp h
theorem shl1 : ∀ w : Nat, w ≤ 6 → ∃ sh : Nat, (1 : Int32) <<< (nI w &&& 31) = nI sh ∧ sh ≤ 64 := by
  intro w hw
  rcases (show w = 0 ∨ w = 1 ∨ w = 2 ∨ w = 3 ∨ w = 4 ∨ w = 5 ∨ w = 6 by omega) with rfl | rfl | rfl | rfl | rfl | rfl | rfl
  · exact ⟨1, by decide, by decide⟩
  · exact ⟨2, by decide, by decide⟩
  · exact ⟨4, by decide, by decide⟩
  · exact ⟨8, by decide, by decide⟩
  · exact ⟨16, by decide, by decide⟩
  · exact ⟨32, by decide, by decide⟩
  · exact ⟨64, by decide, by decide⟩
theorem in_61 {x : Int32} (h1 : ¬ x < 0) (h2 : ¬ 60 < x) : vp_in x 61 := by
  rw [vp_in_iff]
  rw [Int32.lt_iff_toInt_lt] at h1 h2
  have e1 : (0 : Int32).toInt = 0 := rfl
  have e2 : (60 : Int32).toInt = 60 := rfl
  rw [e1] at h1
  rw [e2] at h2
  constructor <;> omega
theorem in_13 {x : Int32} (h1 : ¬ x < 1) (h2 : ¬ 12 < x) : vp_in x 13 := by
  rw [vp_in_iff]
  rw [Int32.lt_iff_toInt_lt] at h1 h2
  have e1 : (1 : Int32).toInt = 1 := rfl
  have e2 : (12 : Int32).toInt = 12 := rfl
  rw [e1] at h1
  rw [e2] at h2
  constructor <;> omega
/-- a number by two tests: at least 0 or 1, at most n -/
theorem nat_le {x y : Int32} {n : Nat} (h1 : ¬ x < 0) (hy : y.toInt = n) (h2 : x ≤ y) (hn : n < 2 ^ 30) : ∃ j : Nat, j ≤ n ∧ x = nI j := by
  obtain ⟨j, hj, rfl⟩ := nI_of h1
  rw [Int32.le_iff_toInt_le, hy, nI_toInt hj] at h2
  exact ⟨j, by omega, rfl⟩
theorem nn_1 {x : Int32} (h : ¬ x < 1) : ¬ x < 0 := by
  rw [Int32.lt_iff_toInt_lt] at h ⊢
  have e1 : (1 : Int32).toInt = 1 := rfl
  have e2 : (0 : Int32).toInt = 0 := rfl
  rw [e1] at h
  rw [e2]
  omega
theorem le_nlt {x y : Int32} (h : ¬ y < x) : x ≤ y := i_nlt.mp h
theorem lt_le_ {x : Int32} (h : x < 2) : x ≤ 1 := by
  rw [Int32.lt_iff_toInt_lt] at h
  rw [Int32.le_iff_toInt_le]
  have e1 : (1 : Int32).toInt = 1 := rfl
  have e2 : (2 : Int32).toInt = 2 := rfl
  rw [e2] at h
  rw [e1]
  omega
noncomputable abbrev hrB (a n : Int32) : Prop := badr a ∨ (n < 1 ∨ 12 < n)
/-! what is asked, what is done: on the row -/
noncomputable abbrev sB (k n : Int32) : Prop := ¬ n < 0 ∧ ¬ k ≤ n
noncomputable def okLv (r : RF) : Prop := r = zR ∨ okN 999 r
noncomputable def guS (r : RF) (j : Nat) : Int32 := r (8 + ((r 5).toNatClampNeg + j) % (r 3).toNatClampNeg)
noncomputable def a_kind (r : RF) (n : Int32) : Int32 := if sB (r 4) n then r (14 + n.toNatClampNeg) else -1000001
noncomputable def a_gust (r : RF) (n : Int32) : Int32 := if r 0 = 0 then -1000002 else if n < 0 ∨ 60 < n then -1000001 else guS r n.toNatClampNeg
noncomputable def a_sound (r : RF) (s w : Int32) : Int32 := if ¬ sB (r 4) s ∨ (w < 0 ∨ 3 < w) then -1000001 else if w = 3 then dfM (r (14 + s.toNatClampNeg)) (guS r 0 - 2) else if w = 0 then (if r (26 + s.toNatClampNeg) = 0 then r (20 + s.toNatClampNeg) else -1000000) else if w = 1 then r (26 + s.toNatClampNeg) else r (32 + s.toNatClampNeg)
noncomputable def a_stand (r : RF) (w : Int32) : Int32 := if r 0 = 0 then -1000002 else if w = 0 then r 0 else if w = 1 then r 1 else if w = 2 then r 2 else if w = 3 then r 6 else if w = 4 then thS r 0 else if w = 5 then thS r 1 else if w = 6 then thS r 2 else -1000001
/-- ones of a number below 64 -/
noncomputable def onN (n : Nat) : Nat := n % 2 + n / 2 % 2 + n / 4 % 2 + n / 8 % 2 + n / 16 % 2 + n / 32 % 2
noncomputable def a_count (Rl : RF) (r : RF) (An zt : Nat) (w : Int32) : Int32 := if w = 0 then prR Rl 8 else if w = 1 then r 4 else if w = 2 then r 3 else if w = 3 then r 5 else if w = 4 then r 7 else if w = 5 then nI (onN (thS r 0).toNatClampNeg) else if w = 6 then nI An else if w = 7 then nI zt else -1000001
/-- whether a kind is (also) another -/
noncomputable abbrev isK (of kind : Int32) : Prop := kind = 0 ∨ of = kind ∨ (kind = 1 ∧ of < 4) ∨ (kind = 4 ∧ of = 5)
noncomputable def a_as (r : RF) (s k : Int32) : Int32 := if ¬ sB (r 4) s ∨ (k < 0 ∨ 5 < k) then -1000001 else if isK (r (14 + s.toNatClampNeg)) k then s else -1000013
/-! acts: whether one is done, what it answers, the row behind it -/
noncomputable abbrev gd_cap (r : RF) : Prop := ¬ r 0 = 0
noncomputable def a_cap (r : RF) : Int32 := if gd_cap r then 1 - r 6 else -1000002
noncomputable def n_cap (r : RF) : RF := if gd_cap r then upd r 6 (1 - r 6) else r
noncomputable abbrev gd_wind (r : RF) (w v : Int32) : Prop := sB (r 3) w ∧ ¬ (v < 0 ∨ 4 < v)
noncomputable def a_wind (r : RF) (w v : Int32) : Int32 := if gd_wind r w v then r (8 + w.toNatClampNeg) else -1000001
noncomputable def n_wind (r : RF) (w v : Int32) : RF := if gd_wind r w v then upd r (8 + w.toNatClampNeg) v else r
noncomputable abbrev ok_loose (r : RF) (s c l : Int32) : Prop := sB (r 4) s ∧ sB (r 0) c ∧ ¬ (l < 1 ∨ 20 < l)
noncomputable abbrev gd_loose (r : RF) (s c l : Int32) : Prop := ok_loose r s c l ∧ ¬ r (26 + s.toNatClampNeg) = 0
noncomputable def n_loose (r : RF) (s c l : Int32) : RF := if gd_loose r s c l then upd (upd (upd r (26 + s.toNatClampNeg) 0) (20 + s.toNatClampNeg) c) (32 + s.toNatClampNeg) l else r
noncomputable def a_loose (r : RF) (s c l : Int32) : Int32 := if ¬ ok_loose r s c l then -1000001 else if r (26 + s.toNatClampNeg) = 0 then -1000002 else thS (n_loose r s c l) 0
noncomputable abbrev gd_sell (r : RF) (n : Int32) : Prop := ¬ r 0 = 0 ∧ ¬ (n < 1 ∨ 999 < n) ∧ ¬ r 7 < n
noncomputable def n_sell (r : RF) (n : Int32) : RF := if gd_sell r n then upd r 7 (r 7 - n) else r
noncomputable def a_sell (r : RF) (n : Int32) : Int32 := if r 0 = 0 then -1000002 else if n < 1 ∨ 999 < n then -1000001 else if r 7 < n then -1000002 else r 7 - n
/-- hours: the row, how many acts, the acts -/
noncomputable def hrI : Nat → RF → Nat → AC → RF × Nat × AC
  | 0, r, n, a => (r, n, a)
  | t + 1, r, n, a => (mH (hrI t r n a).1, ntN (hrI t r n a).2.1, ntA (hrI t r n a).1 (hrI t r n a).2.1 (hrI t r n a).2.2)
noncomputable abbrev gd_hrs (r : RF) (n : Int32) : Prop := ¬ r 0 = 0 ∧ ¬ (n < 1 ∨ 24 < n) ∧ ¬ 999 < r 5 + n
noncomputable def s_hrs (r : RF) (An : Nat) (Ac : AC) (n : Int32) : RF × Nat × AC := if gd_hrs r n then hrI n.toNatClampNeg r An Ac else (r, An, Ac)
noncomputable def a_hrs (r : RF) (n : Int32) : Int32 := if r 0 = 0 then -1000002 else if n < 1 ∨ 24 < n then -1000001 else if 999 < r 5 + n then -1000003 else mGo n.toNatClampNeg r 7
noncomputable def a_undo (An : Nat) : Int32 := if An = 0 then -1000002 else nI (An - 1)
noncomputable def n_undo (r : RF) (An : Nat) (Ac : AC) : RF := if An = 0 then r else Ac (An - 1)
/-- images -/
noncomputable abbrev bd2 (k : Int32) : Prop := k < 0 ∨ ¬ k < 2
noncomputable def a_image (r : RF) (k : Int32) : Int32 := if bd2 k then -1000001 else if r 0 = 0 then -1000002 else 1
noncomputable def n_image (r I : RF) (k j : Int32) : RF := if k = j ∧ ¬ r 0 = 0 then r else I
noncomputable def pkI (I0 I1 : RF) (k : Int32) : RF := if k = 0 then I0 else I1
noncomputable abbrev gd_rst (I0 I1 : RF) (k : Int32) : Prop := ¬ bd2 k ∧ ¬ pkI I0 I1 k 0 = 0
noncomputable def a_rst (I0 I1 : RF) (k : Int32) : Int32 := if bd2 k then -1000001 else if pkI I0 I1 k 0 = 0 then -1000002 else 1
/-- what is told -/
noncomputable def n_lev (g : Prop) [Decidable g] (row r : RF) : RF := if g then row else r
noncomputable def n_levN (g : Prop) [Decidable g] (n : Nat) : Nat := if g then 0 else n
noncomputable def n_levA (g : Prop) [Decidable g] (a : AC) : AC := if g then (fun _ => zR) else a
/-- findings -/
noncomputable def f_row (a b n sg : Int32) : Int32 := if (a < 0 ∨ 8 ≤ a) ∨ (b < 0 ∨ 2 < b) ∨ ¬ n ≤ 40 then sg else if 0 ≤ n then 0 else 4
noncomputable def f_as (r : RF) (s k sg : Int32) : Int32 := if ¬ sB (r 4) s ∨ (k < 0 ∨ 5 < k) then sg else if isK (r (14 + s.toNatClampNeg)) k then 0 else 3
theorem ldR_c {h g : RF} {m : Int32} : ∀ n : Nat, (∀ i : Nat, i < n → h i = g i) → ldR h m n = ldR g m n
  | 0, _ => rfl
  | n + 1, e => by
    show ldR h m n + (if m >>> (nI n &&& 31) &&& 1 = 1 then h n else 0) = ldR g m n + (if m >>> (nI n &&& 31) &&& 1 = 1 then g n else 0)
    rw [ldR_c n (fun i hi => e i (by omega)), e n (by omega)]
theorem sB_ok {j k : Nat} (hj : j < k) (hk : k < 2 ^ 31) : sB (nI k) (nI j) := ⟨nI_pos (by omega), nI_ge hj hk⟩
theorem n60 {j : Nat} (h : j < 61) : ¬ (60 : Int32) < nI j := nI_nlt (a := 60) (by omega) (by decide)
section SP
variable {v0 v1 v2 v3 v5 : Int32} {hh ww kk : Nat} {g1 g2 g3 g4 g5 : RF}
theorem gu_nrm {j : Nat} (hw : ww ≤ 6) (hw1 : 1 ≤ ww) (hH : hh < 2 ^ 31) : guS (nrm v0 v1 v2 v3 hh v5 ww kk g1 g2 g3 g4 g5) j = wdX g1 ww hh j := by
  unfold guS wdX
  rw [nr5, nr3, nI_clamp hH, nI_clamp (by omega), nrg1 (Nat.mod_lt _ (by omega)) hw, if_neg (by omega)]
/-- whether a level is told -/
theorem tX (h : okLv (nrm v0 v1 v2 v3 hh v5 ww kk g1 g2 g3 g4 g5)) (hw : ww ≤ 6) (hk : kk ≤ 6) (hH : hh < 2 ^ 31) : (¬ 0 < v0 → v0 = 0 ∧ kk = 0 ∧ ww = 0) ∧ (0 < v0 → ¬ v0 = 0 ∧ 1 ≤ ww ∧ 1 ≤ kk ∧ okRow 999 (nrm v0 v1 v2 v3 hh v5 ww kk g1 g2 g3 g4 g5)) := by
  rcases h with h | h
  · have e0 : v0 = 0 := congrFun h 0
    have e3 : nI ww = nI 0 := congrFun h 3
    have e4 : nI kk = nI 0 := congrFun h 4
    rw [nI_eq (by omega) (by decide)] at e3 e4
    exact ⟨fun _ => ⟨e0, e4, e3⟩, fun q => absurd q (by rw [e0]; decide)⟩
  · obtain ⟨_, _, _, _, _, _, _, _, _, _, _, _, _, -, -, -, -, h⟩ := h
    obtain ⟨c, m, re, ca, me, E, B, -, -⟩ := okRow_X h hw hk hH
    have p : 0 < v0 := by
      rw [E.1]
      exact nI_lt (a := 0) (by omega) (by omega)
    exact ⟨fun q => absurd p q, fun _ => ⟨by rw [E.1]; exact nI_ne0 (by omega) (by omega), B.2.2.2.2.1, B.2.2.2.2.2.1, h⟩⟩
theorem or63 {a b : Nat} (ha : a ≤ 63) (hb : b ≤ 63) : ∃ z : Nat, z ≤ 63 ∧ nI a ||| nI b = nI z := by
  have h1 : a ||| b < 2 ^ 6 := Nat.or_lt_two_pow (by omega) (by omega)
  refine ⟨a ||| b, by omega, ?_⟩
  apply Int32.toBitVec_inj.mp
  apply BitVec.eq_of_toNat_eq
  rw [Int32.toBitVec_or, BitVec.toNat_or, pk_tn (by omega), pk_tn (by omega), pk_tn (by omega)]
theorem shl8 : ∀ w : Nat, w ≤ 8 → ∃ sh : Nat, (1 : Int32) <<< (nI w &&& 31) = nI sh ∧ sh ≤ 256 ∧ (w ≤ 4 → sh ≤ 16) ∧ (w ≤ 5 → sh ≤ 32) ∧ (w ≤ 6 → sh ≤ 64) := by
  intro w hw
  rcases (show w = 0 ∨ w = 1 ∨ w = 2 ∨ w = 3 ∨ w = 4 ∨ w = 5 ∨ w = 6 ∨ w = 7 ∨ w = 8 by omega) with rfl | rfl | rfl | rfl | rfl | rfl | rfl | rfl | rfl
  · exact ⟨1, by decide, by omega⟩
  · exact ⟨2, by decide, by omega⟩
  · exact ⟨4, by decide, by omega⟩
  · exact ⟨8, by decide, by omega⟩
  · exact ⟨16, by decide, by omega⟩
  · exact ⟨32, by decide, by omega⟩
  · exact ⟨64, by decide, by omega⟩
  · exact ⟨128, by decide, by omega⟩
  · exact ⟨256, by decide, by omega⟩
theorem or_nat {a b n : Nat} (ha : a < 2 ^ n) (hb : b < 2 ^ n) (hn : n ≤ 30) : a ||| b < 2 ^ n ∧ nI a ||| nI b = nI (a ||| b) := by
  have h1 : a ||| b < 2 ^ n := Nat.or_lt_two_pow ha hb
  have h2 : 2 ^ n ≤ 2 ^ 30 := Nat.pow_le_pow_right (by decide) hn
  refine ⟨h1, ?_⟩
  apply Int32.toBitVec_inj.mp
  apply BitVec.eq_of_toNat_eq
  rw [Int32.toBitVec_or, BitVec.toNat_or, pk_tn (by omega), pk_tn (by omega), pk_tn (by omega)]
theorem shlN : ∀ w : Nat, w ≤ 15 → (1 : Int32) <<< (nI w &&& 31) = nI (2 ^ w) := by
  intro w hw
  rcases (show w = 0 ∨ w = 1 ∨ w = 2 ∨ w = 3 ∨ w = 4 ∨ w = 5 ∨ w = 6 ∨ w = 7 ∨ w = 8 ∨ w = 9 ∨ w = 10 ∨ w = 11 ∨ w = 12 ∨ w = 13 ∨ w = 14 ∨ w = 15 by omega) with rfl | rfl | rfl | rfl | rfl | rfl | rfl | rfl | rfl | rfl | rfl | rfl | rfl | rfl | rfl | rfl <;> decide
theorem thR_nat {h : RF} {m : Int32} : ∀ n : Nat, n ≤ 15 → ∃ z : Nat, z < 2 ^ n ∧ thR h m n = nI z
  | 0, _ => ⟨0, by decide, rfl⟩
  | n + 1, hn => by
    obtain ⟨z, hz, e⟩ := thR_nat (h := h) (m := m) n (by omega)
    have h2 : 2 ^ (n + 1) = 2 ^ n * 2 := Nat.pow_succ 2 n
    have h3 : 0 < 2 ^ n := Nat.two_pow_pos n
    show ∃ z : Nat, z < 2 ^ (n + 1) ∧ thR h m n ||| (if h n = m then (1 : Int32) <<< (nI n &&& 31) else 0) = nI z
    rw [e]
    by_cases q : h n = m
    · rw [if_pos q, shlN n (by omega)]
      obtain ⟨o1, o2⟩ := or_nat (a := z) (b := 2 ^ n) (n := n + 1) (by omega) (by omega) (by omega)
      exact ⟨_, o1, o2⟩
    · rw [if_neg q]
      obtain ⟨o1, o2⟩ := or_nat (a := z) (b := 0) (n := n + 1) (by omega) (by omega) (by omega)
      exact ⟨_, o1, o2⟩
theorem th_64 {h : RF} {m : Int32} {n : Nat} (hn : n ≤ 6) : ∃ z : Nat, z < 64 ∧ thR h m n = nI z := by
  obtain ⟨z, hz, e⟩ := thR_nat (h := h) (m := m) n (by omega)
  have h1 : 2 ^ n ≤ 2 ^ 6 := Nat.pow_le_pow_right (by decide) hn
  exact ⟨z, by omega, e⟩
theorem hrI_7 {t n : Nat} {r : RF} {a : AC} : (hrI t r n a).1 = mGo t r := by
  induction t with
  | zero => rfl
  | succ t ih =>
    show mH (hrI t r n a).1 = mH (mGo t r)
    rw [ih]
theorem tX_N (h : okLv (nrm v0 v1 v2 v3 hh v5 ww kk g1 g2 g3 g4 g5)) (hw : ww ≤ 6) (hk : kk ≤ 6) (hH : hh < 2 ^ 31) (h0 : 0 < v0) : okN 999 (nrm v0 v1 v2 v3 hh v5 ww kk g1 g2 g3 g4 g5) := by
  rcases h with h | h
  · have e0 : v0 = 0 := congrFun h 0
    rw [e0] at h0
    exact absurd h0 (by decide)
  · exact h
theorem kind_X {i : Nat} (h : okLv (nrm v0 v1 v2 v3 hh v5 ww kk g1 g2 g3 g4 g5)) (hw : ww ≤ 6) (hk : kk ≤ 6) (hH : hh < 2 ^ 31) (hi : i < kk) : ∃ a : Nat, 1 ≤ a ∧ a ≤ 5 ∧ g2 i = nI a := by
  obtain ⟨a, b⟩ := tX h hw hk hH
  have p : 0 < v0 := by
    refine Decidable.byContradiction (fun q => ?_)
    have := (a q).2.1
    omega
  obtain ⟨-, -, -, h2⟩ := b p
  obtain ⟨c, m, re, ca, me, -, -, -, S⟩ := okRow_X h2 hw hk hH
  obtain ⟨a, -, -, -, ⟨e, -⟩, h3, h4, -⟩ := S i hi
  exact ⟨a, h3, h4, e⟩
theorem ask_X {j ka : Nat} {x : Int32} {s : T16} (hk : kk ≤ 6) (hj : j < kk) (h1 : 1 ≤ ka) (h5 : ka ≤ 5) (e : g2 j = nI ka) (hx : x = 0 ∨ x = 1) : bgX (nI j) ka (g3 j) (g4 j) 16 (bfX ka x) s = akM (nrm v0 v1 v2 v3 hh v5 ww kk g1 g2 g3 g4 g5) j x s := by
  have h := ak_eq (f := nrm v0 v1 v2 v3 hh v5 ww kk g1 g2 g3 g4 g5) (w := j) (s := s) h1 h5 ((nrg2 hj hk).trans e) hx
  rw [nrg3 hj hk, nrg4 hj hk] at h
  exact h
/-! the bounds stay -/
theorem okN_up {H H2 : Nat} {r : RF} (h : okN H r) (h2 : H ≤ H2) : okN H2 r := by
  obtain ⟨v0, v1, v2, v3, hh, v5, ww, kk, g1, g2, g3, g4, g5, e, a, b, c, d⟩ := h
  exact ⟨v0, v1, v2, v3, hh, v5, ww, kk, g1, g2, g3, g4, g5, e, by omega, b, c, okRow_up d h2⟩
theorem mH_ok {H : Nat} {r : RF} (h : okN H r) (hH : H < 2 ^ 30) : okN (H + 1) (mH r) := by
  obtain ⟨v0, v1, v2, v3, hh, v5, ww, kk, g1, g2, g3, g4, g5, rfl, a, b, c, d⟩ := h
  obtain ⟨p1, p2⟩ := pass_row (v5n := (paX v0 v1 v2 v3 g2 (wdX g1 ww hh 0) kk (v5, g3, g4, g5)).1) (g3n := (paX v0 v1 v2 v3 g2 (wdX g1 ww hh 0) kk (v5, g3, g4, g5)).2.1) (g4n := (paX v0 v1 v2 v3 g2 (wdX g1 ww hh 0) kk (v5, g3, g4, g5)).2.2.1) (g5n := (paX v0 v1 v2 v3 g2 (wdX g1 ww hh 0) kk (v5, g3, g4, g5)).2.2.2) c b (by omega) d rfl
  refine ⟨_, _, _, _, _, _, _, _, _, _, _, _, _, p1.symm, by omega, b, c, ?_⟩
  rw [← p1]
  exact p2
theorem mGo_ok {H : Nat} {r : RF} (h : okN H r) : ∀ t : Nat, H + t < 2 ^ 30 → okN (H + t) (mGo t r)
  | 0, _ => h
  | t + 1, hH => mH_ok (H := H + t) (mGo_ok h t (by omega)) (by omega)
theorem r0_ok {H : Nat} {r : RF} (h : okN H r) : ¬ r 0 = 0 := by
  obtain ⟨v0, v1, v2, v3, hh, v5, ww, kk, g1, g2, g3, g4, g5, -, -, -, -, c, m, re, w, k, h_, ca, me, a, b, -, -⟩ := h
  rw [a.1]
  exact nI_ne0 (by omega) (by omega)
theorem okLv_N {r : RF} (h : okLv r) (h0 : ¬ r 0 = 0) : okN 999 r := by
  rcases h with h | h
  · exact absurd (by rw [h]; rfl) h0
  · exact h
/-- all that is kept -/
noncomputable def okS (Lv : RF) (An : Nat) (Ac : AC) (I0 I1 : RF) : Prop := okLv Lv ∧ An ≤ 24 ∧ (∀ k : Nat, k < An → okN 999 (Ac k)) ∧ okLv I0 ∧ okLv I1
noncomputable def kpN (g : Prop) [Decidable g] (n : Nat) : Nat := if g then ntN n else n
noncomputable def kpA (g : Prop) [Decidable g] (r : RF) (n : Nat) (a : AC) : AC := if g then ntA r n a else a
theorem ok_nt {H n : Nat} {r : RF} {a : AC} (hn : n ≤ 24) (h : ∀ k : Nat, k < n → okN H (a k)) (hr : okN H r) : ntN n ≤ 24 ∧ ∀ k : Nat, k < ntN n → okN H (ntA r n a k) := by
  unfold ntN ntA
  by_cases q : n < 24
  · rw [if_pos q, if_pos q]
    refine ⟨by omega, fun k hk => ?_⟩
    by_cases e : k = n
    · rw [if_pos e]
      exact hr
    · rw [if_neg e]
      exact h k (by omega)
  · rw [if_neg q, if_neg q]
    refine ⟨by omega, fun k hk => ?_⟩
    by_cases e : k < 23
    · rw [if_pos e]
      exact h (k + 1) (by omega)
    · rw [if_neg e, if_pos (by omega)]
      exact hr
theorem ok_kp {g : Prop} [Decidable g] {L2 Lv I0 I1 : RF} {An : Nat} {Ac : AC} (hs : okS Lv An Ac I0 I1) (hg : g → okN 999 Lv) (hL : okLv L2) : okS L2 (kpN g An) (kpA g Lv An Ac) I0 I1 := by
  obtain ⟨a, b, c, d, e⟩ := hs
  unfold kpN kpA
  by_cases q : g
  · rw [if_pos q, if_pos q]
    obtain ⟨f1, f2⟩ := ok_nt b c (hg q)
    exact ⟨hL, f1, f2, d, e⟩
  · rw [if_neg q, if_neg q]
    exact ⟨hL, b, c, d, e⟩
theorem sB_nat {k n : Int32} {c : Nat} (h : sB k n) (e : k = nI c) (hc : c < 2 ^ 31) : ∃ j : Nat, j < c ∧ n = nI j := by
  rw [e] at h
  obtain ⟨j, hj, rfl⟩ := vp_in_of (in_of h.1 h.2 hc) hc
  exact ⟨j, hj, rfl⟩
theorem okN_X {r : RF} (h : okN 999 r) : ∃ (v0 v1 v2 v3 : Int32) (hh : Nat) (v5 : Int32) (ww kk : Nat) (g1 g2 g3 g4 g5 : RF) (c m re ca me : Nat), r = nrm v0 v1 v2 v3 hh v5 ww kk g1 g2 g3 g4 g5 ∧ hh ≤ 999 ∧ ww ≤ 6 ∧ kk ≤ 6 ∧ (v0 = nI c ∧ v1 = nI m ∧ v2 = nI re ∧ v3 = nI ca ∧ v5 = nI me) ∧ (5 ≤ c ∧ c ≤ 15 ∧ m < c ∧ re ≤ 4 ∧ 1 ≤ ww ∧ 1 ≤ kk ∧ hh ≤ 999 ∧ ca ≤ 1 ∧ me ≤ 999) ∧ (∀ i : Nat, i < ww → ∃ x : Nat, x ≤ 4 ∧ g1 i = nI x) ∧ (∀ i : Nat, i < kk → ∃ a p q l : Nat, (g2 i = nI a ∧ g3 i = nI p ∧ g5 i = nI q ∧ g4 i = nI l) ∧ 1 ≤ a ∧ a ≤ 5 ∧ p < c ∧ q ≤ 2 ∧ 1 ≤ l ∧ l ≤ 20) := by
  obtain ⟨v0, v1, v2, v3, hh, v5, ww, kk, g1, g2, g3, g4, g5, rfl, a, b, c, d⟩ := h
  obtain ⟨c_, m, re, ca, me, E, B, W, S⟩ := okRow_X d b c (by omega)
  exact ⟨v0, v1, v2, v3, hh, v5, ww, kk, g1, g2, g3, g4, g5, c_, m, re, ca, me, rfl, a, b, c, E, B, W, S⟩
theorem cap_ok {r : RF} (h : okN 999 r) : okN 999 (upd r 6 (1 - r 6)) := by
  obtain ⟨v0, v1, v2, v3, hh, v5, ww, kk, g1, g2, g3, g4, g5, c, m, re, ca, me, rfl, a, b, k, ⟨E0, E1, E2, E3, E4⟩, ⟨B1, B2, B3, B4, B5, B6, B7, B8, B9⟩, W, S⟩ := okN_X h
  rw [nr6, nru6]
  refine ⟨_, _, _, _, _, _, _, _, _, _, _, _, _, rfl, a, b, k, okRow_of (ca := 1 - ca) ⟨E0, E1, E2, ?_, E4⟩ ⟨B1, B2, B3, B4, B5, B6, B7, by omega, B9⟩ b k W S⟩
  rw [E3]
  exact pk_sub (a := 1) B8
theorem wind_ok {r : RF} {w v : Int32} (h : okN 999 r) (g : gd_wind r w v) : okN 999 (upd r (8 + w.toNatClampNeg) v) := by
  obtain ⟨v0, v1, v2, v3, hh, v5, ww, kk, g1, g2, g3, g4, g5, c, m, re, ca, me, rfl, a, b, k, E, B, W, S⟩ := okN_X h
  obtain ⟨j, hj, rfl⟩ := sB_nat (c := ww) g.1 nr3 (by omega)
  obtain ⟨x, hx, rfl⟩ : ∃ x : Nat, x ≤ 4 ∧ v = nI x := by
    obtain ⟨x, hx, e⟩ := nI_of2 (x := v) (M := 4) (n := 4) rfl (fun q => g.2 (Or.inl q)) (i_nlt.mp (fun q => g.2 (Or.inr q)))
    exact ⟨x, hx, e⟩
  rw [nI_clamp (by omega), nrug1 hj b]
  refine ⟨_, _, _, _, _, _, _, _, _, _, _, _, _, rfl, a, b, k, okRow_of E B b k (fun i hi => ?_) S⟩
  by_cases e : i = j
  · rw [e, pk_us]
    exact ⟨x, hx, rfl⟩
  · rw [pk_un e]
    exact W i hi
theorem loose_ok {r : RF} {s c l : Int32} (h : okN 999 r) (g : ok_loose r s c l) : okN 999 (upd (upd (upd r (26 + s.toNatClampNeg) 0) (20 + s.toNatClampNeg) c) (32 + s.toNatClampNeg) l) := by
  obtain ⟨v0, v1, v2, v3, hh, v5, ww, kk, g1, g2, g3, g4, g5, c_, m, re, ca, me, rfl, a, b, k, E, B, W, S⟩ := okN_X h
  obtain ⟨g1_, g2_, g3_⟩ := g
  obtain ⟨j, hj, rfl⟩ := sB_nat (c := kk) g1_ nr4 (by omega)
  obtain ⟨p, hp, rfl⟩ := sB_nat (c := c_) g2_ (nr0.trans E.1) (by omega)
  obtain ⟨x, hx, rfl⟩ : ∃ x : Nat, x ≤ 20 ∧ l = nI x := by
    obtain ⟨x, hx, e⟩ := nI_of2 (x := l) (M := 20) (n := 20) rfl (fun q => g3_ (Or.inl (by
      rw [Int32.lt_iff_toInt_lt] at q ⊢
      have e1 : (0 : Int32).toInt = 0 := rfl
      have e2 : (1 : Int32).toInt = 1 := rfl
      omega))) (i_nlt.mp (fun q => g3_ (Or.inr q)))
    exact ⟨x, hx, e⟩
  have x1 : 1 ≤ x := by
    rcases Nat.eq_zero_or_pos x with e | e
    · exact absurd (Or.inl (by rw [e]; decide)) g3_
    · exact e
  rw [nI_clamp (by omega), nrug5 hj k, nrug3 hj k, nrug4 hj k]
  exact ⟨_, _, _, _, _, _, _, _, _, _, _, _, _, rfl, a, b, k, okRow_of E B b k W (snd_up S (fun z hz => ⟨pk_un hz, pk_un hz, pk_un hz⟩) ⟨p, 0, x, ⟨pk_us, pk_us, pk_us⟩, hp, by decide, x1, hx⟩)⟩
theorem sell_ok {r : RF} {n : Int32} (h : okN 999 r) (g : gd_sell r n) : okN 999 (upd r 7 (r 7 - n)) := by
  obtain ⟨v0, v1, v2, v3, hh, v5, ww, kk, g1, g2, g3, g4, g5, c, m, re, ca, me, rfl, a, b, k, ⟨E0, E1, E2, E3, E4⟩, ⟨B1, B2, B3, B4, B5, B6, B7, B8, B9⟩, W, S⟩ := okN_X h
  obtain ⟨-, g2_, g3_⟩ := g
  obtain ⟨x, hx, rfl⟩ : ∃ x : Nat, x ≤ 999 ∧ n = nI x := by
    obtain ⟨x, hx, e⟩ := nI_of2 (x := n) (M := 999) (n := 999) rfl (fun q => g2_ (Or.inl (by
      rw [Int32.lt_iff_toInt_lt] at q ⊢
      have e1 : (0 : Int32).toInt = 0 := rfl
      have e2 : (1 : Int32).toInt = 1 := rfl
      omega))) (i_nlt.mp (fun q => g2_ (Or.inr q)))
    exact ⟨x, hx, e⟩
  rw [nr7] at g3_ ⊢
  rw [E4, nI_ltI (by omega) (by omega)] at g3_
  rw [nru7]
  refine ⟨_, _, _, _, _, _, _, _, _, _, _, _, _, rfl, a, b, k, okRow_of (me := me - x) ⟨E0, E1, E2, E3, ?_⟩ ⟨B1, B2, B3, B4, B5, B6, B7, B8, by omega⟩ b k W S⟩
  rw [E4]
  exact pk_sub (by omega)
theorem undoX {q az qn zn : Nat} {V Vn : Nat → Nat → Int32} {G Gn : Nat → Nat → RF} {L r : RF} (hq : q < 24) (haz : az ≤ 24) (h0 : 0 < az) (e1 : qn = (q + 23) % 24 ∧ zn = az - 1 ∧ L = nrV (V qn) (G qn)) (e2 : ∀ i : Nat, i < 24 → nrV (Vn i) (Gn i) = nrV (V i) (G i)) : L = n_undo r az (acX q az V G) ∧ zn = az - 1 ∧ acX qn zn Vn Gn = dpA az (acX q az V G) ∧ nI zn = a_undo az := by
  obtain ⟨rfl, rfl, e⟩ := e1
  obtain ⟨a, b⟩ := acX_take hq haz h0 e2
  refine ⟨?_, rfl, a, ?_⟩
  · unfold n_undo
    rw [if_neg (by omega), e, b]
  · unfold a_undo
    rw [if_neg (by omega)]
theorem undo0 {q : Nat} {V : Nat → Nat → Int32} {G : Nat → Nat → RF} : dpA 0 (acX q 0 V G) = acX q 0 V G := by
  rw [acX_0]
  funext k
  unfold dpA
  exact if_neg (by omega)
theorem hr_stepX {t az q z : Nat} {V Vn : Nat → Nat → Int32} {G Gn : Nat → Nat → RF} {L : RF} {A : AC} {v0 v1 v2 v3 v5 v5n : Int32} {hh ww kk : Nat} {g1 g2 g3 g4 g5 g3n g4n g5n : RF} (hN : okN 999 L) (ht : t ≤ 1000) (hH : hh + t < 2 ^ 31) (hw : ww ≤ 6) (hk : kk ≤ 6) (hq : q < 24) (hz : z ≤ 24) (h : hrI t L az A = (nrm v0 v1 v2 v3 (hh + t) v5 ww kk g1 g2 g3 g4 g5, z, acX q z V G)) (e1 : nrV (Vn q) (Gn q) = nrm v0 v1 v2 v3 (hh + t) v5 ww kk g1 g2 g3 g4 g5) (e2 : ∀ i : Nat, i < 24 → i ≠ q → nrV (Vn i) (Gn i) = nrV (V i) (G i)) (e : paX v0 v1 v2 v3 g2 (wdX g1 ww (hh + t) 0) kk (v5, g3, g4, g5) = (v5n, g3n, g4n, g5n)) : hrI (t + 1) L az A = (nrm v0 v1 v2 v3 (hh + (t + 1)) v5n ww kk g1 g2 g3n g4n g5n, ntN z, acX ((q + 1) % 24) (ntN z) Vn Gn) := by
  have h1 := mGo_ok hN t (by omega)
  have h2 : (hrI t L az A).1 = mGo t L := hrI_7
  rw [← h2, h] at h1
  obtain ⟨_, _, _, _, _, _, _, _, _, _, _, _, _, -, -, -, -, h3⟩ := h1
  obtain ⟨p1, -⟩ := pass_row hk hw hH h3 e
  show (mH (hrI t L az A).1, ntN (hrI t L az A).2.1, ntA (hrI t L az A).1 (hrI t L az A).2.1 (hrI t L az A).2.2) = _
  rw [h]
  show (mH (nrm v0 v1 v2 v3 (hh + t) v5 ww kk g1 g2 g3 g4 g5), ntN z, ntA (nrm v0 v1 v2 v3 (hh + t) v5 ww kk g1 g2 g3 g4 g5) z (acX q z V G)) = _
  rw [← p1, ← acX_keep hq hz e1 e2]
  rfl
section OKS
variable {Lv I0 I1 : RF} {An : Nat} {Ac : AC}
theorem ok_cap (hs : okS Lv An Ac I0 I1) : okS (n_cap Lv) (kpN (gd_cap Lv) An) (kpA (gd_cap Lv) Lv An Ac) I0 I1 := by
  refine ok_kp hs (fun g => okLv_N hs.1 g) ?_
  unfold n_cap
  split
  · rename_i g
    exact Or.inr (cap_ok (okLv_N hs.1 g))
  · exact hs.1
theorem told_w {w v : Int32} (hs : okLv Lv) (g : gd_wind Lv w v) : okN 999 Lv := by
  rcases hs with h | h
  · rw [h] at g
    obtain ⟨j, hj, -⟩ := sB_nat (c := 0) g.1 rfl (by decide)
    omega
  · exact h
theorem told_s {s : Int32} (hs : okLv Lv) (g : sB (Lv 4) s) : okN 999 Lv := by
  rcases hs with h | h
  · rw [h] at g
    obtain ⟨j, hj, -⟩ := sB_nat (c := 0) g rfl (by decide)
    omega
  · exact h
theorem ok_wind {w v : Int32} (hs : okS Lv An Ac I0 I1) : okS (n_wind Lv w v) (kpN (gd_wind Lv w v) An) (kpA (gd_wind Lv w v) Lv An Ac) I0 I1 := by
  refine ok_kp hs (fun g => told_w hs.1 g) ?_
  unfold n_wind
  split
  · rename_i g
    exact Or.inr (wind_ok (told_w hs.1 g) g)
  · exact hs.1
theorem ok_loos {s c l : Int32} (hs : okS Lv An Ac I0 I1) : okS (n_loose Lv s c l) (kpN (gd_loose Lv s c l) An) (kpA (gd_loose Lv s c l) Lv An Ac) I0 I1 := by
  refine ok_kp hs (fun g => told_s hs.1 g.1.1) ?_
  unfold n_loose
  split
  · rename_i g
    exact Or.inr (loose_ok (told_s hs.1 g.1.1) g.1)
  · exact hs.1
theorem ok_sell {n : Int32} (hs : okS Lv An Ac I0 I1) : okS (n_sell Lv n) (kpN (gd_sell Lv n) An) (kpA (gd_sell Lv n) Lv An Ac) I0 I1 := by
  refine ok_kp hs (fun g => okLv_N hs.1 g.1) ?_
  unfold n_sell
  split
  · rename_i g
    exact Or.inr (sell_ok (okLv_N hs.1 g.1) g)
  · exact hs.1
theorem hrI_ok (hN : okN 999 Lv) {h0 : Nat} (e5 : Lv 5 = nI h0) (ha : An ≤ 24) (hA : ∀ k : Nat, k < An → okN 999 (Ac k)) : ∀ t : Nat, h0 + t ≤ 999 → (okN 999 (hrI t Lv An Ac).1 ∧ (hrI t Lv An Ac).1 5 = nI (h0 + t)) ∧ (hrI t Lv An Ac).2.1 ≤ 24 ∧ ∀ k : Nat, k < (hrI t Lv An Ac).2.1 → okN 999 ((hrI t Lv An Ac).2.2 k)
  | 0, _ => ⟨⟨hN, e5⟩, ha, hA⟩
  | t + 1, ht => by
    obtain ⟨⟨a, a5⟩, b, c⟩ := hrI_ok hN e5 ha hA t (by omega)
    have h1 := mH_ok a (by decide)
    have e6 : mH (hrI t Lv An Ac).1 5 = nI (h0 + (t + 1)) := by
      obtain ⟨v0, v1, v2, v3, hh, v5, ww, kk, g1, g2, g3, g4, g5, e, a1, a2, a3, a4⟩ := a
      have p := (pass_row (H := 999) a3 a2 (by omega) (e ▸ a4) (Eq.refl (paX v0 v1 v2 v3 g2 (wdX g1 ww hh 0) kk (v5, g3, g4, g5)))).1
      rw [e, ← p, nr5]
      rw [e, nr5, nI_eq (by omega) (by omega)] at a5
      rw [a5]
      rfl
    have h2 : okN 999 (mH (hrI t Lv An Ac).1) := by
      obtain ⟨v0, v1, v2, v3, hh, v5, ww, kk, g1, g2, g3, g4, g5, e, a1, a2, a3, a4⟩ := h1
      rw [e] at a4 e6
      rw [nr5, nI_eq (by omega) (by omega)] at e6
      obtain ⟨c_, m, re, ca, me, E, B, W, S⟩ := okRow_X a4 a2 a3 (by omega)
      obtain ⟨B1, B2, B3, B4, B5, B6, B7, B8, B9⟩ := B
      refine ⟨v0, v1, v2, v3, hh, v5, ww, kk, g1, g2, g3, g4, g5, e, by omega, a2, a3, ?_⟩
      rw [e]
      exact okRow_of E ⟨B1, B2, B3, B4, B5, B6, by omega, B8, B9⟩ a2 a3 W S
    obtain ⟨n1, n2⟩ := ok_nt b c a
    exact ⟨⟨h2, e6⟩, n1, n2⟩
theorem ok_hrs {n : Int32} (hs : okS Lv An Ac I0 I1) : okS (s_hrs Lv An Ac n).1 (s_hrs Lv An Ac n).2.1 (s_hrs Lv An Ac n).2.2 I0 I1 := by
  unfold s_hrs
  by_cases g : gd_hrs Lv n
  · rw [if_pos g]
    obtain ⟨a, b, c, d, e⟩ := hs
    have hN := okLv_N a g.1
    obtain ⟨v0, v1, v2, v3, hh, v5, ww, kk, g1, g2, g3, g4, g5, e_, a1, a2, a3, a4⟩ := id hN
    have e5 : Lv 5 = nI hh := by rw [e_]; rfl
    obtain ⟨x, hx, rfl⟩ : ∃ x : Nat, x ≤ 24 ∧ n = nI x := by
      obtain ⟨x, hx, e⟩ := nI_of2 (x := n) (M := 24) (n := 24) rfl (fun q => g.2.1 (Or.inl (by
        rw [Int32.lt_iff_toInt_lt] at q ⊢
        have e1 : (0 : Int32).toInt = 0 := rfl
        have e2 : (1 : Int32).toInt = 1 := rfl
        omega))) (i_nlt.mp (fun q => g.2.1 (Or.inr q)))
      exact ⟨x, hx, e⟩
    have g3_ := g.2.2
    rw [e5, nI_add, show (999 : Int32) = nI 999 from rfl, nI_ltI (by decide) (by omega)] at g3_
    rw [nI_clamp (by omega)]
    obtain ⟨⟨p1, -⟩, p2, p3⟩ := hrI_ok hN e5 b c x (by omega)
    exact ⟨Or.inr p1, p2, p3, d, e⟩
  · rw [if_neg g]
    exact hs
theorem ok_undo (hs : okS Lv An Ac I0 I1) : okS (n_undo Lv An Ac) (An - 1) (dpA An Ac) I0 I1 := by
  obtain ⟨a, b, c, d, e⟩ := hs
  refine ⟨?_, by omega, fun k hk => ?_, d, e⟩
  · unfold n_undo
    split
    · exact a
    · exact Or.inr (c _ (by omega))
  · unfold dpA
    rw [if_pos (by omega)]
    exact c k (by omega)
theorem ok_image {k : Int32} (hs : okS Lv An Ac I0 I1) : okS Lv An Ac (n_image Lv I0 k 0) (n_image Lv I1 k 1) := by
  obtain ⟨a, b, c, d, e⟩ := hs
  refine ⟨a, b, c, ?_, ?_⟩ <;> unfold n_image <;> split <;> assumption
noncomputable def n_rst (Lv I0 I1 : RF) (k : Int32) : RF := if gd_rst I0 I1 k then pkI I0 I1 k else Lv
noncomputable def m_rst (An : Nat) (I0 I1 : RF) (k : Int32) : Nat := if gd_rst I0 I1 k then 0 else An
noncomputable def c_rst (Ac : AC) (I0 I1 : RF) (k : Int32) : AC := if gd_rst I0 I1 k then (fun _ => zR) else Ac
theorem ok_rst {k : Int32} (hs : okS Lv An Ac I0 I1) : okS (n_rst Lv I0 I1 k) (m_rst An I0 I1 k) (c_rst Ac I0 I1 k) I0 I1 := by
  unfold n_rst m_rst c_rst
  by_cases g : gd_rst I0 I1 k
  · rw [if_pos g, if_pos g, if_pos g]
    obtain ⟨a, b, c, d, e⟩ := hs
    refine ⟨?_, by decide, fun k hk => absurd hk (Nat.not_lt_zero k), d, e⟩
    unfold pkI
    split <;> assumption
  · rw [if_neg g, if_neg g, if_neg g]
    exact hs
theorem okS_0 : okS zR 0 (fun _ => zR) zR zR := ⟨Or.inl rfl, by decide, fun k hk => absurd hk (Nat.not_lt_zero k), Or.inl rfl, Or.inl rfl⟩
theorem acX_rst {q az : Nat} {V : Nat → Nat → Int32} {G : Nat → Nat → RF} {k : Int32} : acX q (m_rst az I0 I1 k) V G = c_rst (acX q az V G) I0 I1 k := by
  unfold m_rst c_rst
  split
  · exact acX_0
  · rfl
theorem acX_lev {q az : Nat} {V : Nat → Nat → Int32} {G : Nat → Nat → RF} {g : Prop} [Decidable g] : acX q (n_levN g az) V G = n_levA g (acX q az V G) := by
  unfold n_levN n_levA
  split
  · exact acX_0
  · rfl
theorem m38_z : m38 (fun _ => 0) = zR := by
  funext j
  unfold m38 zR
  split <;> rfl
theorem imM_z {f : RF} {k : Nat} : imM (fun _ => 0) f k = zR := if_pos rfl
end OKS
end SP
/-! shares, sacks -/
noncomputable def ldS (r : RF) (n : Int32) : Int32 := ldR (fun s => r (32 + s)) n (r 4).toNatClampNeg
/-- all that is loose -/
noncomputable def shA (r : RF) : Int32 := ldS r (thS r 0)
/-- what is over, and how many are ahead, of the first i sounds -/
noncomputable def shF (r : RF) (n s A : Int32) : Nat → Int32 × Int32
  | 0 => (n, 0)
  | i + 1 => if r (26 + i) = 0 then ((shF r n s A i).1 - n * r (32 + i) / A, (shF r n s A i).2 + (if nI i < s then 1 else 0)) else shF r n s A i
noncomputable def shV (n l A : Int32) (p : Int32 × Int32) : Int32 := n * l / A + (if p.2 < p.1 then 1 else 0)
noncomputable def a_shr (r : RF) (s n : Int32) : Int32 := if ¬ (¬ s < 0 ∧ ¬ r 4 ≤ s) ∨ (n < 0 ∨ 999 < n) then -1000001 else if ¬ r (26 + s.toNatClampNeg) = 0 ∨ ¬ 0 < shA r then 0 else shV n (r (32 + s.toNatClampNeg)) (shA r) (shF r n s (shA r) (r 4).toNatClampNeg)
/-- sets of the first i: how many weigh v, in all of them, in any -/
noncomputable def skF (r : RF) (v c : Int32) : Nat → Int32 × Int32 × Int32
  | 0 => (0, c, 0)
  | i + 1 => if nI i &&& (c ^^^ (-1)) = 0 ∧ ldS r (nI i) = v then ((skF r v c i).1 + 1, (skF r v c i).2.1 &&& nI i, (skF r v c i).2.2 ||| nI i) else skF r v c i
noncomputable def skV (w : Int32) (p : Int32 × Int32 × Int32) : Int32 := if w = 0 then p.1 else if w = 2 then p.2.2 else if p.1 = 0 then 0 else p.2.1
noncomputable def a_sack (r : RF) (v w : Int32) : Int32 := if r 0 = 0 then -1000002 else if (v < 0 ∨ 120 < v) ∨ (w < 0 ∨ 2 < w) then -1000001 else skV w (skF r v (thS r 0) ((thS r 0).toNatClampNeg + 1))
section SHR
variable {r : RF} {n s A v c w : Int32} {i j k z : Nat}
theorem shr_n (h : ¬ (¬ s < 0 ∧ ¬ r 4 ≤ s) ∨ (n < 0 ∨ 999 < n)) : (-1000001 : Int32) = a_shr r s n := (if_pos h).symm
theorem shr_u (h4 : r 4 = nI k) (hk : k ≤ 6) (hj : j < k) (c1 : ¬ n < 0) (c2 : n ≤ 999) : a_shr r (nI j) n = if ¬ r (26 + j) = 0 ∨ ¬ 0 < shA r then 0 else shV n (r (32 + j)) (shA r) (shF r n (nI j) (shA r) k) := by
  have g : ¬ (¬ (¬ nI j < 0 ∧ ¬ r 4 ≤ nI j) ∨ (n < 0 ∨ 999 < n)) := by
    rw [h4]
    rintro (q | q | q)
    · exact q (sB_ok hj (by omega))
    · exact c1 q
    · exact i_nlt.mpr c2 q
  have e1 : (nI j).toNatClampNeg = j := nI_clamp (by omega)
  have e2 : (nI k).toNatClampNeg = k := nI_clamp (by omega)
  unfold a_shr
  rw [if_neg g, e1, h4, e2]
theorem shr_z (h4 : r 4 = nI k) (hk : k ≤ 6) (hj : j < k) (c1 : ¬ n < 0) (c2 : n ≤ 999) (h : ¬ r (26 + j) = 0 ∨ ¬ 0 < shA r) : (0 : Int32) = a_shr r (nI j) n := by
  rw [shr_u h4 hk hj c1 c2, if_pos h]
theorem shr_g (h4 : r 4 = nI k) (hk : k ≤ 6) (hj : j < k) (c1 : ¬ n < 0) (c2 : n ≤ 999) (h : r (26 + j) = 0) (hA : 0 < shA r) : a_shr r (nI j) n = shV n (r (32 + j)) (shA r) (shF r n (nI j) (shA r) k) := by
  have g : ¬ (¬ r (26 + j) = 0 ∨ ¬ 0 < shA r) := fun q => q.elim (fun z => z h) (fun z => z hA)
  rw [shr_u h4 hk hj c1 c2, if_neg g]
theorem shF_n (h : ¬ r (26 + i) = 0) : shF r n s A (i + 1) = shF r n s A i := if_neg h
theorem shF_y {a b : Int32} (h : r (26 + i) = 0) (e : shF r n s A i = (a, b)) : shF r n s A (i + 1) = (a - n * r (32 + i) / A, b + (if nI i < s then 1 else 0)) := by
  refine (if_pos h).trans ?_
  rw [e]
theorem skF_n (h : ¬ (nI i &&& (c ^^^ (-1)) = 0 ∧ ldS r (nI i) = v)) : skF r v c (i + 1) = skF r v c i := if_neg h
theorem skF_y {a b d : Int32} (h : nI i &&& (c ^^^ (-1)) = 0) (h2 : ldS r (nI i) = v) (e : skF r v c i = (a, b, d)) : skF r v c (i + 1) = (a + 1, b &&& nI i, d ||| nI i) := by
  refine (if_pos ⟨h, h2⟩).trans ?_
  rw [e]
set_option maxRecDepth 100000 in
theorem sub_gt : ∀ z : Nat, z < 64 → ∀ i : Nat, i < 64 → z < i → ¬ (nI i &&& (nI z ^^^ (-1)) = 0) := by decide +kernel
theorem skF_end (hz : z < 64) : ∀ m : Nat, z + 1 ≤ m → m ≤ 64 → skF r v (nI z) m = skF r v (nI z) (z + 1)
  | 0, h, _ => absurd h (Nat.not_succ_le_zero _)
  | m + 1, h, h2 => by
    by_cases q : m = z
    · rw [q]
    · rw [skF_n (fun t => sub_gt z hz m (by omega) (by omega) t.1)]
      exact skF_end hz m (by omega) (by omega)
theorem sack_n (h0 : ¬ r 0 = 0) (h : (v < 0 ∨ 120 < v) ∨ (w < 0 ∨ 2 < w)) : (-1000001 : Int32) = a_sack r v w := by
  unfold a_sack
  rw [if_neg h0, if_pos h]
theorem sack_0 (h0 : r 0 = 0) : (-1000002 : Int32) = a_sack r v w := by
  unfold a_sack
  rw [if_pos h0]
theorem sack_g (h0 : ¬ r 0 = 0) (h : ¬ ((v < 0 ∨ 120 < v) ∨ (w < 0 ∨ 2 < w))) (ht : thS r 0 = nI z) (hz : z < 64) : a_sack r v w = skV w (skF r v (nI z) (z + 1)) := by
  have e : (nI z).toNatClampNeg = z := nI_clamp (by omega)
  unfold a_sack
  rw [if_neg h0, if_neg h, ht, e]
theorem sack_e {a b d : Int32} (h : a_sack r v w = skV w (a, b, d)) : (w = 0 → a = a_sack r v w) ∧ (¬ w = 0 → w = 2 → d = a_sack r v w) ∧ (¬ w = 0 → ¬ w = 2 → a = 0 → 0 = a_sack r v w) ∧ (¬ w = 0 → ¬ w = 2 → ¬ a = 0 → b = a_sack r v w) := by
  rw [h]
  unfold skV
  refine ⟨fun q => (if_pos q).symm, fun q q2 => ?_, fun q q2 q3 => ?_, fun q q2 q3 => ?_⟩
  · rw [if_neg q, if_pos q2]
  · rw [if_neg q, if_neg q2, if_pos q3]
  · rw [if_neg q, if_neg q2, if_neg q3]
theorem sk_n {a b t x y : Int32} (e : skF r v c i = (a, b, t)) (e1 : x = c ^^^ (-1)) (e2 : y = nI i &&& x) (h : ¬ y = 0) : skF r v c (i + 1) = (a, b, t) :=
  (skF_n (fun q => h (by rw [e2, e1]; exact q.1))).trans e
theorem sk_w {a b t x : Int32} (e : skF r v c i = (a, b, t)) (e1 : ldS r (nI i) = x) (h : ¬ x = v) : skF r v c (i + 1) = (a, b, t) :=
  (skF_n (fun q => h (by rw [← e1]; exact q.2))).trans e
theorem sk_y {a b t x y z f1 f2 f3 : Int32} (e : skF r v c i = (a, b, t)) (e1 : x = c ^^^ (-1)) (e2 : y = nI i &&& x) (h : y = 0) (e3 : ldS r (nI i) = z) (h2 : z = v) (d1 : f1 = a + Int32.ofInt 1) (d2 : f2 = b &&& nI i) (d3 : f3 = t ||| nI i) : skF r v c (i + 1) = (f1, f2, f3) := by
  rw [skF_y (by rw [← e1, ← e2]; exact h) (e3.trans h2) e, d1, d2, d3]
  rfl
end SHR
section SHX
variable {v0 v1 v2 v3 v5 : Int32} {hh ww kk i j : Nat} {g1 g2 g3 g4 g5 : RF} {n s A a b : Int32}
theorem ld_nrm (hk : kk ≤ 6) : ldS (nrm v0 v1 v2 v3 hh v5 ww kk g1 g2 g3 g4 g5) n = ldR g4 n kk := by
  have e : (nI kk).toNatClampNeg = kk := nI_clamp (by omega)
  unfold ldS
  rw [nr4, e]
  exact ldR_c kk (fun i hi => nrg4 hi hk)
theorem shA_X {t u : Int32} (hk : kk ≤ 6) (h1 : t = thR g5 0 kk) (h2 : u = ldR g4 t kk) : shA (nrm v0 v1 v2 v3 hh v5 ww kk g1 g2 g3 g4 g5) = u := by
  unfold shA
  rw [th_nrm hk, ld_nrm hk, h2, h1]
theorem shX_z (hk : kk ≤ 6) (hj : j < kk) (c1 : ¬ n < 0) (c2 : n ≤ 999) (h : ¬ g5 j = 0) : (0 : Int32) = a_shr (nrm v0 v1 v2 v3 hh v5 ww kk g1 g2 g3 g4 g5) (nI j) n :=
  shr_z nr4 hk hj c1 c2 (Or.inl (by rw [nrg5 hj hk]; exact h))
theorem shX_a {t u : Int32} (hk : kk ≤ 6) (hj : j < kk) (c1 : ¬ n < 0) (c2 : n ≤ 999) (h1 : t = thR g5 0 kk) (h2 : u = ldR g4 t kk) (h : ¬ 0 < u) : (0 : Int32) = a_shr (nrm v0 v1 v2 v3 hh v5 ww kk g1 g2 g3 g4 g5) (nI j) n :=
  shr_z nr4 hk hj c1 c2 (Or.inr (by rw [shA_X hk h1 h2]; exact h))
theorem shX_n (hk : kk ≤ 6) (hi : i < kk) (h : ¬ g5 i = 0) (e : shF (nrm v0 v1 v2 v3 hh v5 ww kk g1 g2 g3 g4 g5) n s A i = (a, b)) : shF (nrm v0 v1 v2 v3 hh v5 ww kk g1 g2 g3 g4 g5) n s A (i + 1) = (a, b) :=
  (shF_n (by rw [nrg5 hi hk]; exact h)).trans e
theorem shX_y {x y z u t o : Int32} (hk : kk ≤ 6) (hi : i < kk) (h : g5 i = 0) (e : shF (nrm v0 v1 v2 v3 hh v5 ww kk g1 g2 g3 g4 g5) n s A i = (a, b)) (e1 : x = g4 i) (e2 : y = n * x) (e3 : z = y / A) (e4 : u = a - z) (c : (if nI i < s then 1 else 0) = o) (e5 : t = b + o) : shF (nrm v0 v1 v2 v3 hh v5 ww kk g1 g2 g3 g4 g5) n s A (i + 1) = (u, t) := by
  rw [shF_y (by rw [nrg5 hi hk]; exact h) e, nrg4 hi hk, c, e4, e3, e2, e1, e5]
theorem lt_no (hi : i < 100) (hj : j < 100) (c : j ≤ i) : (if nI i < nI j then (1 : Int32) else 0) = 0 := if_neg (fun q => absurd ((nI_ltI (by omega) (by omega)).mp q) (by omega))
theorem lt_ye (hi : i < 100) (hj : j < 100) (c : ¬ j ≤ i) : (if nI i < nI j then (1 : Int32) else 0) = 1 := if_pos ((nI_ltI (by omega) (by omega)).mpr (by omega))
theorem shX_e {t x y z o q : Int32} (hk : kk ≤ 6) (hj : j < kk) (c1 : ¬ n < 0) (c2 : n ≤ 999) (h1 : t = thR g5 0 kk) (h2 : A = ldR g4 t kk) (h : g5 j = 0) (hA : 0 < A) (e : shF (nrm v0 v1 v2 v3 hh v5 ww kk g1 g2 g3 g4 g5) n (nI j) A kk = (a, b)) (e1 : x = g4 j) (e2 : y = n * x) (e3 : z = y / A) (c : (if b < a then 1 else 0) = o) (e4 : q = z + o) : q = a_shr (nrm v0 v1 v2 v3 hh v5 ww kk g1 g2 g3 g4 g5) (nI j) n := by
  have eA := shA_X (v0 := v0) (v1 := v1) (v2 := v2) (v3 := v3) (hh := hh) (v5 := v5) (ww := ww) (g1 := g1) (g2 := g2) (g3 := g3) hk h1 h2
  rw [shr_g nr4 hk hj c1 c2 (by rw [nrg5 hj hk]; exact h) (by rw [eA]; exact hA), eA, e, nrg4 hj hk, e4, e3, e2, e1, ← c]
  rfl
theorem skX_e {v w c t : Int32} {sh : Nat} (hL : okLv (nrm v0 v1 v2 v3 hh v5 ww kk g1 g2 g3 g4 g5)) (hw : ww ≤ 6) (hk : kk ≤ 6) (hH : hh ≤ 999) (p : 0 < v0) (c1 : ¬ v < 0) (c2 : ¬ 120 < v) (c3 : ¬ w < 0) (c4 : w ≤ 2) (hc : c = thR g5 0 kk) (hs : (1 : Int32) <<< (nI kk &&& 31) = nI sh) (hs2 : sh ≤ 64) (e : skF (nrm v0 v1 v2 v3 hh v5 ww kk g1 g2 g3 g4 g5) v c sh = (a, b, t)) : a_sack (nrm v0 v1 v2 v3 hh v5 ww kk g1 g2 g3 g4 g5) v w = skV w (a, b, t) := by
  obtain ⟨z, hz, e1⟩ := thR_nat (h := g5) (m := 0) kk (by omega)
  have h1 : 2 ^ kk ≤ 2 ^ 6 := Nat.pow_le_pow_right (by decide) hk
  have e2 : sh = 2 ^ kk := (nI_eq (by omega) (by omega)).mp (hs.symm.trans (shlN kk (by omega)))
  rw [hc, e1, skF_end (by omega) sh (by omega) hs2] at e
  rw [sack_g (z := z) (((tX hL hw hk (by omega)).2 p).1) (by
    rintro ((q | q) | q | q)
    · exact c1 q
    · exact c2 q
    · exact c3 q
    · exact i_nlt.mpr c4 q) (by rw [th_nrm hk, e1]) (by omega), e]
end SHX
theorem dJ6_bitCount_0f7a4_0 : decode cJ6_bitCount_0f7a4 0 = .ok (.iload_n 0, 1) := dq_26 (by decide +kernel)
theorem dJ6_bitCount_0f7a4_1 : decode cJ6_bitCount_0f7a4 1 = .ok (.iload_n 0, 1) := dq_26 (by decide +kernel)
theorem dJ6_bitCount_0f7a4_10 : decode cJ6_bitCount_0f7a4 10 = .ok (.iload_n 0, 1) := dq_26 (by decide +kernel)
theorem dJ6_bitCount_0f7a4_11 : decode cJ6_bitCount_0f7a4 11 = .ok (.ldc_w 266, 3) := dq_19 (b1 := 1) (b2 := 10) (by decide +kernel) (by decide)
theorem dJ6_bitCount_0f7a4_14 : decode cJ6_bitCount_0f7a4 14 = .ok (.iand, 1) := dq_126 (by decide +kernel)
theorem dJ6_bitCount_0f7a4_15 : decode cJ6_bitCount_0f7a4 15 = .ok (.iload_n 0, 1) := dq_26 (by decide +kernel)
theorem dJ6_bitCount_0f7a4_16 : decode cJ6_bitCount_0f7a4 16 = .ok (.iconst 2, 1) := dq_5 (by decide +kernel)
theorem dJ6_bitCount_0f7a4_17 : decode cJ6_bitCount_0f7a4 17 = .ok (.iushr, 1) := dq_124 (by decide +kernel)
theorem dJ6_bitCount_0f7a4_18 : decode cJ6_bitCount_0f7a4 18 = .ok (.ldc_w 266, 3) := dq_19 (b1 := 1) (b2 := 10) (by decide +kernel) (by decide)
theorem dJ6_bitCount_0f7a4_2 : decode cJ6_bitCount_0f7a4 2 = .ok (.iconst 1, 1) := dq_4 (by decide +kernel)
theorem dJ6_bitCount_0f7a4_21 : decode cJ6_bitCount_0f7a4 21 = .ok (.iand, 1) := dq_126 (by decide +kernel)
theorem dJ6_bitCount_0f7a4_22 : decode cJ6_bitCount_0f7a4 22 = .ok (.iadd, 1) := dq_96 (by decide +kernel)
theorem dJ6_bitCount_0f7a4_23 : decode cJ6_bitCount_0f7a4 23 = .ok (.istore_n 0, 1) := dq_59 (by decide +kernel)
theorem dJ6_bitCount_0f7a4_24 : decode cJ6_bitCount_0f7a4 24 = .ok (.iload_n 0, 1) := dq_26 (by decide +kernel)
theorem dJ6_bitCount_0f7a4_25 : decode cJ6_bitCount_0f7a4 25 = .ok (.iload_n 0, 1) := dq_26 (by decide +kernel)
theorem dJ6_bitCount_0f7a4_26 : decode cJ6_bitCount_0f7a4 26 = .ok (.iconst 4, 1) := dq_7 (by decide +kernel)
theorem dJ6_bitCount_0f7a4_27 : decode cJ6_bitCount_0f7a4 27 = .ok (.iushr, 1) := dq_124 (by decide +kernel)
theorem dJ6_bitCount_0f7a4_28 : decode cJ6_bitCount_0f7a4 28 = .ok (.iadd, 1) := dq_96 (by decide +kernel)
theorem dJ6_bitCount_0f7a4_29 : decode cJ6_bitCount_0f7a4 29 = .ok (.ldc_w 267, 3) := dq_19 (b1 := 1) (b2 := 11) (by decide +kernel) (by decide)
theorem dJ6_bitCount_0f7a4_3 : decode cJ6_bitCount_0f7a4 3 = .ok (.iushr, 1) := dq_124 (by decide +kernel)
theorem dJ6_bitCount_0f7a4_32 : decode cJ6_bitCount_0f7a4 32 = .ok (.iand, 1) := dq_126 (by decide +kernel)
theorem dJ6_bitCount_0f7a4_33 : decode cJ6_bitCount_0f7a4 33 = .ok (.istore_n 0, 1) := dq_59 (by decide +kernel)
theorem dJ6_bitCount_0f7a4_34 : decode cJ6_bitCount_0f7a4 34 = .ok (.iload_n 0, 1) := dq_26 (by decide +kernel)
theorem dJ6_bitCount_0f7a4_35 : decode cJ6_bitCount_0f7a4 35 = .ok (.iload_n 0, 1) := dq_26 (by decide +kernel)
theorem dJ6_bitCount_0f7a4_36 : decode cJ6_bitCount_0f7a4 36 = .ok (.bipush 8, 2) := dq_16 (b1 := 8) (by decide +kernel) (by decide)
theorem dJ6_bitCount_0f7a4_38 : decode cJ6_bitCount_0f7a4 38 = .ok (.iushr, 1) := dq_124 (by decide +kernel)
theorem dJ6_bitCount_0f7a4_39 : decode cJ6_bitCount_0f7a4 39 = .ok (.iadd, 1) := dq_96 (by decide +kernel)
theorem dJ6_bitCount_0f7a4_4 : decode cJ6_bitCount_0f7a4 4 = .ok (.ldc_w 265, 3) := dq_19 (b1 := 1) (b2 := 9) (by decide +kernel) (by decide)
theorem dJ6_bitCount_0f7a4_40 : decode cJ6_bitCount_0f7a4 40 = .ok (.istore_n 0, 1) := dq_59 (by decide +kernel)
theorem dJ6_bitCount_0f7a4_41 : decode cJ6_bitCount_0f7a4 41 = .ok (.iload_n 0, 1) := dq_26 (by decide +kernel)
theorem dJ6_bitCount_0f7a4_42 : decode cJ6_bitCount_0f7a4 42 = .ok (.iload_n 0, 1) := dq_26 (by decide +kernel)
theorem dJ6_bitCount_0f7a4_43 : decode cJ6_bitCount_0f7a4 43 = .ok (.bipush 16, 2) := dq_16 (b1 := 16) (by decide +kernel) (by decide)
theorem dJ6_bitCount_0f7a4_45 : decode cJ6_bitCount_0f7a4 45 = .ok (.iushr, 1) := dq_124 (by decide +kernel)
theorem dJ6_bitCount_0f7a4_46 : decode cJ6_bitCount_0f7a4 46 = .ok (.iadd, 1) := dq_96 (by decide +kernel)
theorem dJ6_bitCount_0f7a4_47 : decode cJ6_bitCount_0f7a4 47 = .ok (.istore_n 0, 1) := dq_59 (by decide +kernel)
theorem dJ6_bitCount_0f7a4_48 : decode cJ6_bitCount_0f7a4 48 = .ok (.iload_n 0, 1) := dq_26 (by decide +kernel)
theorem dJ6_bitCount_0f7a4_49 : decode cJ6_bitCount_0f7a4 49 = .ok (.bipush 63, 2) := dq_16 (b1 := 63) (by decide +kernel) (by decide)
theorem dJ6_bitCount_0f7a4_51 : decode cJ6_bitCount_0f7a4 51 = .ok (.iand, 1) := dq_126 (by decide +kernel)
theorem dJ6_bitCount_0f7a4_52 : decode cJ6_bitCount_0f7a4 52 = .ok (.ireturn, 1) := dq_172 (by decide +kernel)
theorem dJ6_bitCount_0f7a4_7 : decode cJ6_bitCount_0f7a4 7 = .ok (.iand, 1) := dq_126 (by decide +kernel)
theorem dJ6_bitCount_0f7a4_8 : decode cJ6_bitCount_0f7a4 8 = .ok (.isub, 1) := dq_100 (by decide +kernel)
theorem dJ6_bitCount_0f7a4_9 : decode cJ6_bitCount_0f7a4 9 = .ok (.istore_n 0, 1) := dq_59 (by decide +kernel)
theorem dX7_count_0 : decode cX7_count 0 = .ok (.iload_n 1, 1) := dq_27 (by decide +kernel)
theorem dX7_count_1 : decode cX7_count 1 = .ok (.tableswitch 115 0 7 #[47, 55, 63, 71, 79, 87, 99, 107], 47) := by decide +kernel
theorem dX7_count_100 : decode cX7_count 100 = .ok (.aload_n 0, 1) := dq_42 (by decide +kernel)
theorem dX7_count_101 : decode cX7_count 101 = .ok (.getfield 33, 3) := dq_180 (b1 := 0) (b2 := 33) (by decide +kernel) (by decide)
theorem dX7_count_104 : decode cX7_count 104 = .ok (.getfield 138, 3) := dq_180 (b1 := 0) (b2 := 138) (by decide +kernel) (by decide)
theorem dX7_count_107 : decode cX7_count 107 = .ok (.ireturn, 1) := dq_172 (by decide +kernel)
theorem dX7_count_108 : decode cX7_count 108 = .ok (.aload_n 0, 1) := dq_42 (by decide +kernel)
theorem dX7_count_109 : decode cX7_count 109 = .ok (.getfield 19, 3) := dq_180 (b1 := 0) (b2 := 19) (by decide +kernel) (by decide)
theorem dX7_count_112 : decode cX7_count 112 = .ok (.getfield 322, 3) := dq_180 (b1 := 1) (b2 := 66) (by decide +kernel) (by decide)
theorem dX7_count_115 : decode cX7_count 115 = .ok (.ireturn, 1) := dq_172 (by decide +kernel)
theorem dX7_count_116 : decode cX7_count 116 = .ok (.ldc 72, 2) := dq_18 (b1 := 72) (by decide +kernel) (by decide)
theorem dX7_count_118 : decode cX7_count 118 = .ok (.ireturn, 1) := dq_172 (by decide +kernel)
theorem dX7_count_48 : decode cX7_count 48 = .ok (.aload_n 0, 1) := dq_42 (by decide +kernel)
theorem dX7_count_49 : decode cX7_count 49 = .ok (.getfield 10, 3) := dq_180 (b1 := 0) (b2 := 10) (by decide +kernel) (by decide)
theorem dX7_count_52 : decode cX7_count 52 = .ok (.invokevirtual 319, 3) := dq_182 (b1 := 1) (b2 := 63) (by decide +kernel) (by decide)
theorem dX7_count_55 : decode cX7_count 55 = .ok (.ireturn, 1) := dq_172 (by decide +kernel)
theorem dX7_count_56 : decode cX7_count 56 = .ok (.aload_n 0, 1) := dq_42 (by decide +kernel)
theorem dX7_count_57 : decode cX7_count 57 = .ok (.getfield 26, 3) := dq_180 (b1 := 0) (b2 := 26) (by decide +kernel) (by decide)
theorem dX7_count_60 : decode cX7_count 60 = .ok (.getfield 135, 3) := dq_180 (b1 := 0) (b2 := 135) (by decide +kernel) (by decide)
theorem dX7_count_63 : decode cX7_count 63 = .ok (.ireturn, 1) := dq_172 (by decide +kernel)
theorem dX7_count_64 : decode cX7_count 64 = .ok (.aload_n 0, 1) := dq_42 (by decide +kernel)
theorem dX7_count_65 : decode cX7_count 65 = .ok (.getfield 26, 3) := dq_180 (b1 := 0) (b2 := 26) (by decide +kernel) (by decide)
theorem dX7_count_68 : decode cX7_count 68 = .ok (.getfield 269, 3) := dq_180 (b1 := 1) (b2 := 13) (by decide +kernel) (by decide)
theorem dX7_count_71 : decode cX7_count 71 = .ok (.ireturn, 1) := dq_172 (by decide +kernel)
theorem dX7_count_72 : decode cX7_count 72 = .ok (.aload_n 0, 1) := dq_42 (by decide +kernel)
theorem dX7_count_73 : decode cX7_count 73 = .ok (.getfield 26, 3) := dq_180 (b1 := 0) (b2 := 26) (by decide +kernel) (by decide)
theorem dX7_count_76 : decode cX7_count 76 = .ok (.getfield 148, 3) := dq_180 (b1 := 0) (b2 := 148) (by decide +kernel) (by decide)
theorem dX7_count_79 : decode cX7_count 79 = .ok (.ireturn, 1) := dq_172 (by decide +kernel)
theorem dX7_count_80 : decode cX7_count 80 = .ok (.aload_n 0, 1) := dq_42 (by decide +kernel)
theorem dX7_count_81 : decode cX7_count 81 = .ok (.getfield 26, 3) := dq_180 (b1 := 0) (b2 := 26) (by decide +kernel) (by decide)
theorem dX7_count_84 : decode cX7_count 84 = .ok (.getfield 157, 3) := dq_180 (b1 := 0) (b2 := 157) (by decide +kernel) (by decide)
theorem dX7_count_87 : decode cX7_count 87 = .ok (.ireturn, 1) := dq_172 (by decide +kernel)
theorem dX7_count_88 : decode cX7_count 88 = .ok (.aload_n 0, 1) := dq_42 (by decide +kernel)
theorem dX7_count_89 : decode cX7_count 89 = .ok (.getfield 26, 3) := dq_180 (b1 := 0) (b2 := 26) (by decide +kernel) (by decide)
theorem dX7_count_92 : decode cX7_count 92 = .ok (.iconst 0, 1) := dq_3 (by decide +kernel)
theorem dX7_count_93 : decode cX7_count 93 = .ok (.invokevirtual 185, 3) := dq_182 (b1 := 0) (b2 := 185) (by decide +kernel) (by decide)
theorem dX7_count_96 : decode cX7_count 96 = .ok (.invokestatic 296, 3) := dq_184 (b1 := 1) (b2 := 40) (by decide +kernel) (by decide)
theorem dX7_count_99 : decode cX7_count 99 = .ok (.ireturn, 1) := dq_172 (by decide +kernel)
theorem dX7_fault_0 : decode cX7_fault 0 = .ok (.aload_n 0, 1) := dq_42 (by decide +kernel)
theorem dX7_fault_1 : decode cX7_fault 1 = .ok (.getfield 117, 3) := dq_180 (b1 := 0) (b2 := 117) (by decide +kernel) (by decide)
theorem dX7_fault_4 : decode cX7_fault 4 = .ok (.ireturn, 1) := dq_172 (by decide +kernel)
theorem dX7_foundNothing_0 : decode cX7_foundNothing 0 = .ok (.aload_n 0, 1) := dq_42 (by decide +kernel)
theorem dX7_foundNothing_1 : decode cX7_foundNothing 1 = .ok (.iconst 0, 1) := dq_3 (by decide +kernel)
theorem dX7_foundNothing_2 : decode cX7_foundNothing 2 = .ok (.putfield 323, 3) := dq_181 (b1 := 1) (b2 := 67) (by decide +kernel) (by decide)
theorem dX7_foundNothing_5 : decode cX7_foundNothing 5 = .ok (.iload_n 1, 1) := dq_27 (by decide +kernel)
theorem dX7_foundNothing_6 : decode cX7_foundNothing 6 = .ok (.ireturn, 1) := dq_172 (by decide +kernel)
theorem dX7_found_0 : decode cX7_found 0 = .ok (.aload_n 0, 1) := dq_42 (by decide +kernel)
theorem dX7_found_1 : decode cX7_found 1 = .ok (.iload_n 1, 1) := dq_27 (by decide +kernel)
theorem dX7_found_10 : decode cX7_found 10 = .ok (.ireturn, 1) := dq_172 (by decide +kernel)
theorem dX7_found_2 : decode cX7_found 2 = .ok (.putfield 323, 3) := dq_181 (b1 := 1) (b2 := 67) (by decide +kernel) (by decide)
theorem dX7_found_5 : decode cX7_found 5 = .ok (.ldc_w 326, 3) := dq_19 (b1 := 1) (b2 := 70) (by decide +kernel) (by decide)
theorem dX7_found_8 : decode cX7_found 8 = .ok (.iload_n 1, 1) := dq_27 (by decide +kernel)
theorem dX7_found_9 : decode cX7_found 9 = .ok (.isub, 1) := dq_100 (by decide +kernel)
theorem dX7_gust_0 : decode cX7_gust 0 = .ok (.aload_n 0, 1) := dq_42 (by decide +kernel)
theorem dX7_gust_1 : decode cX7_gust 1 = .ok (.getfield 26, 3) := dq_180 (b1 := 0) (b2 := 26) (by decide +kernel) (by decide)
theorem dX7_gust_10 : decode cX7_gust 10 = .ok (.ldc 141, 2) := dq_18 (b1 := 141) (by decide +kernel) (by decide)
theorem dX7_gust_12 : decode cX7_gust 12 = .ok (.ireturn, 1) := dq_172 (by decide +kernel)
theorem dX7_gust_13 : decode cX7_gust 13 = .ok (.iload_n 1, 1) := dq_27 (by decide +kernel)
theorem dX7_gust_14 : decode cX7_gust 14 = .ok (.invokestatic 207, 3) := dq_184 (b1 := 0) (b2 := 207) (by decide +kernel) (by decide)
theorem dX7_gust_17 : decode cX7_gust 17 = .ok (.ifCond .eq 14, 3) := dq_153 (b1 := 0) (b2 := 14) (by decide +kernel) (by decide)
theorem dX7_gust_20 : decode cX7_gust 20 = .ok (.aload_n 0, 1) := dq_42 (by decide +kernel)
theorem dX7_gust_21 : decode cX7_gust 21 = .ok (.getfield 26, 3) := dq_180 (b1 := 0) (b2 := 26) (by decide +kernel) (by decide)
theorem dX7_gust_24 : decode cX7_gust 24 = .ok (.iload_n 1, 1) := dq_27 (by decide +kernel)
theorem dX7_gust_25 : decode cX7_gust 25 = .ok (.invokevirtual 188, 3) := dq_182 (b1 := 0) (b2 := 188) (by decide +kernel) (by decide)
theorem dX7_gust_28 : decode cX7_gust 28 = .ok (.goto 5, 3) := dq_167 (b1 := 0) (b2 := 5) (by decide +kernel) (by decide)
theorem dX7_gust_31 : decode cX7_gust 31 = .ok (.ldc 72, 2) := dq_18 (b1 := 72) (by decide +kernel) (by decide)
theorem dX7_gust_33 : decode cX7_gust 33 = .ok (.ireturn, 1) := dq_172 (by decide +kernel)
theorem dX7_gust_4 : decode cX7_gust 4 = .ok (.invokevirtual 145, 3) := dq_182 (b1 := 0) (b2 := 145) (by decide +kernel) (by decide)
theorem dX7_gust_7 : decode cX7_gust 7 = .ok (.ifCond .ne 6, 3) := dq_154 (b1 := 0) (b2 := 6) (by decide +kernel) (by decide)
theorem dX7_isForetold_0 : decode cX7_isForetold 0 = .ok (.iload_n 0, 1) := dq_26 (by decide +kernel)
theorem dX7_isForetold_1 : decode cX7_isForetold 1 = .ok (.ifCond .lt 13, 3) := dq_155 (b1 := 0) (b2 := 13) (by decide +kernel) (by decide)
theorem dX7_isForetold_10 : decode cX7_isForetold 10 = .ok (.iconst 1, 1) := dq_4 (by decide +kernel)
theorem dX7_isForetold_11 : decode cX7_isForetold 11 = .ok (.goto 4, 3) := dq_167 (b1 := 0) (b2 := 4) (by decide +kernel) (by decide)
theorem dX7_isForetold_14 : decode cX7_isForetold 14 = .ok (.iconst 0, 1) := dq_3 (by decide +kernel)
theorem dX7_isForetold_15 : decode cX7_isForetold 15 = .ok (.ireturn, 1) := dq_172 (by decide +kernel)
theorem dX7_isForetold_4 : decode cX7_isForetold 4 = .ok (.iload_n 0, 1) := dq_26 (by decide +kernel)
theorem dX7_isForetold_5 : decode cX7_isForetold 5 = .ok (.bipush 60, 2) := dq_16 (b1 := 60) (by decide +kernel) (by decide)
theorem dX7_isForetold_7 : decode cX7_isForetold 7 = .ok (.if_icmp .gt 7, 3) := dq_163 (b1 := 0) (b2 := 7) (by decide +kernel) (by decide)
theorem dX7_isHeard_0 : decode cX7_isHeard 0 = .ok (.iload_n 0, 1) := dq_26 (by decide +kernel)
theorem dX7_isHeard_1 : decode cX7_isHeard 1 = .ok (.invokestatic 65, 3) := dq_184 (b1 := 0) (b2 := 65) (by decide +kernel) (by decide)
theorem dX7_isHeard_12 : decode cX7_isHeard 12 = .ok (.iload_n 1, 1) := dq_27 (by decide +kernel)
theorem dX7_isHeard_13 : decode cX7_isHeard 13 = .ok (.bipush 12, 2) := dq_16 (b1 := 12) (by decide +kernel) (by decide)
theorem dX7_isHeard_15 : decode cX7_isHeard 15 = .ok (.if_icmp .gt 7, 3) := dq_163 (b1 := 0) (b2 := 7) (by decide +kernel) (by decide)
theorem dX7_isHeard_18 : decode cX7_isHeard 18 = .ok (.iconst 1, 1) := dq_4 (by decide +kernel)
theorem dX7_isHeard_19 : decode cX7_isHeard 19 = .ok (.goto 4, 3) := dq_167 (b1 := 0) (b2 := 4) (by decide +kernel) (by decide)
theorem dX7_isHeard_22 : decode cX7_isHeard 22 = .ok (.iconst 0, 1) := dq_3 (by decide +kernel)
theorem dX7_isHeard_23 : decode cX7_isHeard 23 = .ok (.ireturn, 1) := dq_172 (by decide +kernel)
theorem dX7_isHeard_4 : decode cX7_isHeard 4 = .ok (.ifCond .eq 18, 3) := dq_153 (b1 := 0) (b2 := 18) (by decide +kernel) (by decide)
theorem dX7_isHeard_7 : decode cX7_isHeard 7 = .ok (.iload_n 1, 1) := dq_27 (by decide +kernel)
theorem dX7_isHeard_8 : decode cX7_isHeard 8 = .ok (.iconst 1, 1) := dq_4 (by decide +kernel)
theorem dX7_isHeard_9 : decode cX7_isHeard 9 = .ok (.if_icmp .lt 13, 3) := dq_161 (b1 := 0) (b2 := 13) (by decide +kernel) (by decide)
theorem dX7_isOfKind_0 : decode cX7_isOfKind 0 = .ok (.iload_n 0, 1) := dq_26 (by decide +kernel)
theorem dX7_isOfKind_1 : decode cX7_isOfKind 1 = .ok (.istore_n 2, 1) := dq_61 (by decide +kernel)
theorem dX7_isOfKind_12 : decode cX7_isOfKind 12 = .ok (.iload_n 2, 1) := dq_28 (by decide +kernel)
theorem dX7_isOfKind_13 : decode cX7_isOfKind 13 = .ok (.ifCond .lt 30, 3) := dq_155 (b1 := 0) (b2 := 30) (by decide +kernel) (by decide)
theorem dX7_isOfKind_16 : decode cX7_isOfKind 16 = .ok (.iload_n 2, 1) := dq_28 (by decide +kernel)
theorem dX7_isOfKind_17 : decode cX7_isOfKind 17 = .ok (.getstatic 327, 3) := dq_178 (b1 := 1) (b2 := 71) (by decide +kernel) (by decide)
theorem dX7_isOfKind_2 : decode cX7_isOfKind 2 = .ok (.iconst 0, 1) := dq_3 (by decide +kernel)
theorem dX7_isOfKind_20 : decode cX7_isOfKind 20 = .ok (.arraylength, 1) := dq_190 (by decide +kernel)
theorem dX7_isOfKind_21 : decode cX7_isOfKind 21 = .ok (.if_icmp .ge 22, 3) := dq_162 (b1 := 0) (b2 := 22) (by decide +kernel) (by decide)
theorem dX7_isOfKind_24 : decode cX7_isOfKind 24 = .ok (.iload_n 2, 1) := dq_28 (by decide +kernel)
theorem dX7_isOfKind_25 : decode cX7_isOfKind 25 = .ok (.iload_n 1, 1) := dq_27 (by decide +kernel)
theorem dX7_isOfKind_26 : decode cX7_isOfKind 26 = .ok (.if_icmp .ne 5, 3) := dq_160 (b1 := 0) (b2 := 5) (by decide +kernel) (by decide)
theorem dX7_isOfKind_29 : decode cX7_isOfKind 29 = .ok (.iconst 1, 1) := dq_4 (by decide +kernel)
theorem dX7_isOfKind_3 : decode cX7_isOfKind 3 = .ok (.istore_n 3, 1) := dq_62 (by decide +kernel)
theorem dX7_isOfKind_30 : decode cX7_isOfKind 30 = .ok (.ireturn, 1) := dq_172 (by decide +kernel)
theorem dX7_isOfKind_31 : decode cX7_isOfKind 31 = .ok (.getstatic 327, 3) := dq_178 (b1 := 1) (b2 := 71) (by decide +kernel) (by decide)
theorem dX7_isOfKind_34 : decode cX7_isOfKind 34 = .ok (.iload_n 2, 1) := dq_28 (by decide +kernel)
theorem dX7_isOfKind_35 : decode cX7_isOfKind 35 = .ok (.iaload, 1) := dq_46 (by decide +kernel)
theorem dX7_isOfKind_36 : decode cX7_isOfKind 36 = .ok (.istore_n 2, 1) := dq_61 (by decide +kernel)
theorem dX7_isOfKind_37 : decode cX7_isOfKind 37 = .ok (.iinc 3 1, 3) := dq_132 (b1 := 3) (b2 := 1) (by decide +kernel) (by decide) (by decide)
theorem dX7_isOfKind_4 : decode cX7_isOfKind 4 = .ok (.iload_n 3, 1) := dq_29 (by decide +kernel)
theorem dX7_isOfKind_40 : decode cX7_isOfKind 40 = .ok (.goto (-36), 3) := dq_167 (b1 := 255) (b2 := 220) (by decide +kernel) (by decide)
theorem dX7_isOfKind_43 : decode cX7_isOfKind 43 = .ok (.iconst 0, 1) := dq_3 (by decide +kernel)
theorem dX7_isOfKind_44 : decode cX7_isOfKind 44 = .ok (.ireturn, 1) := dq_172 (by decide +kernel)
theorem dX7_isOfKind_5 : decode cX7_isOfKind 5 = .ok (.getstatic 327, 3) := dq_178 (b1 := 1) (b2 := 71) (by decide +kernel) (by decide)
theorem dX7_isOfKind_8 : decode cX7_isOfKind 8 = .ok (.arraylength, 1) := dq_190 (by decide +kernel)
theorem dX7_isOfKind_9 : decode cX7_isOfKind 9 = .ok (.if_icmp .ge 34, 3) := dq_162 (b1 := 0) (b2 := 34) (by decide +kernel) (by decide)
theorem dX7_kind_0 : decode cX7_kind 0 = .ok (.aload_n 0, 1) := dq_42 (by decide +kernel)
theorem dX7_kind_1 : decode cX7_kind 1 = .ok (.getfield 26, 3) := dq_180 (b1 := 0) (b2 := 26) (by decide +kernel) (by decide)
theorem dX7_kind_11 : decode cX7_kind 11 = .ok (.aload_n 0, 1) := dq_42 (by decide +kernel)
theorem dX7_kind_12 : decode cX7_kind 12 = .ok (.getfield 26, 3) := dq_180 (b1 := 0) (b2 := 26) (by decide +kernel) (by decide)
theorem dX7_kind_15 : decode cX7_kind 15 = .ok (.getfield 301, 3) := dq_180 (b1 := 1) (b2 := 45) (by decide +kernel) (by decide)
theorem dX7_kind_18 : decode cX7_kind 18 = .ok (.iload_n 1, 1) := dq_27 (by decide +kernel)
theorem dX7_kind_19 : decode cX7_kind 19 = .ok (.iaload, 1) := dq_46 (by decide +kernel)
theorem dX7_kind_20 : decode cX7_kind 20 = .ok (.goto 5, 3) := dq_167 (b1 := 0) (b2 := 5) (by decide +kernel) (by decide)
theorem dX7_kind_23 : decode cX7_kind 23 = .ok (.ldc 72, 2) := dq_18 (b1 := 72) (by decide +kernel) (by decide)
theorem dX7_kind_25 : decode cX7_kind 25 = .ok (.ireturn, 1) := dq_172 (by decide +kernel)
theorem dX7_kind_4 : decode cX7_kind 4 = .ok (.iload_n 1, 1) := dq_27 (by decide +kernel)
theorem dX7_kind_5 : decode cX7_kind 5 = .ok (.invokevirtual 173, 3) := dq_182 (b1 := 0) (b2 := 173) (by decide +kernel) (by decide)
theorem dX7_kind_8 : decode cX7_kind 8 = .ok (.ifCond .eq 15, 3) := dq_153 (b1 := 0) (b2 := 15) (by decide +kernel) (by decide)
theorem dX7_sack_0 : decode cX7_sack 0 = .ok (.aload_n 0, 1) := dq_42 (by decide +kernel)
theorem dX7_sack_1 : decode cX7_sack 1 = .ok (.getfield 26, 3) := dq_180 (b1 := 0) (b2 := 26) (by decide +kernel) (by decide)
theorem dX7_sack_10 : decode cX7_sack 10 = .ok (.ldc 141, 2) := dq_18 (b1 := 141) (by decide +kernel) (by decide)
theorem dX7_sack_100 : decode cX7_sack 100 = .ok (.istore 5, 2) := dq_54 (b1 := 5) (by decide +kernel) (by decide)
theorem dX7_sack_102 : decode cX7_sack 102 = .ok (.iload 6, 2) := dq_21 (b1 := 6) (by decide +kernel) (by decide)
theorem dX7_sack_104 : decode cX7_sack 104 = .ok (.iload 7, 2) := dq_21 (b1 := 7) (by decide +kernel) (by decide)
theorem dX7_sack_106 : decode cX7_sack 106 = .ok (.ior, 1) := dq_128 (by decide +kernel)
theorem dX7_sack_107 : decode cX7_sack 107 = .ok (.istore 6, 2) := dq_54 (b1 := 6) (by decide +kernel) (by decide)
theorem dX7_sack_109 : decode cX7_sack 109 = .ok (.iinc 7 1, 3) := dq_132 (b1 := 7) (b2 := 1) (by decide +kernel) (by decide) (by decide)
theorem dX7_sack_112 : decode cX7_sack 112 = .ok (.goto (-56), 3) := dq_167 (b1 := 255) (b2 := 200) (by decide +kernel) (by decide)
theorem dX7_sack_115 : decode cX7_sack 115 = .ok (.iload_n 2, 1) := dq_28 (by decide +kernel)
theorem dX7_sack_116 : decode cX7_sack 116 = .ok (.ifCond .ne 6, 3) := dq_154 (b1 := 0) (b2 := 6) (by decide +kernel) (by decide)
theorem dX7_sack_119 : decode cX7_sack 119 = .ok (.iload 4, 2) := dq_21 (b1 := 4) (by decide +kernel) (by decide)
theorem dX7_sack_12 : decode cX7_sack 12 = .ok (.ireturn, 1) := dq_172 (by decide +kernel)
theorem dX7_sack_121 : decode cX7_sack 121 = .ok (.ireturn, 1) := dq_172 (by decide +kernel)
theorem dX7_sack_122 : decode cX7_sack 122 = .ok (.iload_n 2, 1) := dq_28 (by decide +kernel)
theorem dX7_sack_123 : decode cX7_sack 123 = .ok (.iconst 2, 1) := dq_5 (by decide +kernel)
theorem dX7_sack_124 : decode cX7_sack 124 = .ok (.if_icmp .ne 8, 3) := dq_160 (b1 := 0) (b2 := 8) (by decide +kernel) (by decide)
theorem dX7_sack_127 : decode cX7_sack 127 = .ok (.iload 6, 2) := dq_21 (b1 := 6) (by decide +kernel) (by decide)
theorem dX7_sack_129 : decode cX7_sack 129 = .ok (.goto 14, 3) := dq_167 (b1 := 0) (b2 := 14) (by decide +kernel) (by decide)
theorem dX7_sack_13 : decode cX7_sack 13 = .ok (.iload_n 1, 1) := dq_27 (by decide +kernel)
theorem dX7_sack_132 : decode cX7_sack 132 = .ok (.iload 4, 2) := dq_21 (b1 := 4) (by decide +kernel) (by decide)
theorem dX7_sack_134 : decode cX7_sack 134 = .ok (.ifCond .ne 7, 3) := dq_154 (b1 := 0) (b2 := 7) (by decide +kernel) (by decide)
theorem dX7_sack_137 : decode cX7_sack 137 = .ok (.iconst 0, 1) := dq_3 (by decide +kernel)
theorem dX7_sack_138 : decode cX7_sack 138 = .ok (.goto 5, 3) := dq_167 (b1 := 0) (b2 := 5) (by decide +kernel) (by decide)
theorem dX7_sack_14 : decode cX7_sack 14 = .ok (.ifCond .lt 18, 3) := dq_155 (b1 := 0) (b2 := 18) (by decide +kernel) (by decide)
theorem dX7_sack_141 : decode cX7_sack 141 = .ok (.iload 5, 2) := dq_21 (b1 := 5) (by decide +kernel) (by decide)
theorem dX7_sack_143 : decode cX7_sack 143 = .ok (.ireturn, 1) := dq_172 (by decide +kernel)
theorem dX7_sack_17 : decode cX7_sack 17 = .ok (.iload_n 1, 1) := dq_27 (by decide +kernel)
theorem dX7_sack_18 : decode cX7_sack 18 = .ok (.bipush 120, 2) := dq_16 (b1 := 120) (by decide +kernel) (by decide)
theorem dX7_sack_20 : decode cX7_sack 20 = .ok (.if_icmp .gt 12, 3) := dq_163 (b1 := 0) (b2 := 12) (by decide +kernel) (by decide)
theorem dX7_sack_23 : decode cX7_sack 23 = .ok (.iload_n 2, 1) := dq_28 (by decide +kernel)
theorem dX7_sack_24 : decode cX7_sack 24 = .ok (.ifCond .lt 8, 3) := dq_155 (b1 := 0) (b2 := 8) (by decide +kernel) (by decide)
theorem dX7_sack_27 : decode cX7_sack 27 = .ok (.iload_n 2, 1) := dq_28 (by decide +kernel)
theorem dX7_sack_28 : decode cX7_sack 28 = .ok (.iconst 2, 1) := dq_5 (by decide +kernel)
theorem dX7_sack_29 : decode cX7_sack 29 = .ok (.if_icmp .le 6, 3) := dq_164 (b1 := 0) (b2 := 6) (by decide +kernel) (by decide)
theorem dX7_sack_32 : decode cX7_sack 32 = .ok (.ldc 72, 2) := dq_18 (b1 := 72) (by decide +kernel) (by decide)
theorem dX7_sack_34 : decode cX7_sack 34 = .ok (.ireturn, 1) := dq_172 (by decide +kernel)
theorem dX7_sack_35 : decode cX7_sack 35 = .ok (.aload_n 0, 1) := dq_42 (by decide +kernel)
theorem dX7_sack_36 : decode cX7_sack 36 = .ok (.getfield 26, 3) := dq_180 (b1 := 0) (b2 := 26) (by decide +kernel) (by decide)
theorem dX7_sack_39 : decode cX7_sack 39 = .ok (.iconst 0, 1) := dq_3 (by decide +kernel)
theorem dX7_sack_4 : decode cX7_sack 4 = .ok (.invokevirtual 145, 3) := dq_182 (b1 := 0) (b2 := 145) (by decide +kernel) (by decide)
theorem dX7_sack_40 : decode cX7_sack 40 = .ok (.invokevirtual 185, 3) := dq_182 (b1 := 0) (b2 := 185) (by decide +kernel) (by decide)
theorem dX7_sack_43 : decode cX7_sack 43 = .ok (.istore_n 3, 1) := dq_62 (by decide +kernel)
theorem dX7_sack_44 : decode cX7_sack 44 = .ok (.iconst 0, 1) := dq_3 (by decide +kernel)
theorem dX7_sack_45 : decode cX7_sack 45 = .ok (.istore 4, 2) := dq_54 (b1 := 4) (by decide +kernel) (by decide)
theorem dX7_sack_47 : decode cX7_sack 47 = .ok (.iload_n 3, 1) := dq_29 (by decide +kernel)
theorem dX7_sack_48 : decode cX7_sack 48 = .ok (.istore 5, 2) := dq_54 (b1 := 5) (by decide +kernel) (by decide)
theorem dX7_sack_50 : decode cX7_sack 50 = .ok (.iconst 0, 1) := dq_3 (by decide +kernel)
theorem dX7_sack_51 : decode cX7_sack 51 = .ok (.istore 6, 2) := dq_54 (b1 := 6) (by decide +kernel) (by decide)
theorem dX7_sack_53 : decode cX7_sack 53 = .ok (.iconst 0, 1) := dq_3 (by decide +kernel)
theorem dX7_sack_54 : decode cX7_sack 54 = .ok (.istore 7, 2) := dq_54 (b1 := 7) (by decide +kernel) (by decide)
theorem dX7_sack_56 : decode cX7_sack 56 = .ok (.iload 7, 2) := dq_21 (b1 := 7) (by decide +kernel) (by decide)
theorem dX7_sack_58 : decode cX7_sack 58 = .ok (.iconst 1, 1) := dq_4 (by decide +kernel)
theorem dX7_sack_59 : decode cX7_sack 59 = .ok (.aload_n 0, 1) := dq_42 (by decide +kernel)
theorem dX7_sack_60 : decode cX7_sack 60 = .ok (.getfield 26, 3) := dq_180 (b1 := 0) (b2 := 26) (by decide +kernel) (by decide)
theorem dX7_sack_63 : decode cX7_sack 63 = .ok (.getfield 135, 3) := dq_180 (b1 := 0) (b2 := 135) (by decide +kernel) (by decide)
theorem dX7_sack_66 : decode cX7_sack 66 = .ok (.ishl, 1) := dq_120 (by decide +kernel)
theorem dX7_sack_67 : decode cX7_sack 67 = .ok (.if_icmp .ge 48, 3) := dq_162 (b1 := 0) (b2 := 48) (by decide +kernel) (by decide)
theorem dX7_sack_7 : decode cX7_sack 7 = .ok (.ifCond .ne 6, 3) := dq_154 (b1 := 0) (b2 := 6) (by decide +kernel) (by decide)
theorem dX7_sack_70 : decode cX7_sack 70 = .ok (.iload 7, 2) := dq_21 (b1 := 7) (by decide +kernel) (by decide)
theorem dX7_sack_72 : decode cX7_sack 72 = .ok (.iload_n 3, 1) := dq_29 (by decide +kernel)
theorem dX7_sack_73 : decode cX7_sack 73 = .ok (.iconst (-1), 1) := dq_2 (by decide +kernel)
theorem dX7_sack_74 : decode cX7_sack 74 = .ok (.ixor, 1) := dq_130 (by decide +kernel)
theorem dX7_sack_75 : decode cX7_sack 75 = .ok (.iand, 1) := dq_126 (by decide +kernel)
theorem dX7_sack_76 : decode cX7_sack 76 = .ok (.ifCond .ne 33, 3) := dq_154 (b1 := 0) (b2 := 33) (by decide +kernel) (by decide)
theorem dX7_sack_79 : decode cX7_sack 79 = .ok (.aload_n 0, 1) := dq_42 (by decide +kernel)
theorem dX7_sack_80 : decode cX7_sack 80 = .ok (.getfield 26, 3) := dq_180 (b1 := 0) (b2 := 26) (by decide +kernel) (by decide)
theorem dX7_sack_83 : decode cX7_sack 83 = .ok (.iload 7, 2) := dq_21 (b1 := 7) (by decide +kernel) (by decide)
theorem dX7_sack_85 : decode cX7_sack 85 = .ok (.invokevirtual 237, 3) := dq_182 (b1 := 0) (b2 := 237) (by decide +kernel) (by decide)
theorem dX7_sack_88 : decode cX7_sack 88 = .ok (.iload_n 1, 1) := dq_27 (by decide +kernel)
theorem dX7_sack_89 : decode cX7_sack 89 = .ok (.if_icmp .ne 20, 3) := dq_160 (b1 := 0) (b2 := 20) (by decide +kernel) (by decide)
theorem dX7_sack_92 : decode cX7_sack 92 = .ok (.iinc 4 1, 3) := dq_132 (b1 := 4) (b2 := 1) (by decide +kernel) (by decide) (by decide)
theorem dX7_sack_95 : decode cX7_sack 95 = .ok (.iload 5, 2) := dq_21 (b1 := 5) (by decide +kernel) (by decide)
theorem dX7_sack_97 : decode cX7_sack 97 = .ok (.iload 7, 2) := dq_21 (b1 := 7) (by decide +kernel) (by decide)
theorem dX7_sack_99 : decode cX7_sack 99 = .ok (.iand, 1) := dq_126 (by decide +kernel)
theorem dX7_share_0 : decode cX7_share 0 = .ok (.aload_n 0, 1) := dq_42 (by decide +kernel)
theorem dX7_share_1 : decode cX7_share 1 = .ok (.getfield 26, 3) := dq_180 (b1 := 0) (b2 := 26) (by decide +kernel) (by decide)
theorem dX7_share_101 : decode cX7_share 101 = .ok (.iload 6, 2) := dq_21 (b1 := 6) (by decide +kernel) (by decide)
theorem dX7_share_103 : decode cX7_share 103 = .ok (.iaload, 1) := dq_46 (by decide +kernel)
theorem dX7_share_104 : decode cX7_share 104 = .ok (.imul, 1) := dq_104 (by decide +kernel)
theorem dX7_share_105 : decode cX7_share 105 = .ok (.iload_n 3, 1) := dq_29 (by decide +kernel)
theorem dX7_share_106 : decode cX7_share 106 = .ok (.idiv, 1) := dq_108 (by decide +kernel)
theorem dX7_share_107 : decode cX7_share 107 = .ok (.isub, 1) := dq_100 (by decide +kernel)
theorem dX7_share_108 : decode cX7_share 108 = .ok (.istore 4, 2) := dq_54 (b1 := 4) (by decide +kernel) (by decide)
theorem dX7_share_11 : decode cX7_share 11 = .ok (.iload_n 2, 1) := dq_28 (by decide +kernel)
theorem dX7_share_110 : decode cX7_share 110 = .ok (.iload 5, 2) := dq_21 (b1 := 5) (by decide +kernel) (by decide)
theorem dX7_share_112 : decode cX7_share 112 = .ok (.iload 6, 2) := dq_21 (b1 := 6) (by decide +kernel) (by decide)
theorem dX7_share_114 : decode cX7_share 114 = .ok (.iload_n 1, 1) := dq_27 (by decide +kernel)
theorem dX7_share_115 : decode cX7_share 115 = .ok (.if_icmp .ge 7, 3) := dq_162 (b1 := 0) (b2 := 7) (by decide +kernel) (by decide)
theorem dX7_share_118 : decode cX7_share 118 = .ok (.iconst 1, 1) := dq_4 (by decide +kernel)
theorem dX7_share_119 : decode cX7_share 119 = .ok (.goto 4, 3) := dq_167 (b1 := 0) (b2 := 4) (by decide +kernel) (by decide)
theorem dX7_share_12 : decode cX7_share 12 = .ok (.ifCond .lt 10, 3) := dq_155 (b1 := 0) (b2 := 10) (by decide +kernel) (by decide)
theorem dX7_share_122 : decode cX7_share 122 = .ok (.iconst 0, 1) := dq_3 (by decide +kernel)
theorem dX7_share_123 : decode cX7_share 123 = .ok (.iadd, 1) := dq_96 (by decide +kernel)
theorem dX7_share_124 : decode cX7_share 124 = .ok (.istore 5, 2) := dq_54 (b1 := 5) (by decide +kernel) (by decide)
theorem dX7_share_126 : decode cX7_share 126 = .ok (.iinc 6 1, 3) := dq_132 (b1 := 6) (b2 := 1) (by decide +kernel) (by decide) (by decide)
theorem dX7_share_129 : decode cX7_share 129 = .ok (.goto (-62), 3) := dq_167 (b1 := 255) (b2 := 194) (by decide +kernel) (by decide)
theorem dX7_share_132 : decode cX7_share 132 = .ok (.iload_n 2, 1) := dq_28 (by decide +kernel)
theorem dX7_share_133 : decode cX7_share 133 = .ok (.aload_n 0, 1) := dq_42 (by decide +kernel)
theorem dX7_share_134 : decode cX7_share 134 = .ok (.getfield 26, 3) := dq_180 (b1 := 0) (b2 := 26) (by decide +kernel) (by decide)
theorem dX7_share_137 : decode cX7_share 137 = .ok (.getfield 240, 3) := dq_180 (b1 := 0) (b2 := 240) (by decide +kernel) (by decide)
theorem dX7_share_140 : decode cX7_share 140 = .ok (.iload_n 1, 1) := dq_27 (by decide +kernel)
theorem dX7_share_141 : decode cX7_share 141 = .ok (.iaload, 1) := dq_46 (by decide +kernel)
theorem dX7_share_142 : decode cX7_share 142 = .ok (.imul, 1) := dq_104 (by decide +kernel)
theorem dX7_share_143 : decode cX7_share 143 = .ok (.iload_n 3, 1) := dq_29 (by decide +kernel)
theorem dX7_share_144 : decode cX7_share 144 = .ok (.idiv, 1) := dq_108 (by decide +kernel)
theorem dX7_share_145 : decode cX7_share 145 = .ok (.iload 5, 2) := dq_21 (b1 := 5) (by decide +kernel) (by decide)
theorem dX7_share_147 : decode cX7_share 147 = .ok (.iload 4, 2) := dq_21 (b1 := 4) (by decide +kernel) (by decide)
theorem dX7_share_149 : decode cX7_share 149 = .ok (.if_icmp .ge 7, 3) := dq_162 (b1 := 0) (b2 := 7) (by decide +kernel) (by decide)
theorem dX7_share_15 : decode cX7_share 15 = .ok (.iload_n 2, 1) := dq_28 (by decide +kernel)
theorem dX7_share_152 : decode cX7_share 152 = .ok (.iconst 1, 1) := dq_4 (by decide +kernel)
theorem dX7_share_153 : decode cX7_share 153 = .ok (.goto 4, 3) := dq_167 (b1 := 0) (b2 := 4) (by decide +kernel) (by decide)
theorem dX7_share_156 : decode cX7_share 156 = .ok (.iconst 0, 1) := dq_3 (by decide +kernel)
theorem dX7_share_157 : decode cX7_share 157 = .ok (.iadd, 1) := dq_96 (by decide +kernel)
theorem dX7_share_158 : decode cX7_share 158 = .ok (.ireturn, 1) := dq_172 (by decide +kernel)
theorem dX7_share_16 : decode cX7_share 16 = .ok (.sipush 999, 3) := dq_17 (b1 := 3) (b2 := 231) (by decide +kernel) (by decide)
theorem dX7_share_19 : decode cX7_share 19 = .ok (.if_icmp .le 6, 3) := dq_164 (b1 := 0) (b2 := 6) (by decide +kernel) (by decide)
theorem dX7_share_22 : decode cX7_share 22 = .ok (.ldc 72, 2) := dq_18 (b1 := 72) (by decide +kernel) (by decide)
theorem dX7_share_24 : decode cX7_share 24 = .ok (.ireturn, 1) := dq_172 (by decide +kernel)
theorem dX7_share_25 : decode cX7_share 25 = .ok (.aload_n 0, 1) := dq_42 (by decide +kernel)
theorem dX7_share_26 : decode cX7_share 26 = .ok (.getfield 26, 3) := dq_180 (b1 := 0) (b2 := 26) (by decide +kernel) (by decide)
theorem dX7_share_29 : decode cX7_share 29 = .ok (.aload_n 0, 1) := dq_42 (by decide +kernel)
theorem dX7_share_30 : decode cX7_share 30 = .ok (.getfield 26, 3) := dq_180 (b1 := 0) (b2 := 26) (by decide +kernel) (by decide)
theorem dX7_share_33 : decode cX7_share 33 = .ok (.iconst 0, 1) := dq_3 (by decide +kernel)
theorem dX7_share_34 : decode cX7_share 34 = .ok (.invokevirtual 185, 3) := dq_182 (b1 := 0) (b2 := 185) (by decide +kernel) (by decide)
theorem dX7_share_37 : decode cX7_share 37 = .ok (.invokevirtual 237, 3) := dq_182 (b1 := 0) (b2 := 237) (by decide +kernel) (by decide)
theorem dX7_share_4 : decode cX7_share 4 = .ok (.iload_n 1, 1) := dq_27 (by decide +kernel)
theorem dX7_share_40 : decode cX7_share 40 = .ok (.istore_n 3, 1) := dq_62 (by decide +kernel)
theorem dX7_share_41 : decode cX7_share 41 = .ok (.aload_n 0, 1) := dq_42 (by decide +kernel)
theorem dX7_share_42 : decode cX7_share 42 = .ok (.getfield 26, 3) := dq_180 (b1 := 0) (b2 := 26) (by decide +kernel) (by decide)
theorem dX7_share_45 : decode cX7_share 45 = .ok (.iload_n 1, 1) := dq_27 (by decide +kernel)
theorem dX7_share_46 : decode cX7_share 46 = .ok (.invokevirtual 179, 3) := dq_182 (b1 := 0) (b2 := 179) (by decide +kernel) (by decide)
theorem dX7_share_49 : decode cX7_share 49 = .ok (.ifCond .eq 7, 3) := dq_153 (b1 := 0) (b2 := 7) (by decide +kernel) (by decide)
theorem dX7_share_5 : decode cX7_share 5 = .ok (.invokevirtual 173, 3) := dq_182 (b1 := 0) (b2 := 173) (by decide +kernel) (by decide)
theorem dX7_share_52 : decode cX7_share 52 = .ok (.iload_n 3, 1) := dq_29 (by decide +kernel)
theorem dX7_share_53 : decode cX7_share 53 = .ok (.ifCond .gt 5, 3) := dq_157 (b1 := 0) (b2 := 5) (by decide +kernel) (by decide)
theorem dX7_share_56 : decode cX7_share 56 = .ok (.iconst 0, 1) := dq_3 (by decide +kernel)
theorem dX7_share_57 : decode cX7_share 57 = .ok (.ireturn, 1) := dq_172 (by decide +kernel)
theorem dX7_share_58 : decode cX7_share 58 = .ok (.iload_n 2, 1) := dq_28 (by decide +kernel)
theorem dX7_share_59 : decode cX7_share 59 = .ok (.istore 4, 2) := dq_54 (b1 := 4) (by decide +kernel) (by decide)
theorem dX7_share_61 : decode cX7_share 61 = .ok (.iconst 0, 1) := dq_3 (by decide +kernel)
theorem dX7_share_62 : decode cX7_share 62 = .ok (.istore 5, 2) := dq_54 (b1 := 5) (by decide +kernel) (by decide)
theorem dX7_share_64 : decode cX7_share 64 = .ok (.iconst 0, 1) := dq_3 (by decide +kernel)
theorem dX7_share_65 : decode cX7_share 65 = .ok (.istore 6, 2) := dq_54 (b1 := 6) (by decide +kernel) (by decide)
theorem dX7_share_67 : decode cX7_share 67 = .ok (.iload 6, 2) := dq_21 (b1 := 6) (by decide +kernel) (by decide)
theorem dX7_share_69 : decode cX7_share 69 = .ok (.aload_n 0, 1) := dq_42 (by decide +kernel)
theorem dX7_share_70 : decode cX7_share 70 = .ok (.getfield 26, 3) := dq_180 (b1 := 0) (b2 := 26) (by decide +kernel) (by decide)
theorem dX7_share_73 : decode cX7_share 73 = .ok (.getfield 135, 3) := dq_180 (b1 := 0) (b2 := 135) (by decide +kernel) (by decide)
theorem dX7_share_76 : decode cX7_share 76 = .ok (.if_icmp .ge 56, 3) := dq_162 (b1 := 0) (b2 := 56) (by decide +kernel) (by decide)
theorem dX7_share_79 : decode cX7_share 79 = .ok (.aload_n 0, 1) := dq_42 (by decide +kernel)
theorem dX7_share_8 : decode cX7_share 8 = .ok (.ifCond .eq 14, 3) := dq_153 (b1 := 0) (b2 := 14) (by decide +kernel) (by decide)
theorem dX7_share_80 : decode cX7_share 80 = .ok (.getfield 26, 3) := dq_180 (b1 := 0) (b2 := 26) (by decide +kernel) (by decide)
theorem dX7_share_83 : decode cX7_share 83 = .ok (.iload 6, 2) := dq_21 (b1 := 6) (by decide +kernel) (by decide)
theorem dX7_share_85 : decode cX7_share 85 = .ok (.invokevirtual 179, 3) := dq_182 (b1 := 0) (b2 := 179) (by decide +kernel) (by decide)
theorem dX7_share_88 : decode cX7_share 88 = .ok (.ifCond .eq 38, 3) := dq_153 (b1 := 0) (b2 := 38) (by decide +kernel) (by decide)
theorem dX7_share_91 : decode cX7_share 91 = .ok (.iload 4, 2) := dq_21 (b1 := 4) (by decide +kernel) (by decide)
theorem dX7_share_93 : decode cX7_share 93 = .ok (.iload_n 2, 1) := dq_28 (by decide +kernel)
theorem dX7_share_94 : decode cX7_share 94 = .ok (.aload_n 0, 1) := dq_42 (by decide +kernel)
theorem dX7_share_95 : decode cX7_share 95 = .ok (.getfield 26, 3) := dq_180 (b1 := 0) (b2 := 26) (by decide +kernel) (by decide)
theorem dX7_share_98 : decode cX7_share 98 = .ok (.getfield 240, 3) := dq_180 (b1 := 0) (b2 := 240) (by decide +kernel) (by decide)
theorem dX7_sound_0 : decode cX7_sound 0 = .ok (.aload_n 0, 1) := dq_42 (by decide +kernel)
theorem dX7_sound_1 : decode cX7_sound 1 = .ok (.getfield 26, 3) := dq_180 (b1 := 0) (b2 := 26) (by decide +kernel) (by decide)
theorem dX7_sound_11 : decode cX7_sound 11 = .ok (.iload_n 2, 1) := dq_28 (by decide +kernel)
theorem dX7_sound_12 : decode cX7_sound 12 = .ok (.ifCond .lt 8, 3) := dq_155 (b1 := 0) (b2 := 8) (by decide +kernel) (by decide)
theorem dX7_sound_15 : decode cX7_sound 15 = .ok (.iload_n 2, 1) := dq_28 (by decide +kernel)
theorem dX7_sound_16 : decode cX7_sound 16 = .ok (.iconst 3, 1) := dq_6 (by decide +kernel)
theorem dX7_sound_17 : decode cX7_sound 17 = .ok (.if_icmp .le 6, 3) := dq_164 (b1 := 0) (b2 := 6) (by decide +kernel) (by decide)
theorem dX7_sound_20 : decode cX7_sound 20 = .ok (.ldc 72, 2) := dq_18 (b1 := 72) (by decide +kernel) (by decide)
theorem dX7_sound_22 : decode cX7_sound 22 = .ok (.ireturn, 1) := dq_172 (by decide +kernel)
theorem dX7_sound_23 : decode cX7_sound 23 = .ok (.iload_n 2, 1) := dq_28 (by decide +kernel)
theorem dX7_sound_24 : decode cX7_sound 24 = .ok (.iconst 3, 1) := dq_6 (by decide +kernel)
theorem dX7_sound_25 : decode cX7_sound 25 = .ok (.if_icmp .ne 22, 3) := dq_160 (b1 := 0) (b2 := 22) (by decide +kernel) (by decide)
theorem dX7_sound_28 : decode cX7_sound 28 = .ok (.aload_n 0, 1) := dq_42 (by decide +kernel)
theorem dX7_sound_29 : decode cX7_sound 29 = .ok (.getfield 26, 3) := dq_180 (b1 := 0) (b2 := 26) (by decide +kernel) (by decide)
theorem dX7_sound_32 : decode cX7_sound 32 = .ok (.iload_n 1, 1) := dq_27 (by decide +kernel)
theorem dX7_sound_33 : decode cX7_sound 33 = .ok (.aload_n 0, 1) := dq_42 (by decide +kernel)
theorem dX7_sound_34 : decode cX7_sound 34 = .ok (.getfield 26, 3) := dq_180 (b1 := 0) (b2 := 26) (by decide +kernel) (by decide)
theorem dX7_sound_37 : decode cX7_sound 37 = .ok (.iconst 0, 1) := dq_3 (by decide +kernel)
theorem dX7_sound_38 : decode cX7_sound 38 = .ok (.invokevirtual 188, 3) := dq_182 (b1 := 0) (b2 := 188) (by decide +kernel) (by decide)
theorem dX7_sound_4 : decode cX7_sound 4 = .ok (.iload_n 1, 1) := dq_27 (by decide +kernel)
theorem dX7_sound_41 : decode cX7_sound 41 = .ok (.invokevirtual 191, 3) := dq_182 (b1 := 0) (b2 := 191) (by decide +kernel) (by decide)
theorem dX7_sound_44 : decode cX7_sound 44 = .ok (.goto 12, 3) := dq_167 (b1 := 0) (b2 := 12) (by decide +kernel) (by decide)
theorem dX7_sound_47 : decode cX7_sound 47 = .ok (.aload_n 0, 1) := dq_42 (by decide +kernel)
theorem dX7_sound_48 : decode cX7_sound 48 = .ok (.getfield 26, 3) := dq_180 (b1 := 0) (b2 := 26) (by decide +kernel) (by decide)
theorem dX7_sound_5 : decode cX7_sound 5 = .ok (.invokevirtual 173, 3) := dq_182 (b1 := 0) (b2 := 173) (by decide +kernel) (by decide)
theorem dX7_sound_51 : decode cX7_sound 51 = .ok (.iload_n 1, 1) := dq_27 (by decide +kernel)
theorem dX7_sound_52 : decode cX7_sound 52 = .ok (.iload_n 2, 1) := dq_28 (by decide +kernel)
theorem dX7_sound_53 : decode cX7_sound 53 = .ok (.invokevirtual 195, 3) := dq_182 (b1 := 0) (b2 := 195) (by decide +kernel) (by decide)
theorem dX7_sound_56 : decode cX7_sound 56 = .ok (.ireturn, 1) := dq_172 (by decide +kernel)
theorem dX7_sound_8 : decode cX7_sound 8 = .ok (.ifCond .eq 12, 3) := dq_153 (b1 := 0) (b2 := 12) (by decide +kernel) (by decide)
theorem dX7_stand_0 : decode cX7_stand 0 = .ok (.aload_n 0, 1) := dq_42 (by decide +kernel)
theorem dX7_stand_1 : decode cX7_stand 1 = .ok (.getfield 26, 3) := dq_180 (b1 := 0) (b2 := 26) (by decide +kernel) (by decide)
theorem dX7_stand_10 : decode cX7_stand 10 = .ok (.ldc 141, 2) := dq_18 (b1 := 141) (by decide +kernel) (by decide)
theorem dX7_stand_101 : decode cX7_stand 101 = .ok (.iconst 1, 1) := dq_4 (by decide +kernel)
theorem dX7_stand_102 : decode cX7_stand 102 = .ok (.invokevirtual 185, 3) := dq_182 (b1 := 0) (b2 := 185) (by decide +kernel) (by decide)
theorem dX7_stand_105 : decode cX7_stand 105 = .ok (.ireturn, 1) := dq_172 (by decide +kernel)
theorem dX7_stand_106 : decode cX7_stand 106 = .ok (.aload_n 0, 1) := dq_42 (by decide +kernel)
theorem dX7_stand_107 : decode cX7_stand 107 = .ok (.getfield 26, 3) := dq_180 (b1 := 0) (b2 := 26) (by decide +kernel) (by decide)
theorem dX7_stand_110 : decode cX7_stand 110 = .ok (.iconst 2, 1) := dq_5 (by decide +kernel)
theorem dX7_stand_111 : decode cX7_stand 111 = .ok (.invokevirtual 185, 3) := dq_182 (b1 := 0) (b2 := 185) (by decide +kernel) (by decide)
theorem dX7_stand_114 : decode cX7_stand 114 = .ok (.ireturn, 1) := dq_172 (by decide +kernel)
theorem dX7_stand_115 : decode cX7_stand 115 = .ok (.ldc 72, 2) := dq_18 (b1 := 72) (by decide +kernel) (by decide)
theorem dX7_stand_117 : decode cX7_stand 117 = .ok (.ireturn, 1) := dq_172 (by decide +kernel)
theorem dX7_stand_12 : decode cX7_stand 12 = .ok (.ireturn, 1) := dq_172 (by decide +kernel)
theorem dX7_stand_13 : decode cX7_stand 13 = .ok (.iload_n 1, 1) := dq_27 (by decide +kernel)
theorem dX7_stand_14 : decode cX7_stand 14 = .ok (.tableswitch 101 0 6 #[42, 50, 58, 66, 74, 83, 92], 42) := by decide +kernel
theorem dX7_stand_4 : decode cX7_stand 4 = .ok (.invokevirtual 145, 3) := dq_182 (b1 := 0) (b2 := 145) (by decide +kernel) (by decide)
theorem dX7_stand_56 : decode cX7_stand 56 = .ok (.aload_n 0, 1) := dq_42 (by decide +kernel)
theorem dX7_stand_57 : decode cX7_stand 57 = .ok (.getfield 26, 3) := dq_180 (b1 := 0) (b2 := 26) (by decide +kernel) (by decide)
theorem dX7_stand_60 : decode cX7_stand 60 = .ok (.getfield 198, 3) := dq_180 (b1 := 0) (b2 := 198) (by decide +kernel) (by decide)
theorem dX7_stand_63 : decode cX7_stand 63 = .ok (.ireturn, 1) := dq_172 (by decide +kernel)
theorem dX7_stand_64 : decode cX7_stand 64 = .ok (.aload_n 0, 1) := dq_42 (by decide +kernel)
theorem dX7_stand_65 : decode cX7_stand 65 = .ok (.getfield 26, 3) := dq_180 (b1 := 0) (b2 := 26) (by decide +kernel) (by decide)
theorem dX7_stand_68 : decode cX7_stand 68 = .ok (.getfield 201, 3) := dq_180 (b1 := 0) (b2 := 201) (by decide +kernel) (by decide)
theorem dX7_stand_7 : decode cX7_stand 7 = .ok (.ifCond .ne 6, 3) := dq_154 (b1 := 0) (b2 := 6) (by decide +kernel) (by decide)
theorem dX7_stand_71 : decode cX7_stand 71 = .ok (.ireturn, 1) := dq_172 (by decide +kernel)
theorem dX7_stand_72 : decode cX7_stand 72 = .ok (.aload_n 0, 1) := dq_42 (by decide +kernel)
theorem dX7_stand_73 : decode cX7_stand 73 = .ok (.getfield 26, 3) := dq_180 (b1 := 0) (b2 := 26) (by decide +kernel) (by decide)
theorem dX7_stand_76 : decode cX7_stand 76 = .ok (.getfield 204, 3) := dq_180 (b1 := 0) (b2 := 204) (by decide +kernel) (by decide)
theorem dX7_stand_79 : decode cX7_stand 79 = .ok (.ireturn, 1) := dq_172 (by decide +kernel)
theorem dX7_stand_80 : decode cX7_stand 80 = .ok (.aload_n 0, 1) := dq_42 (by decide +kernel)
theorem dX7_stand_81 : decode cX7_stand 81 = .ok (.getfield 26, 3) := dq_180 (b1 := 0) (b2 := 26) (by decide +kernel) (by decide)
theorem dX7_stand_84 : decode cX7_stand 84 = .ok (.getfield 163, 3) := dq_180 (b1 := 0) (b2 := 163) (by decide +kernel) (by decide)
theorem dX7_stand_87 : decode cX7_stand 87 = .ok (.ireturn, 1) := dq_172 (by decide +kernel)
theorem dX7_stand_88 : decode cX7_stand 88 = .ok (.aload_n 0, 1) := dq_42 (by decide +kernel)
theorem dX7_stand_89 : decode cX7_stand 89 = .ok (.getfield 26, 3) := dq_180 (b1 := 0) (b2 := 26) (by decide +kernel) (by decide)
theorem dX7_stand_92 : decode cX7_stand 92 = .ok (.iconst 0, 1) := dq_3 (by decide +kernel)
theorem dX7_stand_93 : decode cX7_stand 93 = .ok (.invokevirtual 185, 3) := dq_182 (b1 := 0) (b2 := 185) (by decide +kernel) (by decide)
theorem dX7_stand_96 : decode cX7_stand 96 = .ok (.ireturn, 1) := dq_172 (by decide +kernel)
theorem dX7_stand_97 : decode cX7_stand 97 = .ok (.aload_n 0, 1) := dq_42 (by decide +kernel)
theorem dX7_stand_98 : decode cX7_stand 98 = .ok (.getfield 26, 3) := dq_180 (b1 := 0) (b2 := 26) (by decide +kernel) (by decide)
theorem dX7_status_0 : decode cX7_status 0 = .ok (.aload_n 0, 1) := dq_42 (by decide +kernel)
theorem dX7_status_1 : decode cX7_status 1 = .ok (.getfield 323, 3) := dq_180 (b1 := 1) (b2 := 67) (by decide +kernel) (by decide)
theorem dX7_status_4 : decode cX7_status 4 = .ok (.ireturn, 1) := dq_172 (by decide +kernel)
theorem dX7_trace_0 : decode cX7_trace 0 = .ok (.iload_n 1, 1) := dq_27 (by decide +kernel)
theorem dX7_trace_1 : decode cX7_trace 1 = .ok (.ifCond .lt 26, 3) := dq_155 (b1 := 0) (b2 := 26) (by decide +kernel) (by decide)
theorem dX7_trace_12 : decode cX7_trace 12 = .ok (.if_icmp .ge 15, 3) := dq_162 (b1 := 0) (b2 := 15) (by decide +kernel) (by decide)
theorem dX7_trace_15 : decode cX7_trace 15 = .ok (.aload_n 0, 1) := dq_42 (by decide +kernel)
theorem dX7_trace_16 : decode cX7_trace 16 = .ok (.getfield 61, 3) := dq_180 (b1 := 0) (b2 := 61) (by decide +kernel) (by decide)
theorem dX7_trace_19 : decode cX7_trace 19 = .ok (.getfield 316, 3) := dq_180 (b1 := 1) (b2 := 60) (by decide +kernel) (by decide)
theorem dX7_trace_22 : decode cX7_trace 22 = .ok (.iload_n 1, 1) := dq_27 (by decide +kernel)
theorem dX7_trace_23 : decode cX7_trace 23 = .ok (.iaload, 1) := dq_46 (by decide +kernel)
theorem dX7_trace_24 : decode cX7_trace 24 = .ok (.goto 5, 3) := dq_167 (b1 := 0) (b2 := 5) (by decide +kernel) (by decide)
theorem dX7_trace_27 : decode cX7_trace 27 = .ok (.ldc 220, 2) := dq_18 (b1 := 220) (by decide +kernel) (by decide)
theorem dX7_trace_29 : decode cX7_trace 29 = .ok (.ireturn, 1) := dq_172 (by decide +kernel)
theorem dX7_trace_4 : decode cX7_trace 4 = .ok (.iload_n 1, 1) := dq_27 (by decide +kernel)
theorem dX7_trace_5 : decode cX7_trace 5 = .ok (.aload_n 0, 1) := dq_42 (by decide +kernel)
theorem dX7_trace_6 : decode cX7_trace 6 = .ok (.getfield 61, 3) := dq_180 (b1 := 0) (b2 := 61) (by decide +kernel) (by decide)
theorem dX7_trace_9 : decode cX7_trace 9 = .ok (.getfield 313, 3) := dq_180 (b1 := 1) (b2 := 57) (by decide +kernel) (by decide)
theorem mb_X7_count_wsX7_count_r2 {w : Cond} (h : w ∈ wsX7_count_r2) : w ∈ wsX7_count := by unfold wsX7_count; exact List.mem_cons_of_mem _ (List.mem_append_left _ (List.mem_append_left _ (List.mem_append_left _ (List.mem_append_left _ (List.mem_append_left _ (List.mem_append_right _ (h)))))))
theorem mx_X7_count_32 : Cond.code yJ6_bitCount_0f7a4 cJ6_bitCount_0f7a4 1 (some .int) ∈ wsX7_count := mb_X7_count_wsX7_count_r2 (List.mem_of_getElem? (i := 7) rfl)
theorem mx_X7_count_33 : Cond.constant RJ6 265 (1431655765) ∈ wsX7_count := mb_X7_count_wsX7_count_r2 (List.mem_of_getElem? (i := 8) rfl)
theorem mx_X7_count_34 : Cond.constant RJ6 266 (858993459) ∈ wsX7_count := mb_X7_count_wsX7_count_r2 (List.mem_of_getElem? (i := 9) rfl)
theorem mx_X7_count_35 : Cond.constant RJ6 267 (252645135) ∈ wsX7_count := mb_X7_count_wsX7_count_r2 (List.mem_of_getElem? (i := 10) rfl)
theorem ggX7_count_J6_bitCount_0f7a4 : GoodIn wsX7_count wsJ6_bitCount_0f7a4 := goodIn_sub (by unfold wsJ6_bitCount_0f7a4; exact List.forall_mem_cons.mpr ⟨mx_X7_count_32, List.forall_mem_cons.mpr ⟨mx_X7_count_33, List.forall_mem_cons.mpr ⟨mx_X7_count_34, List.forall_mem_cons.mpr ⟨mx_X7_count_35, fun _ h_ => absurd h_ List.not_mem_nil⟩⟩⟩⟩) (by decide +kernel)
set_option maxRecDepth 20000 in
theorem gX7_count_J6_bitCount_0f7a4 : GoodIn wsX7_count (va_wsS RX7 296 yJ6_bitCount_0f7a4 wsJ6_bitCount_0f7a4) := goodIn_app (goodIn_of _ (by decide +kernel)) ggX7_count_J6_bitCount_0f7a4
theorem mx_X7_count_26 : Cond.code yX3_soundsThatAre cX3_soundsThatAre 4 (some .int) ∈ wsX7_count := mb_X7_count_wsX7_count_r2 (List.mem_of_getElem? (i := 1) rfl)
theorem mx_X7_count_27 : Cond.fieldLink RX3 49 "MillTalk$Level" "soundCount" "I" ∈ wsX7_count := mb_X7_count_wsX7_count_r2 (List.mem_of_getElem? (i := 2) rfl)
theorem mx_X7_count_28 : Cond.fieldLink RX3 24 "MillTalk$Level" "hows" "[I" ∈ wsX7_count := mb_X7_count_wsX7_count_r2 (List.mem_of_getElem? (i := 3) rfl)
theorem mb_X7_count_wsX30 {w : Cond} (h : w ∈ wsX30) : w ∈ wsX7_count := by unfold wsX7_count; exact List.mem_cons_of_mem _ (List.mem_append_left _ (List.mem_append_left _ (List.mem_append_left _ (List.mem_append_right _ (h)))))
theorem ggX7_count_X3_soundsThatAre : GoodIn wsX7_count wsX3_soundsThatAre := goodIn_sub (by unfold wsX3_soundsThatAre; exact List.forall_mem_cons.mpr ⟨mx_X7_count_26, List.forall_mem_append.mpr ⟨List.forall_mem_cons.mpr ⟨mx_X7_count_27, List.forall_mem_cons.mpr ⟨mx_X7_count_28, fun _ h_ => absurd h_ List.not_mem_nil⟩⟩, (fun _ h_ => mb_X7_count_wsX30 h_)⟩⟩) (by decide +kernel)
theorem mb_X7_count_wsX7_count_r1 {w : Cond} (h : w ∈ wsX7_count_r1) : w ∈ wsX7_count := by unfold wsX7_count; exact List.mem_cons_of_mem _ (List.mem_append_left _ (List.mem_append_left _ (List.mem_append_left _ (List.mem_append_left _ (List.mem_append_left _ (List.mem_append_left _ (h)))))))
theorem mx_X7_count_22 : Cond.methodLink RX7 185 yX3_soundsThatAre ∈ wsX7_count := mb_X7_count_wsX7_count_r1 (List.mem_of_getElem? (i := 21) rfl)
theorem mx_X7_count_23 : Cond.instanceMethod yX3_soundsThatAre ∈ wsX7_count := mb_X7_count_wsX7_count_r1 (List.mem_of_getElem? (i := 22) rfl)
theorem mx_X7_count_24 : Cond.selects RX3 yX3_soundsThatAre yX3_soundsThatAre ∈ wsX7_count := mb_X7_count_wsX7_count_r1 (List.mem_of_getElem? (i := 23) rfl)
theorem mx_X7_count_25 : Cond.initialized RX3 ∈ wsX7_count := mb_X7_count_wsX7_count_r2 (List.mem_of_getElem? (i := 0) rfl)
theorem gX7_count_X3_soundsThatAre : GoodIn wsX7_count (wsV RX7 185 RX3 yX3_soundsThatAre wsX3_soundsThatAre) := goodIn_app (goodIn_sub (List.forall_mem_cons.mpr ⟨mx_X7_count_22, List.forall_mem_cons.mpr ⟨mx_X7_count_23, List.forall_mem_cons.mpr ⟨mx_X7_count_24, List.forall_mem_cons.mpr ⟨mx_X7_count_25, fun _ h_ => absurd h_ List.not_mem_nil⟩⟩⟩⟩) (by decide +kernel)) ggX7_count_X3_soundsThatAre
theorem mx_X7_count_16 : Cond.code yX5_present cX5_present 3 (some .int) ∈ wsX7_count := mb_X7_count_wsX7_count_r1 (List.mem_of_getElem? (i := 15) rfl)
theorem mx_X7_count_17 : Cond.methodLink RX5 29 yX5_isMissing ∈ wsX7_count := mb_X7_count_wsX7_count_r1 (List.mem_of_getElem? (i := 16) rfl)
theorem mx_X7_count_18 : Cond.instanceMethod yX5_isMissing ∈ wsX7_count := mb_X7_count_wsX7_count_r1 (List.mem_of_getElem? (i := 17) rfl)
theorem mx_X7_count_19 : Cond.selects RX5 yX5_isMissing yX5_isMissing ∈ wsX7_count := mb_X7_count_wsX7_count_r1 (List.mem_of_getElem? (i := 18) rfl)
theorem mx_X7_count_15 : Cond.initialized RX5 ∈ wsX7_count := mb_X7_count_wsX7_count_r1 (List.mem_of_getElem? (i := 14) rfl)
theorem mx_X7_count_20 : Cond.code yX5_isMissing cX5_isMissing 2 (some .boolean) ∈ wsX7_count := mb_X7_count_wsX7_count_r1 (List.mem_of_getElem? (i := 19) rfl)
theorem mx_X7_count_21 : Cond.fieldLink RX5 16 "MillTalk$Rows" "lanes" "[I" ∈ wsX7_count := mb_X7_count_wsX7_count_r1 (List.mem_of_getElem? (i := 20) rfl)
theorem mb_X7_count_wsX50 {w : Cond} (h : w ∈ wsX50) : w ∈ wsX7_count := by unfold wsX7_count; exact List.mem_cons_of_mem _ (List.mem_append_right _ (h))
theorem ggX7_count_X5_present : GoodIn wsX7_count wsX5_present := goodIn_sub (by unfold wsX5_present; exact List.forall_mem_cons.mpr ⟨mx_X7_count_16, List.forall_mem_append.mpr ⟨List.forall_mem_cons.mpr ⟨mx_X7_count_17, List.forall_mem_cons.mpr ⟨mx_X7_count_18, List.forall_mem_cons.mpr ⟨mx_X7_count_19, List.forall_mem_cons.mpr ⟨mx_X7_count_15, List.forall_mem_cons.mpr ⟨mx_X7_count_20, List.forall_mem_cons.mpr ⟨mx_X7_count_21, fun _ h_ => absurd h_ List.not_mem_nil⟩⟩⟩⟩⟩⟩, (fun _ h_ => mb_X7_count_wsX50 h_)⟩⟩) (by decide +kernel)
theorem mx_X7_count_12 : Cond.methodLink RX7 319 yX5_present ∈ wsX7_count := mb_X7_count_wsX7_count_r1 (List.mem_of_getElem? (i := 11) rfl)
theorem mx_X7_count_13 : Cond.instanceMethod yX5_present ∈ wsX7_count := mb_X7_count_wsX7_count_r1 (List.mem_of_getElem? (i := 12) rfl)
theorem mx_X7_count_14 : Cond.selects RX5 yX5_present yX5_present ∈ wsX7_count := mb_X7_count_wsX7_count_r1 (List.mem_of_getElem? (i := 13) rfl)
theorem gX7_count_X5_present : GoodIn wsX7_count (wsV RX7 319 RX5 yX5_present wsX5_present) := goodIn_app (goodIn_sub (List.forall_mem_cons.mpr ⟨mx_X7_count_12, List.forall_mem_cons.mpr ⟨mx_X7_count_13, List.forall_mem_cons.mpr ⟨mx_X7_count_14, List.forall_mem_cons.mpr ⟨mx_X7_count_15, fun _ h_ => absurd h_ List.not_mem_nil⟩⟩⟩⟩) (by decide +kernel)) ggX7_count_X5_present
theorem mx_X7_gust_8 : Cond.code yX3_isTold cX3_isTold 1 (some .boolean) ∈ wsX7_gust := by unfold wsX7_gust; exact List.mem_cons_of_mem _ (List.mem_append_left _ (List.mem_append_left _ (List.mem_of_getElem? (i := 7) rfl)))
theorem mx_X7_gust_9 : Cond.fieldLink RX3 27 "MillTalk$Level" "cells" "I" ∈ wsX7_gust := by unfold wsX7_gust; exact List.mem_cons_of_mem _ (List.mem_append_left _ (List.mem_append_left _ (List.mem_of_getElem? (i := 8) rfl)))
theorem mb_X7_gust_wsX30 {w : Cond} (h : w ∈ wsX30) : w ∈ wsX7_gust := by unfold wsX7_gust; exact List.mem_cons_of_mem _ (List.mem_append_right _ (h))
theorem ggX7_gust_X3_isTold : GoodIn wsX7_gust wsX3_isTold := goodIn_sub (by unfold wsX3_isTold; exact List.forall_mem_cons.mpr ⟨mx_X7_gust_8, List.forall_mem_append.mpr ⟨List.forall_mem_cons.mpr ⟨mx_X7_gust_9, fun _ h_ => absurd h_ List.not_mem_nil⟩, (fun _ h_ => mb_X7_gust_wsX30 h_)⟩⟩) (by decide +kernel)
theorem mx_X7_gust_4 : Cond.methodLink RX7 145 yX3_isTold ∈ wsX7_gust := by unfold wsX7_gust; exact List.mem_cons_of_mem _ (List.mem_append_left _ (List.mem_append_left _ (List.mem_of_getElem? (i := 3) rfl)))
theorem mx_X7_gust_5 : Cond.instanceMethod yX3_isTold ∈ wsX7_gust := by unfold wsX7_gust; exact List.mem_cons_of_mem _ (List.mem_append_left _ (List.mem_append_left _ (List.mem_of_getElem? (i := 4) rfl)))
theorem mx_X7_gust_6 : Cond.selects RX3 yX3_isTold yX3_isTold ∈ wsX7_gust := by unfold wsX7_gust; exact List.mem_cons_of_mem _ (List.mem_append_left _ (List.mem_append_left _ (List.mem_of_getElem? (i := 5) rfl)))
theorem mx_X7_gust_7 : Cond.initialized RX3 ∈ wsX7_gust := by unfold wsX7_gust; exact List.mem_cons_of_mem _ (List.mem_append_left _ (List.mem_append_left _ (List.mem_of_getElem? (i := 6) rfl)))
theorem gX7_gust_X3_isTold : GoodIn wsX7_gust (wsV RX7 145 RX3 yX3_isTold wsX3_isTold) := goodIn_app (goodIn_sub (List.forall_mem_cons.mpr ⟨mx_X7_gust_4, List.forall_mem_cons.mpr ⟨mx_X7_gust_5, List.forall_mem_cons.mpr ⟨mx_X7_gust_6, List.forall_mem_cons.mpr ⟨mx_X7_gust_7, fun _ h_ => absurd h_ List.not_mem_nil⟩⟩⟩⟩) (by decide +kernel)) ggX7_gust_X3_isTold
theorem mx_X7_gust_17 : Cond.code yX3_windOn cX3_windOn 2 (some .int) ∈ wsX7_gust := by unfold wsX7_gust; exact List.mem_cons_of_mem _ (List.mem_append_left _ (List.mem_append_left _ (List.mem_of_getElem? (i := 16) rfl)))
theorem mx_X7_gust_18 : Cond.fieldLink RX3 46 "MillTalk$Level" "windCount" "I" ∈ wsX7_gust := by unfold wsX7_gust; exact List.mem_cons_of_mem _ (List.mem_append_left _ (List.mem_append_left _ (List.mem_of_getElem? (i := 17) rfl)))
theorem mx_X7_gust_19 : Cond.fieldLink RX3 9 "MillTalk$Level" "winds" "[I" ∈ wsX7_gust := by unfold wsX7_gust; exact List.mem_cons_of_mem _ (List.mem_append_left _ (List.mem_append_left _ (List.mem_of_getElem? (i := 18) rfl)))
theorem mx_X7_gust_20 : Cond.fieldLink RX3 40 "MillTalk$Level" "hour" "I" ∈ wsX7_gust := by unfold wsX7_gust; exact List.mem_cons_of_mem _ (List.mem_append_left _ (List.mem_append_left _ (List.mem_of_getElem? (i := 19) rfl)))
theorem ggX7_gust_X3_windOn : GoodIn wsX7_gust wsX3_windOn := goodIn_sub (by unfold wsX3_windOn; exact List.forall_mem_cons.mpr ⟨mx_X7_gust_17, List.forall_mem_append.mpr ⟨List.forall_mem_cons.mpr ⟨mx_X7_gust_18, List.forall_mem_cons.mpr ⟨mx_X7_gust_19, List.forall_mem_cons.mpr ⟨mx_X7_gust_20, fun _ h_ => absurd h_ List.not_mem_nil⟩⟩⟩, (fun _ h_ => mb_X7_gust_wsX30 h_)⟩⟩) (by decide +kernel)
theorem mx_X7_gust_14 : Cond.methodLink RX7 188 yX3_windOn ∈ wsX7_gust := by unfold wsX7_gust; exact List.mem_cons_of_mem _ (List.mem_append_left _ (List.mem_append_left _ (List.mem_of_getElem? (i := 13) rfl)))
theorem mx_X7_gust_15 : Cond.instanceMethod yX3_windOn ∈ wsX7_gust := by unfold wsX7_gust; exact List.mem_cons_of_mem _ (List.mem_append_left _ (List.mem_append_left _ (List.mem_of_getElem? (i := 14) rfl)))
theorem mx_X7_gust_16 : Cond.selects RX3 yX3_windOn yX3_windOn ∈ wsX7_gust := by unfold wsX7_gust; exact List.mem_cons_of_mem _ (List.mem_append_left _ (List.mem_append_left _ (List.mem_of_getElem? (i := 15) rfl)))
theorem gX7_gust_X3_windOn : GoodIn wsX7_gust (wsV RX7 188 RX3 yX3_windOn wsX3_windOn) := goodIn_app (goodIn_sub (List.forall_mem_cons.mpr ⟨mx_X7_gust_14, List.forall_mem_cons.mpr ⟨mx_X7_gust_15, List.forall_mem_cons.mpr ⟨mx_X7_gust_16, List.forall_mem_cons.mpr ⟨mx_X7_gust_7, fun _ h_ => absurd h_ List.not_mem_nil⟩⟩⟩⟩) (by decide +kernel)) ggX7_gust_X3_windOn
theorem mx_X7_gust_13 : Cond.code yX7_isForetold cX7_isForetold 1 (some .boolean) ∈ wsX7_gust := by unfold wsX7_gust; exact List.mem_cons_of_mem _ (List.mem_append_left _ (List.mem_append_left _ (List.mem_of_getElem? (i := 12) rfl)))
theorem ggX7_gust_X7_isForetold : GoodIn wsX7_gust wsX7_isForetold := goodIn_sub (by unfold wsX7_isForetold; exact List.forall_mem_cons.mpr ⟨mx_X7_gust_13, fun _ h_ => absurd h_ List.not_mem_nil⟩) (by decide +kernel)
set_option maxRecDepth 20000 in
theorem gX7_gust_X7_isForetold : GoodIn wsX7_gust (va_wsS RX7 207 yX7_isForetold wsX7_isForetold) := goodIn_app (goodIn_of _ (by decide +kernel)) ggX7_gust_X7_isForetold
theorem mx_X7_isHeard_4 : Cond.code yX5_isRow cX5_isRow 1 (some .boolean) ∈ wsX7_isHeard := by unfold wsX7_isHeard; exact List.mem_cons_of_mem _ (List.mem_of_getElem? (i := 3) rfl)
theorem ggX7_isHeard_X5_isRow : GoodIn wsX7_isHeard wsX5_isRow := goodIn_sub (by unfold wsX5_isRow; exact List.forall_mem_cons.mpr ⟨mx_X7_isHeard_4, fun _ h_ => absurd h_ List.not_mem_nil⟩) (by decide +kernel)
set_option maxRecDepth 20000 in
theorem gX7_isHeard_X5_isRow : GoodIn wsX7_isHeard (va_wsS RX7 65 yX5_isRow wsX5_isRow) := goodIn_app (goodIn_of _ (by decide +kernel)) ggX7_isHeard_X5_isRow
theorem mx_X7_kind_8 : Cond.code yX3_hasSound cX3_hasSound 2 (some .boolean) ∈ wsX7_kind := by unfold wsX7_kind; exact List.mem_cons_of_mem _ (List.mem_append_left _ (List.mem_append_left _ (List.mem_of_getElem? (i := 7) rfl)))
theorem mx_X7_kind_9 : Cond.fieldLink RX3 49 "MillTalk$Level" "soundCount" "I" ∈ wsX7_kind := by unfold wsX7_kind; exact List.mem_cons_of_mem _ (List.mem_append_left _ (List.mem_append_left _ (List.mem_of_getElem? (i := 8) rfl)))
theorem mb_X7_kind_wsX30 {w : Cond} (h : w ∈ wsX30) : w ∈ wsX7_kind := by unfold wsX7_kind; exact List.mem_cons_of_mem _ (List.mem_append_right _ (h))
theorem ggX7_kind_X3_hasSound : GoodIn wsX7_kind wsX3_hasSound := goodIn_sub (by unfold wsX3_hasSound; exact List.forall_mem_cons.mpr ⟨mx_X7_kind_8, List.forall_mem_append.mpr ⟨List.forall_mem_cons.mpr ⟨mx_X7_kind_9, fun _ h_ => absurd h_ List.not_mem_nil⟩, (fun _ h_ => mb_X7_kind_wsX30 h_)⟩⟩) (by decide +kernel)
theorem mx_X7_kind_4 : Cond.methodLink RX7 173 yX3_hasSound ∈ wsX7_kind := by unfold wsX7_kind; exact List.mem_cons_of_mem _ (List.mem_append_left _ (List.mem_append_left _ (List.mem_of_getElem? (i := 3) rfl)))
theorem mx_X7_kind_5 : Cond.instanceMethod yX3_hasSound ∈ wsX7_kind := by unfold wsX7_kind; exact List.mem_cons_of_mem _ (List.mem_append_left _ (List.mem_append_left _ (List.mem_of_getElem? (i := 4) rfl)))
theorem mx_X7_kind_6 : Cond.selects RX3 yX3_hasSound yX3_hasSound ∈ wsX7_kind := by unfold wsX7_kind; exact List.mem_cons_of_mem _ (List.mem_append_left _ (List.mem_append_left _ (List.mem_of_getElem? (i := 5) rfl)))
theorem mx_X7_kind_7 : Cond.initialized RX3 ∈ wsX7_kind := by unfold wsX7_kind; exact List.mem_cons_of_mem _ (List.mem_append_left _ (List.mem_append_left _ (List.mem_of_getElem? (i := 6) rfl)))
theorem gX7_kind_X3_hasSound : GoodIn wsX7_kind (wsV RX7 173 RX3 yX3_hasSound wsX3_hasSound) := goodIn_app (goodIn_sub (List.forall_mem_cons.mpr ⟨mx_X7_kind_4, List.forall_mem_cons.mpr ⟨mx_X7_kind_5, List.forall_mem_cons.mpr ⟨mx_X7_kind_6, List.forall_mem_cons.mpr ⟨mx_X7_kind_7, fun _ h_ => absurd h_ List.not_mem_nil⟩⟩⟩⟩) (by decide +kernel)) ggX7_kind_X3_hasSound
theorem mx_X7_sack_9 : Cond.code yX3_isTold cX3_isTold 1 (some .boolean) ∈ wsX7_sack := by unfold wsX7_sack; exact List.mem_cons_of_mem _ (List.mem_append_left _ (List.mem_append_left _ (List.mem_of_getElem? (i := 8) rfl)))
theorem mx_X7_sack_10 : Cond.fieldLink RX3 27 "MillTalk$Level" "cells" "I" ∈ wsX7_sack := by unfold wsX7_sack; exact List.mem_cons_of_mem _ (List.mem_append_left _ (List.mem_append_left _ (List.mem_of_getElem? (i := 9) rfl)))
theorem mb_X7_sack_wsX30 {w : Cond} (h : w ∈ wsX30) : w ∈ wsX7_sack := by unfold wsX7_sack; exact List.mem_cons_of_mem _ (List.mem_append_right _ (h))
theorem ggX7_sack_X3_isTold : GoodIn wsX7_sack wsX3_isTold := goodIn_sub (by unfold wsX3_isTold; exact List.forall_mem_cons.mpr ⟨mx_X7_sack_9, List.forall_mem_append.mpr ⟨List.forall_mem_cons.mpr ⟨mx_X7_sack_10, fun _ h_ => absurd h_ List.not_mem_nil⟩, (fun _ h_ => mb_X7_sack_wsX30 h_)⟩⟩) (by decide +kernel)
theorem mx_X7_sack_5 : Cond.methodLink RX7 145 yX3_isTold ∈ wsX7_sack := by unfold wsX7_sack; exact List.mem_cons_of_mem _ (List.mem_append_left _ (List.mem_append_left _ (List.mem_of_getElem? (i := 4) rfl)))
theorem mx_X7_sack_6 : Cond.instanceMethod yX3_isTold ∈ wsX7_sack := by unfold wsX7_sack; exact List.mem_cons_of_mem _ (List.mem_append_left _ (List.mem_append_left _ (List.mem_of_getElem? (i := 5) rfl)))
theorem mx_X7_sack_7 : Cond.selects RX3 yX3_isTold yX3_isTold ∈ wsX7_sack := by unfold wsX7_sack; exact List.mem_cons_of_mem _ (List.mem_append_left _ (List.mem_append_left _ (List.mem_of_getElem? (i := 6) rfl)))
theorem mx_X7_sack_8 : Cond.initialized RX3 ∈ wsX7_sack := by unfold wsX7_sack; exact List.mem_cons_of_mem _ (List.mem_append_left _ (List.mem_append_left _ (List.mem_of_getElem? (i := 7) rfl)))
theorem gX7_sack_X3_isTold : GoodIn wsX7_sack (wsV RX7 145 RX3 yX3_isTold wsX3_isTold) := goodIn_app (goodIn_sub (List.forall_mem_cons.mpr ⟨mx_X7_sack_5, List.forall_mem_cons.mpr ⟨mx_X7_sack_6, List.forall_mem_cons.mpr ⟨mx_X7_sack_7, List.forall_mem_cons.mpr ⟨mx_X7_sack_8, fun _ h_ => absurd h_ List.not_mem_nil⟩⟩⟩⟩) (by decide +kernel)) ggX7_sack_X3_isTold
theorem mx_X7_sack_20 : Cond.code yX3_loudOf cX3_loudOf 4 (some .int) ∈ wsX7_sack := by unfold wsX7_sack; exact List.mem_cons_of_mem _ (List.mem_append_left _ (List.mem_append_left _ (List.mem_of_getElem? (i := 19) rfl)))
theorem mx_X7_sack_15 : Cond.fieldLink RX3 49 "MillTalk$Level" "soundCount" "I" ∈ wsX7_sack := by unfold wsX7_sack; exact List.mem_cons_of_mem _ (List.mem_append_left _ (List.mem_append_left _ (List.mem_of_getElem? (i := 14) rfl)))
theorem mx_X7_sack_21 : Cond.fieldLink RX3 21 "MillTalk$Level" "louds" "[I" ∈ wsX7_sack := by unfold wsX7_sack; exact List.mem_cons_of_mem _ (List.mem_append_left _ (List.mem_append_left _ (List.mem_of_getElem? (i := 20) rfl)))
theorem ggX7_sack_X3_loudOf : GoodIn wsX7_sack wsX3_loudOf := goodIn_sub (by unfold wsX3_loudOf; exact List.forall_mem_cons.mpr ⟨mx_X7_sack_20, List.forall_mem_append.mpr ⟨List.forall_mem_cons.mpr ⟨mx_X7_sack_15, List.forall_mem_cons.mpr ⟨mx_X7_sack_21, fun _ h_ => absurd h_ List.not_mem_nil⟩⟩, (fun _ h_ => mb_X7_sack_wsX30 h_)⟩⟩) (by decide +kernel)
theorem mx_X7_sack_17 : Cond.methodLink RX7 237 yX3_loudOf ∈ wsX7_sack := by unfold wsX7_sack; exact List.mem_cons_of_mem _ (List.mem_append_left _ (List.mem_append_left _ (List.mem_of_getElem? (i := 16) rfl)))
theorem mx_X7_sack_18 : Cond.instanceMethod yX3_loudOf ∈ wsX7_sack := by unfold wsX7_sack; exact List.mem_cons_of_mem _ (List.mem_append_left _ (List.mem_append_left _ (List.mem_of_getElem? (i := 17) rfl)))
theorem mx_X7_sack_19 : Cond.selects RX3 yX3_loudOf yX3_loudOf ∈ wsX7_sack := by unfold wsX7_sack; exact List.mem_cons_of_mem _ (List.mem_append_left _ (List.mem_append_left _ (List.mem_of_getElem? (i := 18) rfl)))
theorem gX7_sack_X3_loudOf : GoodIn wsX7_sack (wsV RX7 237 RX3 yX3_loudOf wsX3_loudOf) := goodIn_app (goodIn_sub (List.forall_mem_cons.mpr ⟨mx_X7_sack_17, List.forall_mem_cons.mpr ⟨mx_X7_sack_18, List.forall_mem_cons.mpr ⟨mx_X7_sack_19, List.forall_mem_cons.mpr ⟨mx_X7_sack_8, fun _ h_ => absurd h_ List.not_mem_nil⟩⟩⟩⟩) (by decide +kernel)) ggX7_sack_X3_loudOf
theorem mx_X7_sack_14 : Cond.code yX3_soundsThatAre cX3_soundsThatAre 4 (some .int) ∈ wsX7_sack := by unfold wsX7_sack; exact List.mem_cons_of_mem _ (List.mem_append_left _ (List.mem_append_left _ (List.mem_of_getElem? (i := 13) rfl)))
theorem mx_X7_sack_16 : Cond.fieldLink RX3 24 "MillTalk$Level" "hows" "[I" ∈ wsX7_sack := by unfold wsX7_sack; exact List.mem_cons_of_mem _ (List.mem_append_left _ (List.mem_append_left _ (List.mem_of_getElem? (i := 15) rfl)))
theorem ggX7_sack_X3_soundsThatAre : GoodIn wsX7_sack wsX3_soundsThatAre := goodIn_sub (by unfold wsX3_soundsThatAre; exact List.forall_mem_cons.mpr ⟨mx_X7_sack_14, List.forall_mem_append.mpr ⟨List.forall_mem_cons.mpr ⟨mx_X7_sack_15, List.forall_mem_cons.mpr ⟨mx_X7_sack_16, fun _ h_ => absurd h_ List.not_mem_nil⟩⟩, (fun _ h_ => mb_X7_sack_wsX30 h_)⟩⟩) (by decide +kernel)
theorem mx_X7_sack_11 : Cond.methodLink RX7 185 yX3_soundsThatAre ∈ wsX7_sack := by unfold wsX7_sack; exact List.mem_cons_of_mem _ (List.mem_append_left _ (List.mem_append_left _ (List.mem_of_getElem? (i := 10) rfl)))
theorem mx_X7_sack_12 : Cond.instanceMethod yX3_soundsThatAre ∈ wsX7_sack := by unfold wsX7_sack; exact List.mem_cons_of_mem _ (List.mem_append_left _ (List.mem_append_left _ (List.mem_of_getElem? (i := 11) rfl)))
theorem mx_X7_sack_13 : Cond.selects RX3 yX3_soundsThatAre yX3_soundsThatAre ∈ wsX7_sack := by unfold wsX7_sack; exact List.mem_cons_of_mem _ (List.mem_append_left _ (List.mem_append_left _ (List.mem_of_getElem? (i := 12) rfl)))
theorem gX7_sack_X3_soundsThatAre : GoodIn wsX7_sack (wsV RX7 185 RX3 yX3_soundsThatAre wsX3_soundsThatAre) := goodIn_app (goodIn_sub (List.forall_mem_cons.mpr ⟨mx_X7_sack_11, List.forall_mem_cons.mpr ⟨mx_X7_sack_12, List.forall_mem_cons.mpr ⟨mx_X7_sack_13, List.forall_mem_cons.mpr ⟨mx_X7_sack_8, fun _ h_ => absurd h_ List.not_mem_nil⟩⟩⟩⟩) (by decide +kernel)) ggX7_sack_X3_soundsThatAre
theorem mx_X7_share_9 : Cond.code yX3_hasSound cX3_hasSound 2 (some .boolean) ∈ wsX7_share := by unfold wsX7_share; exact List.mem_cons_of_mem _ (List.mem_append_left _ (List.mem_append_left _ (List.mem_of_getElem? (i := 8) rfl)))
theorem mx_X7_share_10 : Cond.fieldLink RX3 49 "MillTalk$Level" "soundCount" "I" ∈ wsX7_share := by unfold wsX7_share; exact List.mem_cons_of_mem _ (List.mem_append_left _ (List.mem_append_left _ (List.mem_of_getElem? (i := 9) rfl)))
theorem mb_X7_share_wsX30 {w : Cond} (h : w ∈ wsX30) : w ∈ wsX7_share := by unfold wsX7_share; exact List.mem_cons_of_mem _ (List.mem_append_right _ (h))
theorem ggX7_share_X3_hasSound : GoodIn wsX7_share wsX3_hasSound := goodIn_sub (by unfold wsX3_hasSound; exact List.forall_mem_cons.mpr ⟨mx_X7_share_9, List.forall_mem_append.mpr ⟨List.forall_mem_cons.mpr ⟨mx_X7_share_10, fun _ h_ => absurd h_ List.not_mem_nil⟩, (fun _ h_ => mb_X7_share_wsX30 h_)⟩⟩) (by decide +kernel)
theorem mx_X7_share_5 : Cond.methodLink RX7 173 yX3_hasSound ∈ wsX7_share := by unfold wsX7_share; exact List.mem_cons_of_mem _ (List.mem_append_left _ (List.mem_append_left _ (List.mem_of_getElem? (i := 4) rfl)))
theorem mx_X7_share_6 : Cond.instanceMethod yX3_hasSound ∈ wsX7_share := by unfold wsX7_share; exact List.mem_cons_of_mem _ (List.mem_append_left _ (List.mem_append_left _ (List.mem_of_getElem? (i := 5) rfl)))
theorem mx_X7_share_7 : Cond.selects RX3 yX3_hasSound yX3_hasSound ∈ wsX7_share := by unfold wsX7_share; exact List.mem_cons_of_mem _ (List.mem_append_left _ (List.mem_append_left _ (List.mem_of_getElem? (i := 6) rfl)))
theorem mx_X7_share_8 : Cond.initialized RX3 ∈ wsX7_share := by unfold wsX7_share; exact List.mem_cons_of_mem _ (List.mem_append_left _ (List.mem_append_left _ (List.mem_of_getElem? (i := 7) rfl)))
theorem gX7_share_X3_hasSound : GoodIn wsX7_share (wsV RX7 173 RX3 yX3_hasSound wsX3_hasSound) := goodIn_app (goodIn_sub (List.forall_mem_cons.mpr ⟨mx_X7_share_5, List.forall_mem_cons.mpr ⟨mx_X7_share_6, List.forall_mem_cons.mpr ⟨mx_X7_share_7, List.forall_mem_cons.mpr ⟨mx_X7_share_8, fun _ h_ => absurd h_ List.not_mem_nil⟩⟩⟩⟩) (by decide +kernel)) ggX7_share_X3_hasSound
theorem mx_X7_share_24 : Cond.code yX3_isLoose cX3_isLoose 2 (some .boolean) ∈ wsX7_share := by unfold wsX7_share; exact List.mem_cons_of_mem _ (List.mem_append_left _ (List.mem_append_left _ (List.mem_of_getElem? (i := 23) rfl)))
theorem mx_X7_share_15 : Cond.fieldLink RX3 24 "MillTalk$Level" "hows" "[I" ∈ wsX7_share := by unfold wsX7_share; exact List.mem_cons_of_mem _ (List.mem_append_left _ (List.mem_append_left _ (List.mem_of_getElem? (i := 14) rfl)))
theorem ggX7_share_X3_isLoose : GoodIn wsX7_share wsX3_isLoose := goodIn_sub (by unfold wsX3_isLoose; exact List.forall_mem_cons.mpr ⟨mx_X7_share_24, List.forall_mem_append.mpr ⟨List.forall_mem_cons.mpr ⟨mx_X7_share_15, fun _ h_ => absurd h_ List.not_mem_nil⟩, (fun _ h_ => mb_X7_share_wsX30 h_)⟩⟩) (by decide +kernel)
theorem mx_X7_share_21 : Cond.methodLink RX7 179 yX3_isLoose ∈ wsX7_share := by unfold wsX7_share; exact List.mem_cons_of_mem _ (List.mem_append_left _ (List.mem_append_left _ (List.mem_of_getElem? (i := 20) rfl)))
theorem mx_X7_share_22 : Cond.instanceMethod yX3_isLoose ∈ wsX7_share := by unfold wsX7_share; exact List.mem_cons_of_mem _ (List.mem_append_left _ (List.mem_append_left _ (List.mem_of_getElem? (i := 21) rfl)))
theorem mx_X7_share_23 : Cond.selects RX3 yX3_isLoose yX3_isLoose ∈ wsX7_share := by unfold wsX7_share; exact List.mem_cons_of_mem _ (List.mem_append_left _ (List.mem_append_left _ (List.mem_of_getElem? (i := 22) rfl)))
theorem gX7_share_X3_isLoose : GoodIn wsX7_share (wsV RX7 179 RX3 yX3_isLoose wsX3_isLoose) := goodIn_app (goodIn_sub (List.forall_mem_cons.mpr ⟨mx_X7_share_21, List.forall_mem_cons.mpr ⟨mx_X7_share_22, List.forall_mem_cons.mpr ⟨mx_X7_share_23, List.forall_mem_cons.mpr ⟨mx_X7_share_8, fun _ h_ => absurd h_ List.not_mem_nil⟩⟩⟩⟩) (by decide +kernel)) ggX7_share_X3_isLoose
theorem mx_X7_share_19 : Cond.code yX3_loudOf cX3_loudOf 4 (some .int) ∈ wsX7_share := by unfold wsX7_share; exact List.mem_cons_of_mem _ (List.mem_append_left _ (List.mem_append_left _ (List.mem_of_getElem? (i := 18) rfl)))
theorem mx_X7_share_20 : Cond.fieldLink RX3 21 "MillTalk$Level" "louds" "[I" ∈ wsX7_share := by unfold wsX7_share; exact List.mem_cons_of_mem _ (List.mem_append_left _ (List.mem_append_left _ (List.mem_of_getElem? (i := 19) rfl)))
theorem ggX7_share_X3_loudOf : GoodIn wsX7_share wsX3_loudOf := goodIn_sub (by unfold wsX3_loudOf; exact List.forall_mem_cons.mpr ⟨mx_X7_share_19, List.forall_mem_append.mpr ⟨List.forall_mem_cons.mpr ⟨mx_X7_share_10, List.forall_mem_cons.mpr ⟨mx_X7_share_20, fun _ h_ => absurd h_ List.not_mem_nil⟩⟩, (fun _ h_ => mb_X7_share_wsX30 h_)⟩⟩) (by decide +kernel)
theorem mx_X7_share_16 : Cond.methodLink RX7 237 yX3_loudOf ∈ wsX7_share := by unfold wsX7_share; exact List.mem_cons_of_mem _ (List.mem_append_left _ (List.mem_append_left _ (List.mem_of_getElem? (i := 15) rfl)))
theorem mx_X7_share_17 : Cond.instanceMethod yX3_loudOf ∈ wsX7_share := by unfold wsX7_share; exact List.mem_cons_of_mem _ (List.mem_append_left _ (List.mem_append_left _ (List.mem_of_getElem? (i := 16) rfl)))
theorem mx_X7_share_18 : Cond.selects RX3 yX3_loudOf yX3_loudOf ∈ wsX7_share := by unfold wsX7_share; exact List.mem_cons_of_mem _ (List.mem_append_left _ (List.mem_append_left _ (List.mem_of_getElem? (i := 17) rfl)))
theorem gX7_share_X3_loudOf : GoodIn wsX7_share (wsV RX7 237 RX3 yX3_loudOf wsX3_loudOf) := goodIn_app (goodIn_sub (List.forall_mem_cons.mpr ⟨mx_X7_share_16, List.forall_mem_cons.mpr ⟨mx_X7_share_17, List.forall_mem_cons.mpr ⟨mx_X7_share_18, List.forall_mem_cons.mpr ⟨mx_X7_share_8, fun _ h_ => absurd h_ List.not_mem_nil⟩⟩⟩⟩) (by decide +kernel)) ggX7_share_X3_loudOf
theorem mx_X7_share_14 : Cond.code yX3_soundsThatAre cX3_soundsThatAre 4 (some .int) ∈ wsX7_share := by unfold wsX7_share; exact List.mem_cons_of_mem _ (List.mem_append_left _ (List.mem_append_left _ (List.mem_of_getElem? (i := 13) rfl)))
theorem ggX7_share_X3_soundsThatAre : GoodIn wsX7_share wsX3_soundsThatAre := goodIn_sub (by unfold wsX3_soundsThatAre; exact List.forall_mem_cons.mpr ⟨mx_X7_share_14, List.forall_mem_append.mpr ⟨List.forall_mem_cons.mpr ⟨mx_X7_share_10, List.forall_mem_cons.mpr ⟨mx_X7_share_15, fun _ h_ => absurd h_ List.not_mem_nil⟩⟩, (fun _ h_ => mb_X7_share_wsX30 h_)⟩⟩) (by decide +kernel)
theorem mx_X7_share_11 : Cond.methodLink RX7 185 yX3_soundsThatAre ∈ wsX7_share := by unfold wsX7_share; exact List.mem_cons_of_mem _ (List.mem_append_left _ (List.mem_append_left _ (List.mem_of_getElem? (i := 10) rfl)))
theorem mx_X7_share_12 : Cond.instanceMethod yX3_soundsThatAre ∈ wsX7_share := by unfold wsX7_share; exact List.mem_cons_of_mem _ (List.mem_append_left _ (List.mem_append_left _ (List.mem_of_getElem? (i := 11) rfl)))
theorem mx_X7_share_13 : Cond.selects RX3 yX3_soundsThatAre yX3_soundsThatAre ∈ wsX7_share := by unfold wsX7_share; exact List.mem_cons_of_mem _ (List.mem_append_left _ (List.mem_append_left _ (List.mem_of_getElem? (i := 12) rfl)))
theorem gX7_share_X3_soundsThatAre : GoodIn wsX7_share (wsV RX7 185 RX3 yX3_soundsThatAre wsX3_soundsThatAre) := goodIn_app (goodIn_sub (List.forall_mem_cons.mpr ⟨mx_X7_share_11, List.forall_mem_cons.mpr ⟨mx_X7_share_12, List.forall_mem_cons.mpr ⟨mx_X7_share_13, List.forall_mem_cons.mpr ⟨mx_X7_share_8, fun _ h_ => absurd h_ List.not_mem_nil⟩⟩⟩⟩) (by decide +kernel)) ggX7_share_X3_soundsThatAre
theorem mb_X7_sound_wsX7_sound_r1 {w : Cond} (h : w ∈ wsX7_sound_r1) : w ∈ wsX7_sound := by unfold wsX7_sound; exact List.mem_cons_of_mem _ (List.mem_append_left _ (List.mem_append_left _ (List.mem_append_left _ (h))))
theorem mx_X7_sound_19 : Cond.code yX3_driftOf cX3_driftOf 4 (some .int) ∈ wsX7_sound := mb_X7_sound_wsX7_sound_r1 (List.mem_of_getElem? (i := 18) rfl)
theorem mx_X7_sound_20 : Cond.fieldLink RX3 15 "MillTalk$Level" "kinds" "[I" ∈ wsX7_sound := mb_X7_sound_wsX7_sound_r1 (List.mem_of_getElem? (i := 19) rfl)
theorem mb_X7_sound_wsX30 {w : Cond} (h : w ∈ wsX30) : w ∈ wsX7_sound := by unfold wsX7_sound; exact List.mem_cons_of_mem _ (List.mem_append_right _ (h))
theorem ggX7_sound_X3_driftOf : GoodIn wsX7_sound wsX3_driftOf := goodIn_sub (by unfold wsX3_driftOf; exact List.forall_mem_cons.mpr ⟨mx_X7_sound_19, List.forall_mem_append.mpr ⟨List.forall_mem_cons.mpr ⟨mx_X7_sound_20, fun _ h_ => absurd h_ List.not_mem_nil⟩, (fun _ h_ => mb_X7_sound_wsX30 h_)⟩⟩) (by decide +kernel)
theorem mx_X7_sound_16 : Cond.methodLink RX7 191 yX3_driftOf ∈ wsX7_sound := mb_X7_sound_wsX7_sound_r1 (List.mem_of_getElem? (i := 15) rfl)
theorem mx_X7_sound_17 : Cond.instanceMethod yX3_driftOf ∈ wsX7_sound := mb_X7_sound_wsX7_sound_r1 (List.mem_of_getElem? (i := 16) rfl)
theorem mx_X7_sound_18 : Cond.selects RX3 yX3_driftOf yX3_driftOf ∈ wsX7_sound := mb_X7_sound_wsX7_sound_r1 (List.mem_of_getElem? (i := 17) rfl)
theorem mx_X7_sound_6 : Cond.initialized RX3 ∈ wsX7_sound := mb_X7_sound_wsX7_sound_r1 (List.mem_of_getElem? (i := 5) rfl)
theorem gX7_sound_X3_driftOf : GoodIn wsX7_sound (wsV RX7 191 RX3 yX3_driftOf wsX3_driftOf) := goodIn_app (goodIn_sub (List.forall_mem_cons.mpr ⟨mx_X7_sound_16, List.forall_mem_cons.mpr ⟨mx_X7_sound_17, List.forall_mem_cons.mpr ⟨mx_X7_sound_18, List.forall_mem_cons.mpr ⟨mx_X7_sound_6, fun _ h_ => absurd h_ List.not_mem_nil⟩⟩⟩⟩) (by decide +kernel)) ggX7_sound_X3_driftOf
theorem mx_X7_sound_7 : Cond.code yX3_hasSound cX3_hasSound 2 (some .boolean) ∈ wsX7_sound := mb_X7_sound_wsX7_sound_r1 (List.mem_of_getElem? (i := 6) rfl)
theorem mx_X7_sound_8 : Cond.fieldLink RX3 49 "MillTalk$Level" "soundCount" "I" ∈ wsX7_sound := mb_X7_sound_wsX7_sound_r1 (List.mem_of_getElem? (i := 7) rfl)
theorem ggX7_sound_X3_hasSound : GoodIn wsX7_sound wsX3_hasSound := goodIn_sub (by unfold wsX3_hasSound; exact List.forall_mem_cons.mpr ⟨mx_X7_sound_7, List.forall_mem_append.mpr ⟨List.forall_mem_cons.mpr ⟨mx_X7_sound_8, fun _ h_ => absurd h_ List.not_mem_nil⟩, (fun _ h_ => mb_X7_sound_wsX30 h_)⟩⟩) (by decide +kernel)
theorem mx_X7_sound_3 : Cond.methodLink RX7 173 yX3_hasSound ∈ wsX7_sound := mb_X7_sound_wsX7_sound_r1 (List.mem_of_getElem? (i := 2) rfl)
theorem mx_X7_sound_4 : Cond.instanceMethod yX3_hasSound ∈ wsX7_sound := mb_X7_sound_wsX7_sound_r1 (List.mem_of_getElem? (i := 3) rfl)
theorem mx_X7_sound_5 : Cond.selects RX3 yX3_hasSound yX3_hasSound ∈ wsX7_sound := mb_X7_sound_wsX7_sound_r1 (List.mem_of_getElem? (i := 4) rfl)
theorem gX7_sound_X3_hasSound : GoodIn wsX7_sound (wsV RX7 173 RX3 yX3_hasSound wsX3_hasSound) := goodIn_app (goodIn_sub (List.forall_mem_cons.mpr ⟨mx_X7_sound_3, List.forall_mem_cons.mpr ⟨mx_X7_sound_4, List.forall_mem_cons.mpr ⟨mx_X7_sound_5, List.forall_mem_cons.mpr ⟨mx_X7_sound_6, fun _ h_ => absurd h_ List.not_mem_nil⟩⟩⟩⟩) (by decide +kernel)) ggX7_sound_X3_hasSound
theorem mx_X7_sound_24 : Cond.code yX3_tellOf cX3_tellOf 3 (some .int) ∈ wsX7_sound := mb_X7_sound_wsX7_sound_r1 (List.mem_of_getElem? (i := 23) rfl)
theorem mb_X7_sound_wsX7_sound_r2 {w : Cond} (h : w ∈ wsX7_sound_r2) : w ∈ wsX7_sound := by unfold wsX7_sound; exact List.mem_cons_of_mem _ (List.mem_append_left _ (List.mem_append_left _ (List.mem_append_right _ (h))))
theorem mx_X7_sound_25 : Cond.fieldLink RX3 18 "MillTalk$Level" "places" "[I" ∈ wsX7_sound := mb_X7_sound_wsX7_sound_r2 (List.mem_of_getElem? (i := 0) rfl)
theorem mx_X7_sound_26 : Cond.constant RX3 62 (-1000000) ∈ wsX7_sound := mb_X7_sound_wsX7_sound_r2 (List.mem_of_getElem? (i := 1) rfl)
theorem mx_X7_sound_27 : Cond.fieldLink RX3 24 "MillTalk$Level" "hows" "[I" ∈ wsX7_sound := mb_X7_sound_wsX7_sound_r2 (List.mem_of_getElem? (i := 2) rfl)
theorem mx_X7_sound_28 : Cond.fieldLink RX3 21 "MillTalk$Level" "louds" "[I" ∈ wsX7_sound := mb_X7_sound_wsX7_sound_r2 (List.mem_of_getElem? (i := 3) rfl)
theorem mx_X7_sound_29 : Cond.methodLink RX3 58 yX3_isLoose ∈ wsX7_sound := mb_X7_sound_wsX7_sound_r2 (List.mem_of_getElem? (i := 4) rfl)
theorem mx_X7_sound_30 : Cond.instanceMethod yX3_isLoose ∈ wsX7_sound := mb_X7_sound_wsX7_sound_r2 (List.mem_of_getElem? (i := 5) rfl)
theorem mx_X7_sound_31 : Cond.selects RX3 yX3_isLoose yX3_isLoose ∈ wsX7_sound := mb_X7_sound_wsX7_sound_r2 (List.mem_of_getElem? (i := 6) rfl)
theorem mx_X7_sound_32 : Cond.code yX3_isLoose cX3_isLoose 2 (some .boolean) ∈ wsX7_sound := mb_X7_sound_wsX7_sound_r2 (List.mem_of_getElem? (i := 7) rfl)
theorem ggX7_sound_X3_tellOf : GoodIn wsX7_sound wsX3_tellOf := goodIn_sub (by unfold wsX3_tellOf; exact List.forall_mem_cons.mpr ⟨mx_X7_sound_24, List.forall_mem_append.mpr ⟨List.forall_mem_cons.mpr ⟨mx_X7_sound_25, List.forall_mem_cons.mpr ⟨mx_X7_sound_26, List.forall_mem_cons.mpr ⟨mx_X7_sound_27, List.forall_mem_cons.mpr ⟨mx_X7_sound_28, List.forall_mem_cons.mpr ⟨mx_X7_sound_29, List.forall_mem_cons.mpr ⟨mx_X7_sound_30, List.forall_mem_cons.mpr ⟨mx_X7_sound_31, List.forall_mem_cons.mpr ⟨mx_X7_sound_6, List.forall_mem_cons.mpr ⟨mx_X7_sound_32, fun _ h_ => absurd h_ List.not_mem_nil⟩⟩⟩⟩⟩⟩⟩⟩⟩, (fun _ h_ => mb_X7_sound_wsX30 h_)⟩⟩) (by decide +kernel)
theorem mx_X7_sound_21 : Cond.methodLink RX7 195 yX3_tellOf ∈ wsX7_sound := mb_X7_sound_wsX7_sound_r1 (List.mem_of_getElem? (i := 20) rfl)
theorem mx_X7_sound_22 : Cond.instanceMethod yX3_tellOf ∈ wsX7_sound := mb_X7_sound_wsX7_sound_r1 (List.mem_of_getElem? (i := 21) rfl)
theorem mx_X7_sound_23 : Cond.selects RX3 yX3_tellOf yX3_tellOf ∈ wsX7_sound := mb_X7_sound_wsX7_sound_r1 (List.mem_of_getElem? (i := 22) rfl)
theorem gX7_sound_X3_tellOf : GoodIn wsX7_sound (wsV RX7 195 RX3 yX3_tellOf wsX3_tellOf) := goodIn_app (goodIn_sub (List.forall_mem_cons.mpr ⟨mx_X7_sound_21, List.forall_mem_cons.mpr ⟨mx_X7_sound_22, List.forall_mem_cons.mpr ⟨mx_X7_sound_23, List.forall_mem_cons.mpr ⟨mx_X7_sound_6, fun _ h_ => absurd h_ List.not_mem_nil⟩⟩⟩⟩) (by decide +kernel)) ggX7_sound_X3_tellOf
theorem mx_X7_sound_12 : Cond.code yX3_windOn cX3_windOn 2 (some .int) ∈ wsX7_sound := mb_X7_sound_wsX7_sound_r1 (List.mem_of_getElem? (i := 11) rfl)
theorem mx_X7_sound_13 : Cond.fieldLink RX3 46 "MillTalk$Level" "windCount" "I" ∈ wsX7_sound := mb_X7_sound_wsX7_sound_r1 (List.mem_of_getElem? (i := 12) rfl)
theorem mx_X7_sound_14 : Cond.fieldLink RX3 9 "MillTalk$Level" "winds" "[I" ∈ wsX7_sound := mb_X7_sound_wsX7_sound_r1 (List.mem_of_getElem? (i := 13) rfl)
theorem mx_X7_sound_15 : Cond.fieldLink RX3 40 "MillTalk$Level" "hour" "I" ∈ wsX7_sound := mb_X7_sound_wsX7_sound_r1 (List.mem_of_getElem? (i := 14) rfl)
theorem ggX7_sound_X3_windOn : GoodIn wsX7_sound wsX3_windOn := goodIn_sub (by unfold wsX3_windOn; exact List.forall_mem_cons.mpr ⟨mx_X7_sound_12, List.forall_mem_append.mpr ⟨List.forall_mem_cons.mpr ⟨mx_X7_sound_13, List.forall_mem_cons.mpr ⟨mx_X7_sound_14, List.forall_mem_cons.mpr ⟨mx_X7_sound_15, fun _ h_ => absurd h_ List.not_mem_nil⟩⟩⟩, (fun _ h_ => mb_X7_sound_wsX30 h_)⟩⟩) (by decide +kernel)
theorem mx_X7_sound_9 : Cond.methodLink RX7 188 yX3_windOn ∈ wsX7_sound := mb_X7_sound_wsX7_sound_r1 (List.mem_of_getElem? (i := 8) rfl)
theorem mx_X7_sound_10 : Cond.instanceMethod yX3_windOn ∈ wsX7_sound := mb_X7_sound_wsX7_sound_r1 (List.mem_of_getElem? (i := 9) rfl)
theorem mx_X7_sound_11 : Cond.selects RX3 yX3_windOn yX3_windOn ∈ wsX7_sound := mb_X7_sound_wsX7_sound_r1 (List.mem_of_getElem? (i := 10) rfl)
theorem gX7_sound_X3_windOn : GoodIn wsX7_sound (wsV RX7 188 RX3 yX3_windOn wsX3_windOn) := goodIn_app (goodIn_sub (List.forall_mem_cons.mpr ⟨mx_X7_sound_9, List.forall_mem_cons.mpr ⟨mx_X7_sound_10, List.forall_mem_cons.mpr ⟨mx_X7_sound_11, List.forall_mem_cons.mpr ⟨mx_X7_sound_6, fun _ h_ => absurd h_ List.not_mem_nil⟩⟩⟩⟩) (by decide +kernel)) ggX7_sound_X3_windOn
theorem mx_X7_stand_12 : Cond.code yX3_isTold cX3_isTold 1 (some .boolean) ∈ wsX7_stand := by unfold wsX7_stand; exact List.mem_cons_of_mem _ (List.mem_append_left _ (List.mem_append_left _ (List.mem_of_getElem? (i := 11) rfl)))
theorem mx_X7_stand_13 : Cond.fieldLink RX3 27 "MillTalk$Level" "cells" "I" ∈ wsX7_stand := by unfold wsX7_stand; exact List.mem_cons_of_mem _ (List.mem_append_left _ (List.mem_append_left _ (List.mem_of_getElem? (i := 12) rfl)))
theorem mb_X7_stand_wsX30 {w : Cond} (h : w ∈ wsX30) : w ∈ wsX7_stand := by unfold wsX7_stand; exact List.mem_cons_of_mem _ (List.mem_append_right _ (h))
theorem ggX7_stand_X3_isTold : GoodIn wsX7_stand wsX3_isTold := goodIn_sub (by unfold wsX3_isTold; exact List.forall_mem_cons.mpr ⟨mx_X7_stand_12, List.forall_mem_append.mpr ⟨List.forall_mem_cons.mpr ⟨mx_X7_stand_13, fun _ h_ => absurd h_ List.not_mem_nil⟩, (fun _ h_ => mb_X7_stand_wsX30 h_)⟩⟩) (by decide +kernel)
theorem mx_X7_stand_8 : Cond.methodLink RX7 145 yX3_isTold ∈ wsX7_stand := by unfold wsX7_stand; exact List.mem_cons_of_mem _ (List.mem_append_left _ (List.mem_append_left _ (List.mem_of_getElem? (i := 7) rfl)))
theorem mx_X7_stand_9 : Cond.instanceMethod yX3_isTold ∈ wsX7_stand := by unfold wsX7_stand; exact List.mem_cons_of_mem _ (List.mem_append_left _ (List.mem_append_left _ (List.mem_of_getElem? (i := 8) rfl)))
theorem mx_X7_stand_10 : Cond.selects RX3 yX3_isTold yX3_isTold ∈ wsX7_stand := by unfold wsX7_stand; exact List.mem_cons_of_mem _ (List.mem_append_left _ (List.mem_append_left _ (List.mem_of_getElem? (i := 9) rfl)))
theorem mx_X7_stand_11 : Cond.initialized RX3 ∈ wsX7_stand := by unfold wsX7_stand; exact List.mem_cons_of_mem _ (List.mem_append_left _ (List.mem_append_left _ (List.mem_of_getElem? (i := 10) rfl)))
theorem gX7_stand_X3_isTold : GoodIn wsX7_stand (wsV RX7 145 RX3 yX3_isTold wsX3_isTold) := goodIn_app (goodIn_sub (List.forall_mem_cons.mpr ⟨mx_X7_stand_8, List.forall_mem_cons.mpr ⟨mx_X7_stand_9, List.forall_mem_cons.mpr ⟨mx_X7_stand_10, List.forall_mem_cons.mpr ⟨mx_X7_stand_11, fun _ h_ => absurd h_ List.not_mem_nil⟩⟩⟩⟩) (by decide +kernel)) ggX7_stand_X3_isTold
theorem mx_X7_stand_17 : Cond.code yX3_soundsThatAre cX3_soundsThatAre 4 (some .int) ∈ wsX7_stand := by unfold wsX7_stand; exact List.mem_cons_of_mem _ (List.mem_append_left _ (List.mem_append_left _ (List.mem_of_getElem? (i := 16) rfl)))
theorem mx_X7_stand_18 : Cond.fieldLink RX3 49 "MillTalk$Level" "soundCount" "I" ∈ wsX7_stand := by unfold wsX7_stand; exact List.mem_cons_of_mem _ (List.mem_append_left _ (List.mem_append_left _ (List.mem_of_getElem? (i := 17) rfl)))
theorem mx_X7_stand_19 : Cond.fieldLink RX3 24 "MillTalk$Level" "hows" "[I" ∈ wsX7_stand := by unfold wsX7_stand; exact List.mem_cons_of_mem _ (List.mem_append_left _ (List.mem_append_left _ (List.mem_of_getElem? (i := 18) rfl)))
theorem ggX7_stand_X3_soundsThatAre : GoodIn wsX7_stand wsX3_soundsThatAre := goodIn_sub (by unfold wsX3_soundsThatAre; exact List.forall_mem_cons.mpr ⟨mx_X7_stand_17, List.forall_mem_append.mpr ⟨List.forall_mem_cons.mpr ⟨mx_X7_stand_18, List.forall_mem_cons.mpr ⟨mx_X7_stand_19, fun _ h_ => absurd h_ List.not_mem_nil⟩⟩, (fun _ h_ => mb_X7_stand_wsX30 h_)⟩⟩) (by decide +kernel)
theorem mx_X7_stand_14 : Cond.methodLink RX7 185 yX3_soundsThatAre ∈ wsX7_stand := by unfold wsX7_stand; exact List.mem_cons_of_mem _ (List.mem_append_left _ (List.mem_append_left _ (List.mem_of_getElem? (i := 13) rfl)))
theorem mx_X7_stand_15 : Cond.instanceMethod yX3_soundsThatAre ∈ wsX7_stand := by unfold wsX7_stand; exact List.mem_cons_of_mem _ (List.mem_append_left _ (List.mem_append_left _ (List.mem_of_getElem? (i := 14) rfl)))
theorem mx_X7_stand_16 : Cond.selects RX3 yX3_soundsThatAre yX3_soundsThatAre ∈ wsX7_stand := by unfold wsX7_stand; exact List.mem_cons_of_mem _ (List.mem_append_left _ (List.mem_append_left _ (List.mem_of_getElem? (i := 15) rfl)))
theorem gX7_stand_X3_soundsThatAre : GoodIn wsX7_stand (wsV RX7 185 RX3 yX3_soundsThatAre wsX3_soundsThatAre) := goodIn_app (goodIn_sub (List.forall_mem_cons.mpr ⟨mx_X7_stand_14, List.forall_mem_cons.mpr ⟨mx_X7_stand_15, List.forall_mem_cons.mpr ⟨mx_X7_stand_16, List.forall_mem_cons.mpr ⟨mx_X7_stand_11, fun _ h_ => absurd h_ List.not_mem_nil⟩⟩⟩⟩) (by decide +kernel)) ggX7_stand_X3_soundsThatAre
theorem mb_X7_count_wsX00 {w : Cond} (h : w ∈ wsX00) : w ∈ wsX7_count := by unfold wsX7_count; exact List.mem_cons_of_mem _ (List.mem_append_left _ (List.mem_append_left _ (List.mem_append_right _ (h))))
theorem i_X7_count_X0 : ∀ w ∈ u_ws RX0 TX0 3, w ∈ wsX7_count := fun _ h_ => mb_X7_count_wsX00 h_
theorem i_X7_count_X3 : ∀ w ∈ u_ws RX3 TX3 13, w ∈ wsX7_count := fun _ h_ => mb_X7_count_wsX30 h_
theorem mb_X7_count_wsX60 {w : Cond} (h : w ∈ wsX60) : w ∈ wsX7_count := by unfold wsX7_count; exact List.mem_cons_of_mem _ (List.mem_append_left _ (List.mem_append_right _ (h)))
theorem i_X7_count_X6 : ∀ w ∈ u_ws RX6 TX6 6, w ∈ wsX7_count := fun _ h_ => mb_X7_count_wsX60 h_
theorem mb_X7_count_wsX70 {w : Cond} (h : w ∈ wsX70) : w ∈ wsX7_count := by unfold wsX7_count; exact List.mem_cons_of_mem _ (List.mem_append_left _ (List.mem_append_left _ (List.mem_append_left _ (List.mem_append_left _ (List.mem_append_right _ (h))))))
theorem i_X7_count_X7 : ∀ w ∈ u_ws RX7 TX7 11, w ∈ wsX7_count := fun _ h_ => mb_X7_count_wsX70 h_
theorem mb_X7_fault_wsX70 {w : Cond} (h : w ∈ wsX70) : w ∈ wsX7_fault := by unfold wsX7_fault; exact List.mem_cons_of_mem _ (List.mem_append_right _ (h))
theorem i_X7_fault_X7 : ∀ w ∈ u_ws RX7 TX7 11, w ∈ wsX7_fault := fun _ h_ => mb_X7_fault_wsX70 h_
theorem mb_X7_found_wsX70 {w : Cond} (h : w ∈ wsX70) : w ∈ wsX7_found := by unfold wsX7_found; exact List.mem_cons_of_mem _ (List.mem_append_right _ (h))
theorem i_X7_found_X7 : ∀ w ∈ u_ws RX7 TX7 11, w ∈ wsX7_found := fun _ h_ => mb_X7_found_wsX70 h_
theorem mb_X7_foundNothing_wsX70 {w : Cond} (h : w ∈ wsX70) : w ∈ wsX7_foundNothing := by unfold wsX7_foundNothing; exact List.mem_cons_of_mem _ (List.mem_append_right _ (h))
theorem i_X7_foundNothing_X7 : ∀ w ∈ u_ws RX7 TX7 11, w ∈ wsX7_foundNothing := fun _ h_ => mb_X7_foundNothing_wsX70 h_
theorem mb_X7_gust_wsX70 {w : Cond} (h : w ∈ wsX70) : w ∈ wsX7_gust := by unfold wsX7_gust; exact List.mem_cons_of_mem _ (List.mem_append_left _ (List.mem_append_right _ (h)))
theorem i_X7_gust_X7 : ∀ w ∈ u_ws RX7 TX7 11, w ∈ wsX7_gust := fun _ h_ => mb_X7_gust_wsX70 h_
theorem i_X7_kind_X3 : ∀ w ∈ u_ws RX3 TX3 13, w ∈ wsX7_kind := fun _ h_ => mb_X7_kind_wsX30 h_
theorem mb_X7_kind_wsX70 {w : Cond} (h : w ∈ wsX70) : w ∈ wsX7_kind := by unfold wsX7_kind; exact List.mem_cons_of_mem _ (List.mem_append_left _ (List.mem_append_right _ (h)))
theorem i_X7_kind_X7 : ∀ w ∈ u_ws RX7 TX7 11, w ∈ wsX7_kind := fun _ h_ => mb_X7_kind_wsX70 h_
theorem i_X7_sack_X3 : ∀ w ∈ u_ws RX3 TX3 13, w ∈ wsX7_sack := fun _ h_ => mb_X7_sack_wsX30 h_
theorem mb_X7_sack_wsX70 {w : Cond} (h : w ∈ wsX70) : w ∈ wsX7_sack := by unfold wsX7_sack; exact List.mem_cons_of_mem _ (List.mem_append_left _ (List.mem_append_right _ (h)))
theorem i_X7_sack_X7 : ∀ w ∈ u_ws RX7 TX7 11, w ∈ wsX7_sack := fun _ h_ => mb_X7_sack_wsX70 h_
theorem i_X7_share_X3 : ∀ w ∈ u_ws RX3 TX3 13, w ∈ wsX7_share := fun _ h_ => mb_X7_share_wsX30 h_
theorem mb_X7_share_wsX70 {w : Cond} (h : w ∈ wsX70) : w ∈ wsX7_share := by unfold wsX7_share; exact List.mem_cons_of_mem _ (List.mem_append_left _ (List.mem_append_right _ (h)))
theorem i_X7_share_X7 : ∀ w ∈ u_ws RX7 TX7 11, w ∈ wsX7_share := fun _ h_ => mb_X7_share_wsX70 h_
theorem mb_X7_sound_wsX70 {w : Cond} (h : w ∈ wsX70) : w ∈ wsX7_sound := by unfold wsX7_sound; exact List.mem_cons_of_mem _ (List.mem_append_left _ (List.mem_append_right _ (h)))
theorem i_X7_sound_X7 : ∀ w ∈ u_ws RX7 TX7 11, w ∈ wsX7_sound := fun _ h_ => mb_X7_sound_wsX70 h_
theorem i_X7_stand_X3 : ∀ w ∈ u_ws RX3 TX3 13, w ∈ wsX7_stand := fun _ h_ => mb_X7_stand_wsX30 h_
theorem mb_X7_stand_wsX70 {w : Cond} (h : w ∈ wsX70) : w ∈ wsX7_stand := by unfold wsX7_stand; exact List.mem_cons_of_mem _ (List.mem_append_left _ (List.mem_append_right _ (h)))
theorem i_X7_stand_X7 : ∀ w ∈ u_ws RX7 TX7 11, w ∈ wsX7_stand := fun _ h_ => mb_X7_stand_wsX70 h_
theorem mb_X7_status_wsX70 {w : Cond} (h : w ∈ wsX70) : w ∈ wsX7_status := by unfold wsX7_status; exact List.mem_cons_of_mem _ (List.mem_append_right _ (h))
theorem i_X7_status_X7 : ∀ w ∈ u_ws RX7 TX7 11, w ∈ wsX7_status := fun _ h_ => mb_X7_status_wsX70 h_
theorem mb_X7_trace_wsX10 {w : Cond} (h : w ∈ wsX10) : w ∈ wsX7_trace := by unfold wsX7_trace; exact List.mem_cons_of_mem _ (List.mem_append_right _ (h))
theorem i_X7_trace_X1 : ∀ w ∈ u_ws RX1 TX1 6, w ∈ wsX7_trace := fun _ h_ => mb_X7_trace_wsX10 h_
theorem mb_X7_trace_wsX70 {w : Cond} (h : w ∈ wsX70) : w ∈ wsX7_trace := by unfold wsX7_trace; exact List.mem_cons_of_mem _ (List.mem_append_left _ (List.mem_append_right _ (h)))
theorem i_X7_trace_X7 : ∀ w ∈ u_ws RX7 TX7 11, w ∈ wsX7_trace := fun _ h_ => mb_X7_trace_wsX70 h_
theorem mx_X7_found_1 : Cond.fieldLink RX7 323 "MillTalk" "latestFinding" "I" ∈ wsX7_found := by unfold wsX7_found; exact List.mem_cons_of_mem _ (List.mem_append_left _ (List.mem_of_getElem? (i := 0) rfl))
theorem mx_X7_found_2 : Cond.constant RX7 326 (-1000010) ∈ wsX7_found := by unfold wsX7_found; exact List.mem_cons_of_mem _ (List.mem_append_left _ (List.mem_of_getElem? (i := 1) rfl))
theorem mx_X7_foundNothing_1 : Cond.fieldLink RX7 323 "MillTalk" "latestFinding" "I" ∈ wsX7_foundNothing := by unfold wsX7_foundNothing; exact List.mem_cons_of_mem _ (List.mem_append_left _ (List.mem_of_getElem? (i := 0) rfl))
theorem mx_X7_isOfKind_1 : Cond.fieldLink RX7 327 "MillTalk" "NEXT_KIND" "[I" ∈ wsX7_isOfKind := by unfold wsX7_isOfKind; exact List.mem_cons_of_mem _ (List.mem_of_getElem? (i := 0) rfl)
theorem mx_X7_fault_1 : Cond.fieldLink RX7 117 "MillTalk" "latestFault" "I" ∈ wsX7_fault := by unfold wsX7_fault; exact List.mem_cons_of_mem _ (List.mem_append_left _ (List.mem_of_getElem? (i := 0) rfl))
theorem mx_X7_status_1 : Cond.fieldLink RX7 323 "MillTalk" "latestFinding" "I" ∈ wsX7_status := by unfold wsX7_status; exact List.mem_cons_of_mem _ (List.mem_append_left _ (List.mem_of_getElem? (i := 0) rfl))
theorem mx_X7_kind_1 : Cond.fieldLink RX7 26 "MillTalk" "now" "LMillTalk$Level;" ∈ wsX7_kind := by unfold wsX7_kind; exact List.mem_cons_of_mem _ (List.mem_append_left _ (List.mem_append_left _ (List.mem_of_getElem? (i := 0) rfl)))
theorem mx_X7_kind_3 : Cond.constant RX7 72 (-1000001) ∈ wsX7_kind := by unfold wsX7_kind; exact List.mem_cons_of_mem _ (List.mem_append_left _ (List.mem_append_left _ (List.mem_of_getElem? (i := 2) rfl)))
theorem mx_X7_kind_2 : Cond.fieldLink RX7 301 "MillTalk$Level" "kinds" "[I" ∈ wsX7_kind := by unfold wsX7_kind; exact List.mem_cons_of_mem _ (List.mem_append_left _ (List.mem_append_left _ (List.mem_of_getElem? (i := 1) rfl)))
theorem mx_X7_stand_1 : Cond.fieldLink RX7 26 "MillTalk" "now" "LMillTalk$Level;" ∈ wsX7_stand := by unfold wsX7_stand; exact List.mem_cons_of_mem _ (List.mem_append_left _ (List.mem_append_left _ (List.mem_of_getElem? (i := 0) rfl)))
theorem mx_X7_stand_2 : Cond.constant RX7 141 (-1000002) ∈ wsX7_stand := by unfold wsX7_stand; exact List.mem_cons_of_mem _ (List.mem_append_left _ (List.mem_append_left _ (List.mem_of_getElem? (i := 1) rfl)))
theorem mx_X7_stand_3 : Cond.fieldLink RX7 198 "MillTalk$Level" "cells" "I" ∈ wsX7_stand := by unfold wsX7_stand; exact List.mem_cons_of_mem _ (List.mem_append_left _ (List.mem_append_left _ (List.mem_of_getElem? (i := 2) rfl)))
theorem mx_X7_stand_4 : Cond.fieldLink RX7 201 "MillTalk$Level" "mill" "I" ∈ wsX7_stand := by unfold wsX7_stand; exact List.mem_cons_of_mem _ (List.mem_append_left _ (List.mem_append_left _ (List.mem_of_getElem? (i := 3) rfl)))
theorem mx_X7_stand_5 : Cond.fieldLink RX7 204 "MillTalk$Level" "reach" "I" ∈ wsX7_stand := by unfold wsX7_stand; exact List.mem_cons_of_mem _ (List.mem_append_left _ (List.mem_append_left _ (List.mem_of_getElem? (i := 4) rfl)))
theorem mx_X7_stand_6 : Cond.fieldLink RX7 163 "MillTalk$Level" "cap" "I" ∈ wsX7_stand := by unfold wsX7_stand; exact List.mem_cons_of_mem _ (List.mem_append_left _ (List.mem_append_left _ (List.mem_of_getElem? (i := 5) rfl)))
theorem mx_X7_stand_7 : Cond.constant RX7 72 (-1000001) ∈ wsX7_stand := by unfold wsX7_stand; exact List.mem_cons_of_mem _ (List.mem_append_left _ (List.mem_append_left _ (List.mem_of_getElem? (i := 6) rfl)))
theorem mx_X7_gust_1 : Cond.fieldLink RX7 26 "MillTalk" "now" "LMillTalk$Level;" ∈ wsX7_gust := by unfold wsX7_gust; exact List.mem_cons_of_mem _ (List.mem_append_left _ (List.mem_append_left _ (List.mem_of_getElem? (i := 0) rfl)))
theorem mx_X7_gust_2 : Cond.constant RX7 141 (-1000002) ∈ wsX7_gust := by unfold wsX7_gust; exact List.mem_cons_of_mem _ (List.mem_append_left _ (List.mem_append_left _ (List.mem_of_getElem? (i := 1) rfl)))
theorem mx_X7_gust_3 : Cond.constant RX7 72 (-1000001) ∈ wsX7_gust := by unfold wsX7_gust; exact List.mem_cons_of_mem _ (List.mem_append_left _ (List.mem_append_left _ (List.mem_of_getElem? (i := 2) rfl)))
theorem mx_X7_sound_1 : Cond.fieldLink RX7 26 "MillTalk" "now" "LMillTalk$Level;" ∈ wsX7_sound := mb_X7_sound_wsX7_sound_r1 (List.mem_of_getElem? (i := 0) rfl)
theorem mx_X7_sound_2 : Cond.constant RX7 72 (-1000001) ∈ wsX7_sound := mb_X7_sound_wsX7_sound_r1 (List.mem_of_getElem? (i := 1) rfl)
theorem mx_X7_share_1 : Cond.fieldLink RX7 26 "MillTalk" "now" "LMillTalk$Level;" ∈ wsX7_share := by unfold wsX7_share; exact List.mem_cons_of_mem _ (List.mem_append_left _ (List.mem_append_left _ (List.mem_of_getElem? (i := 0) rfl)))
theorem mx_X7_share_2 : Cond.constant RX7 72 (-1000001) ∈ wsX7_share := by unfold wsX7_share; exact List.mem_cons_of_mem _ (List.mem_append_left _ (List.mem_append_left _ (List.mem_of_getElem? (i := 1) rfl)))
theorem mx_X7_share_3 : Cond.fieldLink RX7 135 "MillTalk$Level" "soundCount" "I" ∈ wsX7_share := by unfold wsX7_share; exact List.mem_cons_of_mem _ (List.mem_append_left _ (List.mem_append_left _ (List.mem_of_getElem? (i := 2) rfl)))
theorem mx_X7_share_4 : Cond.fieldLink RX7 240 "MillTalk$Level" "louds" "[I" ∈ wsX7_share := by unfold wsX7_share; exact List.mem_cons_of_mem _ (List.mem_append_left _ (List.mem_append_left _ (List.mem_of_getElem? (i := 3) rfl)))
theorem mx_X7_sack_1 : Cond.fieldLink RX7 26 "MillTalk" "now" "LMillTalk$Level;" ∈ wsX7_sack := by unfold wsX7_sack; exact List.mem_cons_of_mem _ (List.mem_append_left _ (List.mem_append_left _ (List.mem_of_getElem? (i := 0) rfl)))
theorem mx_X7_sack_2 : Cond.constant RX7 141 (-1000002) ∈ wsX7_sack := by unfold wsX7_sack; exact List.mem_cons_of_mem _ (List.mem_append_left _ (List.mem_append_left _ (List.mem_of_getElem? (i := 1) rfl)))
theorem mx_X7_sack_3 : Cond.constant RX7 72 (-1000001) ∈ wsX7_sack := by unfold wsX7_sack; exact List.mem_cons_of_mem _ (List.mem_append_left _ (List.mem_append_left _ (List.mem_of_getElem? (i := 2) rfl)))
theorem mx_X7_sack_4 : Cond.fieldLink RX7 135 "MillTalk$Level" "soundCount" "I" ∈ wsX7_sack := by unfold wsX7_sack; exact List.mem_cons_of_mem _ (List.mem_append_left _ (List.mem_append_left _ (List.mem_of_getElem? (i := 3) rfl)))
theorem mx_X7_trace_4 : Cond.constant RX7 220 (-1000000) ∈ wsX7_trace := by unfold wsX7_trace; exact List.mem_cons_of_mem _ (List.mem_append_left _ (List.mem_append_left _ (List.mem_of_getElem? (i := 3) rfl)))
theorem mx_X7_trace_1 : Cond.fieldLink RX7 61 "MillTalk" "asks" "LMillTalk$Asks;" ∈ wsX7_trace := by unfold wsX7_trace; exact List.mem_cons_of_mem _ (List.mem_append_left _ (List.mem_append_left _ (List.mem_of_getElem? (i := 0) rfl)))
theorem mx_X7_trace_2 : Cond.fieldLink RX7 313 "MillTalk$Asks" "traced" "I" ∈ wsX7_trace := by unfold wsX7_trace; exact List.mem_cons_of_mem _ (List.mem_append_left _ (List.mem_append_left _ (List.mem_of_getElem? (i := 1) rfl)))
theorem mx_X7_trace_3 : Cond.fieldLink RX7 316 "MillTalk$Asks" "trace" "[I" ∈ wsX7_trace := by unfold wsX7_trace; exact List.mem_cons_of_mem _ (List.mem_append_left _ (List.mem_append_left _ (List.mem_of_getElem? (i := 2) rfl)))
theorem mx_J6_bitCount_0f7a4_1 : Cond.constant RJ6 265 (1431655765) ∈ wsJ6_bitCount_0f7a4 := by unfold wsJ6_bitCount_0f7a4; exact List.mem_cons_of_mem _ (List.mem_of_getElem? (i := 0) rfl)
theorem mx_J6_bitCount_0f7a4_2 : Cond.constant RJ6 266 (858993459) ∈ wsJ6_bitCount_0f7a4 := by unfold wsJ6_bitCount_0f7a4; exact List.mem_cons_of_mem _ (List.mem_of_getElem? (i := 1) rfl)
theorem mx_J6_bitCount_0f7a4_3 : Cond.constant RJ6 267 (252645135) ∈ wsJ6_bitCount_0f7a4 := by unfold wsJ6_bitCount_0f7a4; exact List.mem_cons_of_mem _ (List.mem_of_getElem? (i := 2) rfl)
theorem mx_X7_count_1 : Cond.fieldLink RX7 10 "MillTalk" "rows" "LMillTalk$Rows;" ∈ wsX7_count := mb_X7_count_wsX7_count_r1 (List.mem_of_getElem? (i := 0) rfl)
theorem mx_X7_count_2 : Cond.fieldLink RX7 26 "MillTalk" "now" "LMillTalk$Level;" ∈ wsX7_count := mb_X7_count_wsX7_count_r1 (List.mem_of_getElem? (i := 1) rfl)
theorem mx_X7_count_3 : Cond.fieldLink RX7 135 "MillTalk$Level" "soundCount" "I" ∈ wsX7_count := mb_X7_count_wsX7_count_r1 (List.mem_of_getElem? (i := 2) rfl)
theorem mx_X7_count_4 : Cond.fieldLink RX7 269 "MillTalk$Level" "windCount" "I" ∈ wsX7_count := mb_X7_count_wsX7_count_r1 (List.mem_of_getElem? (i := 3) rfl)
theorem mx_X7_count_5 : Cond.fieldLink RX7 148 "MillTalk$Level" "hour" "I" ∈ wsX7_count := mb_X7_count_wsX7_count_r1 (List.mem_of_getElem? (i := 4) rfl)
theorem mx_X7_count_6 : Cond.fieldLink RX7 157 "MillTalk$Level" "meal" "I" ∈ wsX7_count := mb_X7_count_wsX7_count_r1 (List.mem_of_getElem? (i := 5) rfl)
theorem mx_X7_count_7 : Cond.fieldLink RX7 33 "MillTalk" "acts" "LMillTalk$Acts;" ∈ wsX7_count := mb_X7_count_wsX7_count_r1 (List.mem_of_getElem? (i := 6) rfl)
theorem mx_X7_count_8 : Cond.fieldLink RX7 138 "MillTalk$Acts" "size" "I" ∈ wsX7_count := mb_X7_count_wsX7_count_r1 (List.mem_of_getElem? (i := 7) rfl)
theorem mx_X7_count_9 : Cond.fieldLink RX7 19 "MillTalk" "tape" "LMillTalk$Tape;" ∈ wsX7_count := mb_X7_count_wsX7_count_r1 (List.mem_of_getElem? (i := 8) rfl)
theorem mx_X7_count_10 : Cond.fieldLink RX7 322 "MillTalk$Tape" "size" "I" ∈ wsX7_count := mb_X7_count_wsX7_count_r1 (List.mem_of_getElem? (i := 9) rfl)
theorem mx_X7_count_11 : Cond.constant RX7 72 (-1000001) ∈ wsX7_count := mb_X7_count_wsX7_count_r1 (List.mem_of_getElem? (i := 10) rfl)
