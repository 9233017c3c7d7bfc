theorem lf_X4_tn_1_1 {hrs : Nat} {v3 : Int32} {hh : Nat} {ww : Nat} {kk : Nat} {v3n_2 : Int32} (hr20 : hrs ≤ 20) (hhb : hh ≤ 999) (hww : ww ≤ 6) (hkk : kk ≤ 6) (hF_2_0 : v3n_2 = 1 - v3) : v3n_2 = 1 - v3 := by
  assumption
set_option maxHeartbeats 4000000 in
set_option maxRecDepth 100000 in
theorem r_X4_tn_1 (l : Launch) (dC : Nat → ClassId) (dI : Nat → Nat → Nat) (cI cZ cL cJ : ClassId) (sz : Nat) (p0 : Nat) (hrs : Nat) (h : Nat) (v0 : Int32) (v1 : Int32) (v2 : Int32) (v3 : Int32) (v5 : Int32) (hh : Nat) (ww : Nat) (kk : Nat) (b1 : Nat) (b2 : Nat) (b3 : Nat) (b4 : Nat) (b5 : Nat) (g1 : Nat → Int32) (g2 : Nat → Int32) (g3 : Nat → Int32) (g4 : Nat → Int32) (g5 : Nat → Int32) (k0 : Nat) (hr20 : hrs ≤ 20) (hhb : hh ≤ 999) (hww : ww ≤ 6) (hkk : kk ≤ 6) : Met l yX4_turn wsX4_turn ({ frames := 1, cells := 0, slots := 0, locals := 20 }) (va_Pc [.ref p0, .int 1] (fun U => U.heap.size = sz ∧ va_P (dC, dI) vwCl [(xo_4_rri p0 h k0 (nI hrs)), (xo_3_iiiiiiiirrrrr h v0 v1 v2 v3 (nI hh) v5 (nI ww) (nI kk) b1 b2 b3 b4 b5), (xI b1 cI 6 g1), (xI b2 cI 6 g2), (xI b3 cI 6 g3), (xI b4 cI 6 g4), (xI b5 cI 6 g5)] U.heap ∧ va_K (dC, dI) vwCl [(cI, .int), (cZ, .boolean), (cL, .object RX3), (cJ, .array .int)] U ∧ va_D (fun _ => True) [(xo_4_rri p0 h k0 (nI hrs)), (xo_3_iiiiiiiirrrrr h v0 v1 v2 v3 (nI hh) v5 (nI ww) (nI kk) b1 b2 b3 b4 b5), (xI b1 cI 6 g1), (xI b2 cI 6 g2), (xI b3 cI 6 g3), (xI b4 cI 6 g4), (xI b5 cI 6 g5)])) (va_Qv (fun (_ : Unit) => True) (fun (_ : Unit) t => ∃ (v3n : Int32), va_P (dC, dI) vwCl [(xo_4_rri p0 h k0 (nI hrs)), (xo_3_iiiiiiiirrrrr h v0 v1 v2 v3n (nI hh) v5 (nI ww) (nI kk) b1 b2 b3 b4 b5), (xI b1 cI 6 g1), (xI b2 cI 6 g2), (xI b3 cI 6 g3), (xI b4 cI 6 g4), (xI b5 cI 6 g5)] t.heap ∧ va_D (va_A [(xo_4_rri p0 h k0 (nI hrs)), (xo_3_iiiiiiiirrrrr h v0 v1 v2 v3 (nI hh) v5 (nI ww) (nI kk) b1 b2 b3 b4 b5), (xI b1 cI 6 g1), (xI b2 cI 6 g2), (xI b3 cI 6 g3), (xI b4 cI 6 g4), (xI b5 cI 6 g5)] sz) [(xo_4_rri p0 h k0 (nI hrs)), (xo_3_iiiiiiiirrrrr h v0 v1 v2 v3n (nI hh) v5 (nI ww) (nI kk) b1 b2 b3 b4 b5), (xI b1 cI 6 g1), (xI b2 cI 6 g2), (xI b3 cI 6 g3), (xI b4 cI 6 g4), (xI b5 cI 6 g5)] ∧ v3n = 1 - v3) (va_A [(xo_4_rri p0 h k0 (nI hrs)), (xo_3_iiiiiiiirrrrr h v0 v1 v2 v3 (nI hh) v5 (nI ww) (nI kk) b1 b2 b3 b4 b5), (xI b1 cI 6 g1), (xI b2 cI 6 g2), (xI b3 cI 6 g3), (xI b4 cI 6 g4), (xI b5 cI 6 g5)] sz)) 0 0 (va_A [(xo_4_rri p0 h k0 (nI hrs)), (xo_3_iiiiiiiirrrrr h v0 v1 v2 v3 (nI hh) v5 (nI ww) (nI kk) b1 b2 b3 b4 b5), (xI b1 cI 6 g1), (xI b2 cI 6 g2), (xI b3 cI 6 g3), (xI b4 cI 6 g4), (xI b5 cI 6 g5)] sz) := by
  refine Met.ofW (cc := cX4_turn) (maxL := 2) (ret := none) (by decide) rfl ?_
  intro p e s m args below meth c s₁ B hml hv
  obtain ⟨rfl, hsz, hP, hK, hD0⟩ := hv
  have hx := B.exec
  have hb := B.bytes
  have hr := B.returns
  have hts := atoms_spec (ws := wsX4_turn) B.pre
  have hown : s.vm.findClass RX4 = some m.cls := findClass_of_methodNamed B.named
  have hlocks := B.notSynchronized
  subst hsz
  have hD := hD0.self (sz := s.heap.size)
  generalize hAe : va_A [(xo_4_rri p0 h k0 (nI hrs)), (xo_3_iiiiiiiirrrrr h v0 v1 v2 v3 (nI hh) v5 (nI ww) (nI kk) b1 b2 b3 b4 b5), (xI b1 cI 6 g1), (xI b2 cI 6 g2), (xI b3 cI 6 g3), (xI b4 cI 6 g4), (xI b5 cI 6 g5)] s.heap.size = A at hD ⊢
  have hA : ∀ q : Nat, s.heap.size ≤ q → A q := fun q h => by rw [← hAe]; exact Or.inr h
  have hS : va_S A s.heap s.heap [] := va_S.rf
  have hP : va_P (dC, dI) vwCl [(xo_4_rri p0 h k0 (nI hrs)), (xo_3_iiiiiiiirrrrr h v0 v1 v2 v3 (nI hh) v5 (nI ww) (nI kk) b1 b2 b3 b4 b5), (xI b1 cI 6 g1), (xI b2 cI 6 g2), (xI b3 cI 6 g3), (xI b4 cI 6 g4), (xI b5 cI 6 g5)] s.heap := hP
  have hl := lv_entry ([.ref p0, .int 1]) (n := 2) (Nat.le_of_ble_eq_true rfl)
  rw [lg_entry_eq]
  generalize (lg_sl ([.ref p0, .int 1]) ++ List.replicate (2 - (lg_sl ([.ref p0, .int 1])).length) Slot.unset).toArray = ls at hl ⊢
  have hl : lv_has ls 2 [(0, .ref p0), (1, .int 1)] := hl
  refine lv_iload_n hx hb dX4_turn_0 rfl (lv_at hl 1 rfl) ?_
  refine lv_if_eq (tgt := 14) hx hb dX4_turn_1 (by decide) (fun c_ => absurd c_ (by decide)) (fun _ => ?_)
  refine lv_aload_n hx hb dX4_turn_4 rfl (lv_at hl 0 rfl) ?_
  refine va_get (D := (dC, dI)) (ci := 4) (v := .ref h) (C := RX4) (T := TX4) (N := 3) hx hb hts i_X4_turn_X4 hown hK hP 0 rfl rfl 0 (by decide) (hts _ mx_X4_turn_1) (fun _ h9 => h9) rfl dX4_turn_5 ?_
  have hc_2 := cutW (wc := [(xo_3_iiiiiiiirrrrr h v0 v1 v2 v3 (nI hh) v5 (nI ww) (nI kk) b1 b2 b3 b4 b5), (xI b1 cI 6 g1), (xI b2 cI 6 g2), (xI b3 cI 6 g3), (xI b4 cI 6 g4), (xI b5 cI 6 g5)]) hP hD hS hA [1, 2, 3, 4, 5, 6] (by decide +kernel) rfl
  refine va_callv (va_runV (As := []) (rest := []) ⟨hx, hb, hml, hown, hts⟩ (r_X3_turnCap l dC dI cI cZ cL cJ s.heap.size h v0 v1 v2 v3 v5 hh ww kk b1 b2 b3 b4 b5 g1 g2 g3 g4 g5 (by omega) (hww) (hkk)) (cwV 0 hts gX4_turn_X3_turnCap rfl rfl rfl (by decide +kernel) ⟨Nat.le_of_ble_eq_true rfl, Nat.le_of_ble_eq_true rfl⟩) (pvW 3 1 hK hP rfl rfl hc_2) rfl rfl hl.1 rfl (lv_room (Nat.le_of_ble_eq_true rfl)) dX4_turn_8 ⟨Nat.le_of_ble_eq_true rfl, Nat.le_of_ble_eq_true rfl⟩) hS (fun q _ h => hc_2.2.2 q h) hc_2.2.2 (fun u_2 t_2 H1 locs ht hvm h_2 hB hz1 hk1 hS => ?_)
  refine xl_1_3 hB (fun v3n_2 hP1 hD1 hF_2_0 => ?_)
  clear hB
  rw [ht] at hP1
  obtain ⟨hP, hD⟩ := va_join (wr := [(xo_4_rri p0 h k0 (nI hrs))]) (w1 := [(xo_3_iiiiiiiirrrrr h v0 v1 v2 v3n_2 (nI hh) v5 (nI ww) (nI kk) b1 b2 b3 b4 b5), (xI b1 cI 6 g1), (xI b2 cI 6 g2), (xI b3 cI 6 g3), (xI b4 cI 6 g4), (xI b5 cI 6 g5)]) hP hD [1, 2, 3, 4, 5, 6] [0] rfl rfl (by decide +kernel) (by decide +kernel) hk1 hc_2.2.2 hP1 hD1
  generalize H1 = H at hP hS ⊢
  have hP : va_P (dC, dI) vwCl [(xo_4_rri p0 h k0 (nI hrs)), (xo_3_iiiiiiiirrrrr h v0 v1 v2 v3n_2 (nI hh) v5 (nI ww) (nI kk) b1 b2 b3 b4 b5), (xI b1 cI 6 g1), (xI b2 cI 6 g2), (xI b3 cI 6 g3), (xI b4 cI 6 g4), (xI b5 cI 6 g5)] H := hP
  have hD := dto hP hD
  refine lv_goto (tgt := 21) hx hb dX4_turn_11 (by decide) ?_
  have hX9 := cut2 (wc := [(xo_4_rri p0 h k0 (nI hrs)), (xo_3_iiiiiiiirrrrr h v0 v1 v2 v3n_2 (nI hh) v5 (nI ww) (nI kk) b1 b2 b3 b4 b5), (xI b1 cI 6 g1), (xI b2 cI 6 g2), (xI b3 cI 6 g3), (xI b4 cI 6 g4), (xI b5 cI 6 g5)]) hP hD [0, 1, 2, 3, 4, 5, 6] (by decide +kernel) rfl
  exact W.vret hx hb hr (fun t ht hW => ⟨⟨(), rfl, trivial, ⟨v3n_2, va_Ht ht hX9.1, hX9.2, (lf_X4_tn_1_1 hr20 hhb hww hkk hF_2_0)⟩⟩, hS.F ht⟩) hS.2.2 dX4_turn_21
theorem lf_X4_tn_0_1 {hrs : Nat} {hh : Nat} {ww : Nat} {kk : Nat} {g1 : Nat → Int32} {g1n_2 : Nat → Int32} (hr20 : hrs ≤ 20) (hhb : hh ≤ 999) (hww : ww ≤ 6) (hkk : kk ≤ 6) (hF_2_0 : g1n_2 = twX g1 ww hh) : g1n_2 = twX g1 ww hh := by
  assumption
set_option maxHeartbeats 4000000 in
set_option maxRecDepth 100000 in
theorem r_X4_tn_0 (l : Launch) (dC : Nat → ClassId) (dI : Nat → Nat → Nat) (cI cZ cL cJ : ClassId) (sz : Nat) (p0 : Nat) (hrs : Nat) (h : Nat) (v0 : Int32) (v1 : Int32) (v2 : Int32) (v3 : Int32) (v5 : Int32) (hh : Nat) (ww : Nat) (kk : Nat) (b1 : Nat) (b2 : Nat) (b3 : Nat) (b4 : Nat) (b5 : Nat) (g1 : Nat → Int32) (g2 : Nat → Int32) (g3 : Nat → Int32) (g4 : Nat → Int32) (g5 : Nat → Int32) (k0 : Nat) (hr20 : hrs ≤ 20) (hhb : hh ≤ 999) (hww : ww ≤ 6) (hkk : kk ≤ 6) : Met l yX4_turn wsX4_turn ({ frames := 1, cells := 0, slots := 0, locals := 21 }) (va_Pc [.ref p0, .int 0] (fun U => U.heap.size = sz ∧ va_P (dC, dI) vwCl [(xo_4_rri p0 h k0 (nI hrs)), (xo_3_iiiiiiiirrrrr h v0 v1 v2 v3 (nI hh) v5 (nI ww) (nI kk) b1 b2 b3 b4 b5), (xI b1 cI 6 g1), (xI b2 cI 6 g2), (xI b3 cI 6 g3), (xI b4 cI 6 g4), (xI b5 cI 6 g5)] U.heap ∧ va_K (dC, dI) vwCl [(cI, .int), (cZ, .boolean), (cL, .object RX3), (cJ, .array .int)] U ∧ va_D (fun _ => True) [(xo_4_rri p0 h k0 (nI hrs)), (xo_3_iiiiiiiirrrrr h v0 v1 v2 v3 (nI hh) v5 (nI ww) (nI kk) b1 b2 b3 b4 b5), (xI b1 cI 6 g1), (xI b2 cI 6 g2), (xI b3 cI 6 g3), (xI b4 cI 6 g4), (xI b5 cI 6 g5)])) (va_Qv (fun (_ : Unit) => True) (fun (_ : Unit) t => ∃ (g1n : Nat → Int32), va_P (dC, dI) vwCl [(xo_4_rri p0 h k0 (nI hrs)), (xo_3_iiiiiiiirrrrr h v0 v1 v2 v3 (nI hh) v5 (nI ww) (nI kk) b1 b2 b3 b4 b5), (xI b1 cI 6 g1n), (xI b2 cI 6 g2), (xI b3 cI 6 g3), (xI b4 cI 6 g4), (xI b5 cI 6 g5)] t.heap ∧ va_D (va_A [(xo_4_rri p0 h k0 (nI hrs)), (xo_3_iiiiiiiirrrrr h v0 v1 v2 v3 (nI hh) v5 (nI ww) (nI kk) b1 b2 b3 b4 b5), (xI b1 cI 6 g1), (xI b2 cI 6 g2), (xI b3 cI 6 g3), (xI b4 cI 6 g4), (xI b5 cI 6 g5)] sz) [(xo_4_rri p0 h k0 (nI hrs)), (xo_3_iiiiiiiirrrrr h v0 v1 v2 v3 (nI hh) v5 (nI ww) (nI kk) b1 b2 b3 b4 b5), (xI b1 cI 6 g1n), (xI b2 cI 6 g2), (xI b3 cI 6 g3), (xI b4 cI 6 g4), (xI b5 cI 6 g5)] ∧ g1n = twX g1 ww hh) (va_A [(xo_4_rri p0 h k0 (nI hrs)), (xo_3_iiiiiiiirrrrr h v0 v1 v2 v3 (nI hh) v5 (nI ww) (nI kk) b1 b2 b3 b4 b5), (xI b1 cI 6 g1), (xI b2 cI 6 g2), (xI b3 cI 6 g3), (xI b4 cI 6 g4), (xI b5 cI 6 g5)] sz)) 0 0 (va_A [(xo_4_rri p0 h k0 (nI hrs)), (xo_3_iiiiiiiirrrrr h v0 v1 v2 v3 (nI hh) v5 (nI ww) (nI kk) b1 b2 b3 b4 b5), (xI b1 cI 6 g1), (xI b2 cI 6 g2), (xI b3 cI 6 g3), (xI b4 cI 6 g4), (xI b5 cI 6 g5)] sz) := by
  refine Met.ofW (cc := cX4_turn) (maxL := 2) (ret := none) (by decide) rfl ?_
  intro p e s m args below meth c s₁ B hml hv
  obtain ⟨rfl, hsz, hP, hK, hD0⟩ := hv
  have hx := B.exec
  have hb := B.bytes
  have hr := B.returns
  have hts := atoms_spec (ws := wsX4_turn) B.pre
  have hown : s.vm.findClass RX4 = some m.cls := findClass_of_methodNamed B.named
  have hlocks := B.notSynchronized
  subst hsz
  have hD := hD0.self (sz := s.heap.size)
  generalize hAe : va_A [(xo_4_rri p0 h k0 (nI hrs)), (xo_3_iiiiiiiirrrrr h v0 v1 v2 v3 (nI hh) v5 (nI ww) (nI kk) b1 b2 b3 b4 b5), (xI b1 cI 6 g1), (xI b2 cI 6 g2), (xI b3 cI 6 g3), (xI b4 cI 6 g4), (xI b5 cI 6 g5)] s.heap.size = A at hD ⊢
  have hA : ∀ q : Nat, s.heap.size ≤ q → A q := fun q h => by rw [← hAe]; exact Or.inr h
  have hS : va_S A s.heap s.heap [] := va_S.rf
  have hP : va_P (dC, dI) vwCl [(xo_4_rri p0 h k0 (nI hrs)), (xo_3_iiiiiiiirrrrr h v0 v1 v2 v3 (nI hh) v5 (nI ww) (nI kk) b1 b2 b3 b4 b5), (xI b1 cI 6 g1), (xI b2 cI 6 g2), (xI b3 cI 6 g3), (xI b4 cI 6 g4), (xI b5 cI 6 g5)] s.heap := hP
  have hl := lv_entry ([.ref p0, .int 0]) (n := 2) (Nat.le_of_ble_eq_true rfl)
  rw [lg_entry_eq]
  generalize (lg_sl ([.ref p0, .int 0]) ++ List.replicate (2 - (lg_sl ([.ref p0, .int 0])).length) Slot.unset).toArray = ls at hl ⊢
  have hl : lv_has ls 2 [(0, .ref p0), (1, .int 0)] := hl
  refine lv_iload_n hx hb dX4_turn_0 rfl (lv_at hl 1 rfl) ?_
  refine lv_if_eq (tgt := 14) hx hb dX4_turn_1 (by decide) (fun _ => ?_) (fun c_ => absurd (by decide) c_)
  refine lv_aload_n hx hb dX4_turn_14 rfl (lv_at hl 0 rfl) ?_
  refine va_get (D := (dC, dI)) (ci := 4) (v := .ref h) (C := RX4) (T := TX4) (N := 3) hx hb hts i_X4_turn_X4 hown hK hP 0 rfl rfl 0 (by decide) (hts _ mx_X4_turn_1) (fun _ h9 => h9) rfl dX4_turn_15 ?_
  have hc_2 := cutW (wc := [(xo_3_iiiiiiiirrrrr h v0 v1 v2 v3 (nI hh) v5 (nI ww) (nI kk) b1 b2 b3 b4 b5), (xI b1 cI 6 g1), (xI b2 cI 6 g2), (xI b3 cI 6 g3), (xI b4 cI 6 g4), (xI b5 cI 6 g5)]) hP hD hS hA [1, 2, 3, 4, 5, 6] (by decide +kernel) rfl
  refine va_callv (va_runV (As := []) (rest := []) ⟨hx, hb, hml, hown, hts⟩ (r_X3_turnWind l dC dI cI cZ cL cJ s.heap.size h v0 v1 v2 v3 v5 hh ww kk b1 b2 b3 b4 b5 g1 g2 g3 g4 g5 (by omega) (hww) (hkk)) (cwV 0 hts gX4_turn_X3_turnWind rfl rfl rfl (by decide +kernel) ⟨Nat.le_of_ble_eq_true rfl, Nat.le_of_ble_eq_true rfl⟩) (pvW 3 1 hK hP rfl rfl hc_2) rfl rfl hl.1 rfl (lv_room (Nat.le_of_ble_eq_true rfl)) dX4_turn_18 ⟨Nat.le_of_ble_eq_true rfl, Nat.le_of_ble_eq_true rfl⟩) hS (fun q _ h => hc_2.2.2 q h) hc_2.2.2 (fun u_2 t_2 H1 locs ht hvm h_2 hB hz1 hk1 hS => ?_)
  refine xl_1_3 hB (fun g1n_2 hP1 hD1 hF_2_0 => ?_)
  clear hB
  rw [ht] at hP1
  obtain ⟨hP, hD⟩ := va_join (wr := [(xo_4_rri p0 h k0 (nI hrs))]) (w1 := [(xo_3_iiiiiiiirrrrr h v0 v1 v2 v3 (nI hh) v5 (nI ww) (nI kk) b1 b2 b3 b4 b5), (xI b1 cI 6 g1n_2), (xI b2 cI 6 g2), (xI b3 cI 6 g3), (xI b4 cI 6 g4), (xI b5 cI 6 g5)]) hP hD [1, 2, 3, 4, 5, 6] [0] rfl rfl (by decide +kernel) (by decide +kernel) hk1 hc_2.2.2 hP1 hD1
  generalize H1 = H at hP hS ⊢
  have hP : va_P (dC, dI) vwCl [(xo_4_rri p0 h k0 (nI hrs)), (xo_3_iiiiiiiirrrrr h v0 v1 v2 v3 (nI hh) v5 (nI ww) (nI kk) b1 b2 b3 b4 b5), (xI b1 cI 6 g1n_2), (xI b2 cI 6 g2), (xI b3 cI 6 g3), (xI b4 cI 6 g4), (xI b5 cI 6 g5)] H := hP
  have hD := dto hP hD
  have hX9 := cut2 (wc := [(xo_4_rri p0 h k0 (nI hrs)), (xo_3_iiiiiiiirrrrr h v0 v1 v2 v3 (nI hh) v5 (nI ww) (nI kk) b1 b2 b3 b4 b5), (xI b1 cI 6 g1n_2), (xI b2 cI 6 g2), (xI b3 cI 6 g3), (xI b4 cI 6 g4), (xI b5 cI 6 g5)]) hP hD [0, 1, 2, 3, 4, 5, 6] (by decide +kernel) rfl
  exact W.vret hx hb hr (fun t ht hW => ⟨⟨(), rfl, trivial, ⟨g1n_2, va_Ht ht hX9.1, hX9.2, (lf_X4_tn_0_1 hr20 hhb hww hkk hF_2_0)⟩⟩, hS.F ht⟩) hS.2.2 dX4_turn_21
theorem lf_X4_bf_0_0_1 {hrs : Nat} {v0 : Int32} {v1 : Int32} {v2 : Int32} {v3 : Int32} {v5 : Int32} {hh : Nat} {ww : Nat} {kk : Nat} {g1 : Nat → Int32} {g2 : Nat → Int32} {g3 : Nat → Int32} {g4 : Nat → Int32} {g5 : Nat → Int32} {f1n_2 : Nat → Int32} {f2n_2 : Nat → Int32} {f3n_2 : Nat → Int32} {f4n_2 : Nat → Int32} {f5n_2 : Nat → Int32} {v5n_3 : Int32} {g3n_3 : Nat → Int32} {g4n_3 : Nat → Int32} {g5n_3 : Nat → Int32} {r_3 : Int32} (hr20 : hrs ≤ 20) (hhb : hh ≤ 999) (hww : ww ≤ 6) (hkk : kk ≤ 6) (hN : okN 999 (nrm v0 v1 v2 v3 hh v5 ww kk g1 g2 g3 g4 g5)) (hF_2_0 : (∀ jq : Nat, jq < 6 → f1n_2 jq = g1 jq)) (hF_2_1 : (∀ jq : Nat, jq < 6 → f2n_2 jq = g2 jq)) (hF_2_2 : (∀ jq : Nat, jq < 6 → f3n_2 jq = g3 jq)) (hF_2_3 : (∀ jq : Nat, jq < 6 → f4n_2 jq = g4 jq)) (hF_2_4 : (∀ jq : Nat, jq < 6 → f5n_2 jq = g5 jq)) (hF_3_0 : pmX v0 v1 v2 v3 f1n_2 ww hh kk f2n_2 hrs (v5, f3n_2, f4n_2, f5n_2) = (v5n_3, g3n_3, g4n_3, g5n_3)) (h_3 : r_3 = ((pmX v0 v1 v2 v3 f1n_2 ww hh kk f2n_2 hrs (v5, f3n_2, f4n_2, f5n_2)).1)) : v3 = v3 := by
  first
  | exact bt_0 hN hhb hww hkk (by omega) hF_2_0 hF_2_1 hF_2_2 hF_2_3 hF_2_4 h_3
  | rfl
theorem lf_X4_bf_0_0_2 {hrs : Nat} {v0 : Int32} {v1 : Int32} {v2 : Int32} {v3 : Int32} {v5 : Int32} {hh : Nat} {ww : Nat} {kk : Nat} {g1 : Nat → Int32} {g2 : Nat → Int32} {g3 : Nat → Int32} {g4 : Nat → Int32} {g5 : Nat → Int32} {f1n_2 : Nat → Int32} {f2n_2 : Nat → Int32} {f3n_2 : Nat → Int32} {f4n_2 : Nat → Int32} {f5n_2 : Nat → Int32} {v5n_3 : Int32} {g3n_3 : Nat → Int32} {g4n_3 : Nat → Int32} {g5n_3 : Nat → Int32} {r_3 : Int32} (hr20 : hrs ≤ 20) (hhb : hh ≤ 999) (hww : ww ≤ 6) (hkk : kk ≤ 6) (hN : okN 999 (nrm v0 v1 v2 v3 hh v5 ww kk g1 g2 g3 g4 g5)) (hF_2_0 : (∀ jq : Nat, jq < 6 → f1n_2 jq = g1 jq)) (hF_2_1 : (∀ jq : Nat, jq < 6 → f2n_2 jq = g2 jq)) (hF_2_2 : (∀ jq : Nat, jq < 6 → f3n_2 jq = g3 jq)) (hF_2_3 : (∀ jq : Nat, jq < 6 → f4n_2 jq = g4 jq)) (hF_2_4 : (∀ jq : Nat, jq < 6 → f5n_2 jq = g5 jq)) (hF_3_0 : pmX v0 v1 v2 v3 f1n_2 ww hh kk f2n_2 hrs (v5, f3n_2, f4n_2, f5n_2) = (v5n_3, g3n_3, g4n_3, g5n_3)) (h_3 : r_3 = ((pmX v0 v1 v2 v3 f1n_2 ww hh kk f2n_2 hrs (v5, f3n_2, f4n_2, f5n_2)).1)) : g1 = g1 := by
  first
  | exact bt_0 hN hhb hww hkk (by omega) hF_2_0 hF_2_1 hF_2_2 hF_2_3 hF_2_4 h_3
  | rfl
theorem lf_X4_bf_0_0_3 {hrs : Nat} {v0 : Int32} {v1 : Int32} {v2 : Int32} {v3 : Int32} {v5 : Int32} {hh : Nat} {ww : Nat} {kk : Nat} {g1 : Nat → Int32} {g2 : Nat → Int32} {g3 : Nat → Int32} {g4 : Nat → Int32} {g5 : Nat → Int32} {f1n_2 : Nat → Int32} {f2n_2 : Nat → Int32} {f3n_2 : Nat → Int32} {f4n_2 : Nat → Int32} {f5n_2 : Nat → Int32} {v5n_3 : Int32} {g3n_3 : Nat → Int32} {g4n_3 : Nat → Int32} {g5n_3 : Nat → Int32} {r_3 : Int32} (hr20 : hrs ≤ 20) (hhb : hh ≤ 999) (hww : ww ≤ 6) (hkk : kk ≤ 6) (hN : okN 999 (nrm v0 v1 v2 v3 hh v5 ww kk g1 g2 g3 g4 g5)) (hF_2_0 : (∀ jq : Nat, jq < 6 → f1n_2 jq = g1 jq)) (hF_2_1 : (∀ jq : Nat, jq < 6 → f2n_2 jq = g2 jq)) (hF_2_2 : (∀ jq : Nat, jq < 6 → f3n_2 jq = g3 jq)) (hF_2_3 : (∀ jq : Nat, jq < 6 → f4n_2 jq = g4 jq)) (hF_2_4 : (∀ jq : Nat, jq < 6 → f5n_2 jq = g5 jq)) (hF_3_0 : pmX v0 v1 v2 v3 f1n_2 ww hh kk f2n_2 hrs (v5, f3n_2, f4n_2, f5n_2) = (v5n_3, g3n_3, g4n_3, g5n_3)) (h_3 : r_3 = ((pmX v0 v1 v2 v3 f1n_2 ww hh kk f2n_2 hrs (v5, f3n_2, f4n_2, f5n_2)).1)) : r_3 = (btV hrs 0 false (nrm v0 v1 v2 v3 hh v5 ww kk g1 g2 g3 g4 g5)) := by
  first
  | exact bt_0 hN hhb hww hkk (by omega) hF_2_0 hF_2_1 hF_2_2 hF_2_3 hF_2_4 h_3
  | rfl
set_option maxHeartbeats 4000000 in
set_option maxRecDepth 100000 in
theorem r_X4_bf_0_0 (l : Launch) (dC : Nat → ClassId) (dI : Nat → Nat → Nat) (cI cZ cL cJ : ClassId) (sz : Nat) (p0 : Nat) (hrs : Nat) (h : Nat) (v0 : Int32) (v1 : Int32) (v2 : Int32) (v3 : Int32) (v5 : Int32) (hh : Nat) (ww : Nat) (kk : Nat) (b1 : Nat) (b2 : Nat) (b3 : Nat) (b4 : Nat) (b5 : Nat) (g1 : Nat → Int32) (g2 : Nat → Int32) (g3 : Nat → Int32) (g4 : Nat → Int32) (g5 : Nat → Int32) (k0 : Nat) (u0 : Int32) (u1 : Int32) (u2 : Int32) (u3 : Int32) (u4 : Int32) (u5 : Int32) (u6 : Int32) (u7 : Int32) (o1 : Nat) (o2 : Nat) (o3 : Nat) (o4 : Nat) (o5 : Nat) (f1 : Nat → Int32) (f2 : Nat → Int32) (f3 : Nat → Int32) (f4 : Nat → Int32) (f5 : Nat → Int32) (hr20 : hrs ≤ 20) (hhb : hh ≤ 999) (hww : ww ≤ 6) (hkk : kk ≤ 6) (hN : okN 999 (nrm v0 v1 v2 v3 hh v5 ww kk g1 g2 g3 g4 g5)) : Met l yX4_bestFor wsX4_bestFor ({ frames := 5, cells := 0, slots := 0, locals := 110 }) (va_Pc [.ref p0, .int 0, .int 0] (fun U => U.heap.size = sz ∧ va_P (dC, dI) vwCl [(xo_4_rri p0 h k0 (nI hrs)), (xo_3_iiiiiiiirrrrr h v0 v1 v2 v3 (nI hh) v5 (nI ww) (nI kk) b1 b2 b3 b4 b5), (xI b1 cI 6 g1), (xI b2 cI 6 g2), (xI b3 cI 6 g3), (xI b4 cI 6 g4), (xI b5 cI 6 g5), (xo_3_iiiiiiiirrrrr k0 u0 u1 u2 u3 u4 u5 u6 u7 o1 o2 o3 o4 o5), (xI o1 cI 6 f1), (xI o2 cI 6 f2), (xI o3 cI 6 f3), (xI o4 cI 6 f4), (xI o5 cI 6 f5)] U.heap ∧ va_K (dC, dI) vwCl [(cI, .int), (cZ, .boolean), (cL, .object RX3), (cJ, .array .int)] U ∧ va_D (fun _ => True) [(xo_4_rri p0 h k0 (nI hrs)), (xo_3_iiiiiiiirrrrr h v0 v1 v2 v3 (nI hh) v5 (nI ww) (nI kk) b1 b2 b3 b4 b5), (xI b1 cI 6 g1), (xI b2 cI 6 g2), (xI b3 cI 6 g3), (xI b4 cI 6 g4), (xI b5 cI 6 g5), (xo_3_iiiiiiiirrrrr k0 u0 u1 u2 u3 u4 u5 u6 u7 o1 o2 o3 o4 o5), (xI o1 cI 6 f1), (xI o2 cI 6 f2), (xI o3 cI 6 f3), (xI o4 cI 6 f4), (xI o5 cI 6 f5)])) (va_Qi (fun r (_ : Unit) => r = (btV hrs 0 false (nrm v0 v1 v2 v3 hh v5 ww kk g1 g2 g3 g4 g5))) (fun (_ : Unit) t => ∃ (v3n : Int32) (u0n : Int32) (u1n : Int32) (u2n : Int32) (u3n : Int32) (u4n : Int32) (u5n : Int32) (u6n : Int32) (u7n : Int32) (g1n : Nat → Int32) (f1n : Nat → Int32) (f2n : Nat → Int32) (f3n : Nat → Int32) (f4n : Nat → Int32) (f5n : Nat → Int32), va_P (dC, dI) vwCl [(xo_4_rri p0 h k0 (nI hrs)), (xo_3_iiiiiiiirrrrr h v0 v1 v2 v3n (nI hh) v5 (nI ww) (nI kk) b1 b2 b3 b4 b5), (xI b1 cI 6 g1n), (xI b2 cI 6 g2), (xI b3 cI 6 g3), (xI b4 cI 6 g4), (xI b5 cI 6 g5), (xo_3_iiiiiiiirrrrr k0 u0n u1n u2n u3n u4n u5n u6n u7n o1 o2 o3 o4 o5), (xI o1 cI 6 f1n), (xI o2 cI 6 f2n), (xI o3 cI 6 f3n), (xI o4 cI 6 f4n), (xI o5 cI 6 f5n)] t.heap ∧ va_D (va_A [(xo_4_rri p0 h k0 (nI hrs)), (xo_3_iiiiiiiirrrrr h v0 v1 v2 v3 (nI hh) v5 (nI ww) (nI kk) b1 b2 b3 b4 b5), (xI b1 cI 6 g1), (xI b2 cI 6 g2), (xI b3 cI 6 g3), (xI b4 cI 6 g4), (xI b5 cI 6 g5), (xo_3_iiiiiiiirrrrr k0 u0 u1 u2 u3 u4 u5 u6 u7 o1 o2 o3 o4 o5), (xI o1 cI 6 f1), (xI o2 cI 6 f2), (xI o3 cI 6 f3), (xI o4 cI 6 f4), (xI o5 cI 6 f5)] sz) [(xo_4_rri p0 h k0 (nI hrs)), (xo_3_iiiiiiiirrrrr h v0 v1 v2 v3n (nI hh) v5 (nI ww) (nI kk) b1 b2 b3 b4 b5), (xI b1 cI 6 g1n), (xI b2 cI 6 g2), (xI b3 cI 6 g3), (xI b4 cI 6 g4), (xI b5 cI 6 g5), (xo_3_iiiiiiiirrrrr k0 u0n u1n u2n u3n u4n u5n u6n u7n o1 o2 o3 o4 o5), (xI o1 cI 6 f1n), (xI o2 cI 6 f2n), (xI o3 cI 6 f3n), (xI o4 cI 6 f4n), (xI o5 cI 6 f5n)] ∧ v3n = v3 ∧ g1n = g1) (va_A [(xo_4_rri p0 h k0 (nI hrs)), (xo_3_iiiiiiiirrrrr h v0 v1 v2 v3 (nI hh) v5 (nI ww) (nI kk) b1 b2 b3 b4 b5), (xI b1 cI 6 g1), (xI b2 cI 6 g2), (xI b3 cI 6 g3), (xI b4 cI 6 g4), (xI b5 cI 6 g5), (xo_3_iiiiiiiirrrrr k0 u0 u1 u2 u3 u4 u5 u6 u7 o1 o2 o3 o4 o5), (xI o1 cI 6 f1), (xI o2 cI 6 f2), (xI o3 cI 6 f3), (xI o4 cI 6 f4), (xI o5 cI 6 f5)] sz)) 0 0 (va_A [(xo_4_rri p0 h k0 (nI hrs)), (xo_3_iiiiiiiirrrrr h v0 v1 v2 v3 (nI hh) v5 (nI ww) (nI kk) b1 b2 b3 b4 b5), (xI b1 cI 6 g1), (xI b2 cI 6 g2), (xI b3 cI 6 g3), (xI b4 cI 6 g4), (xI b5 cI 6 g5), (xo_3_iiiiiiiirrrrr k0 u0 u1 u2 u3 u4 u5 u6 u7 o1 o2 o3 o4 o5), (xI o1 cI 6 f1), (xI o2 cI 6 f2), (xI o3 cI 6 f3), (xI o4 cI 6 f4), (xI o5 cI 6 f5)] sz) := by
  refine Met.ofW (cc := cX4_bestFor) (maxL := 5) (ret := (some .int)) (by decide) rfl ?_
  intro p e s m args below meth c s₁ B hml hv
  obtain ⟨rfl, hsz, hP, hK, hD0⟩ := hv
  have hx := B.exec
  have hb := B.bytes
  have hr := B.returns
  have hts := atoms_spec (ws := wsX4_bestFor) B.pre
  have hown : s.vm.findClass RX4 = some m.cls := findClass_of_methodNamed B.named
  have hlocks := B.notSynchronized
  subst hsz
  have hD := hD0.self (sz := s.heap.size)
  generalize hAe : va_A [(xo_4_rri p0 h k0 (nI hrs)), (xo_3_iiiiiiiirrrrr h v0 v1 v2 v3 (nI hh) v5 (nI ww) (nI kk) b1 b2 b3 b4 b5), (xI b1 cI 6 g1), (xI b2 cI 6 g2), (xI b3 cI 6 g3), (xI b4 cI 6 g4), (xI b5 cI 6 g5), (xo_3_iiiiiiiirrrrr k0 u0 u1 u2 u3 u4 u5 u6 u7 o1 o2 o3 o4 o5), (xI o1 cI 6 f1), (xI o2 cI 6 f2), (xI o3 cI 6 f3), (xI o4 cI 6 f4), (xI o5 cI 6 f5)] s.heap.size = A at hD ⊢
  have hA : ∀ q : Nat, s.heap.size ≤ q → A q := fun q h => by rw [← hAe]; exact Or.inr h
  have hS : va_S A s.heap s.heap [] := va_S.rf
  have hP : va_P (dC, dI) vwCl [(xo_4_rri p0 h k0 (nI hrs)), (xo_3_iiiiiiiirrrrr h v0 v1 v2 v3 (nI hh) v5 (nI ww) (nI kk) b1 b2 b3 b4 b5), (xI b1 cI 6 g1), (xI b2 cI 6 g2), (xI b3 cI 6 g3), (xI b4 cI 6 g4), (xI b5 cI 6 g5), (xo_3_iiiiiiiirrrrr k0 u0 u1 u2 u3 u4 u5 u6 u7 o1 o2 o3 o4 o5), (xI o1 cI 6 f1), (xI o2 cI 6 f2), (xI o3 cI 6 f3), (xI o4 cI 6 f4), (xI o5 cI 6 f5)] s.heap := hP
  have hl := lv_entry ([.ref p0, .int 0, .int 0]) (n := 5) (Nat.le_of_ble_eq_true rfl)
  rw [lg_entry_eq]
  generalize (lg_sl ([.ref p0, .int 0, .int 0]) ++ List.replicate (5 - (lg_sl ([.ref p0, .int 0, .int 0])).length) Slot.unset).toArray = ls at hl ⊢
  have hl : lv_has ls 5 [(0, .ref p0), (1, .int 0), (2, .int 0)] := hl
  refine lv_iload_n hx hb dX4_bestFor_0 rfl (lv_at hl 2 rfl) ?_
  refine lv_if_gt (tgt := 27) hx hb dX4_bestFor_1 (by decide) (fun c_ => absurd c_ (by decide)) (fun _ => ?_)
  refine lv_aload_n hx hb dX4_bestFor_4 rfl (lv_at hl 0 rfl) ?_
  refine va_get (D := (dC, dI)) (ci := 4) (v := .ref k0) (C := RX4) (T := TX4) (N := 3) hx hb hts i_X4_bestFor_X4 hown hK hP 0 rfl rfl 1 (by decide) (hts _ mx_X4_bestFor_1) (fun _ h9 => h9) rfl dX4_bestFor_5 ?_
  refine lv_aload_n hx hb dX4_bestFor_8 rfl (lv_at hl 0 rfl) ?_
  refine va_get (D := (dC, dI)) (ci := 4) (v := .ref h) (C := RX4) (T := TX4) (N := 3) hx hb hts i_X4_bestFor_X4 hown hK hP 0 rfl rfl 0 (by decide) (hts _ mx_X4_bestFor_2) (fun _ h9 => h9) rfl dX4_bestFor_9 ?_
  have hc_2 := cutW (wc := [(xo_3_iiiiiiiirrrrr k0 u0 u1 u2 u3 u4 u5 u6 u7 o1 o2 o3 o4 o5), (xI o1 cI 6 f1), (xI o2 cI 6 f2), (xI o3 cI 6 f3), (xI o4 cI 6 f4), (xI o5 cI 6 f5), (xo_3_iiiiiiiirrrrr h v0 v1 v2 v3 (nI hh) v5 (nI ww) (nI kk) b1 b2 b3 b4 b5), (xI b1 cI 6 g1), (xI b2 cI 6 g2), (xI b3 cI 6 g3), (xI b4 cI 6 g4), (xI b5 cI 6 g5)]) hP hD hS hA [7, 8, 9, 10, 11, 12, 1, 2, 3, 4, 5, 6] (by decide +kernel) rfl
  refine va_callv (va_runV (As := [.ref h]) (rest := []) ⟨hx, hb, hml, hown, hts⟩ (r_X3_becomeLike l dC dI cI cZ cL cJ s.heap.size k0 u0 u1 u2 u3 u4 u5 u6 u7 o1 o2 o3 o4 o5 f1 f2 f3 f4 f5 h v0 v1 v2 v3 (nI hh) v5 (nI ww) (nI kk) b1 b2 b3 b4 b5 g1 g2 g3 g4 g5 ) (cwV 1 hts gX4_bestFor_X3_becomeLike rfl rfl rfl (by decide +kernel) ⟨Nat.le_of_ble_eq_true rfl, Nat.le_of_ble_eq_true rfl⟩) (pvW 3 7 hK hP rfl rfl hc_2) rfl rfl hl.1 rfl (lv_room (Nat.le_of_ble_eq_true rfl)) dX4_bestFor_12 ⟨Nat.le_of_ble_eq_true rfl, Nat.le_of_ble_eq_true rfl⟩) hS (fun q _ h => hc_2.2.2 q h) hc_2.2.2 (fun u_2 t_2 H1 locs ht hvm h_2 hB hz1 hk1 hS => ?_)
  refine xl_5_7 hB (fun f1n_2 f2n_2 f3n_2 f4n_2 f5n_2 hP1 hD1 hF_2_0 hF_2_1 hF_2_2 hF_2_3 hF_2_4 => ?_)
  clear hB
  rw [ht] at hP1
  obtain ⟨hP, hD⟩ := va_join (wr := [(xo_4_rri p0 h k0 (nI hrs))]) (w1 := [(xo_3_iiiiiiiirrrrr k0 v0 v1 v2 v3 (nI hh) v5 (nI ww) (nI kk) o1 o2 o3 o4 o5), (xI o1 cI 6 f1n_2), (xI o2 cI 6 f2n_2), (xI o3 cI 6 f3n_2), (xI o4 cI 6 f4n_2), (xI o5 cI 6 f5n_2), (xo_3_iiiiiiiirrrrr h v0 v1 v2 v3 (nI hh) v5 (nI ww) (nI kk) b1 b2 b3 b4 b5), (xI b1 cI 6 g1), (xI b2 cI 6 g2), (xI b3 cI 6 g3), (xI b4 cI 6 g4), (xI b5 cI 6 g5)]) hP hD [7, 8, 9, 10, 11, 12, 1, 2, 3, 4, 5, 6] [0] rfl rfl (by decide +kernel) (by decide +kernel) hk1 hc_2.2.2 hP1 hD1
  generalize H1 = H at hP hS ⊢
  have hP : va_P (dC, dI) vwCl [(xo_4_rri p0 h k0 (nI hrs)), (xo_3_iiiiiiiirrrrr k0 v0 v1 v2 v3 (nI hh) v5 (nI ww) (nI kk) o1 o2 o3 o4 o5), (xI o1 cI 6 f1n_2), (xI o2 cI 6 f2n_2), (xI o3 cI 6 f3n_2), (xI o4 cI 6 f4n_2), (xI o5 cI 6 f5n_2), (xo_3_iiiiiiiirrrrr h v0 v1 v2 v3 (nI hh) v5 (nI ww) (nI kk) b1 b2 b3 b4 b5), (xI b1 cI 6 g1), (xI b2 cI 6 g2), (xI b3 cI 6 g3), (xI b4 cI 6 g4), (xI b5 cI 6 g5)] H := hP
  have hD := dto hP hD
  refine lv_aload_n hx hb dX4_bestFor_15 rfl (lv_at hl 0 rfl) ?_
  refine va_get (D := (dC, dI)) (ci := 4) (v := .ref k0) (C := RX4) (T := TX4) (N := 3) hx hb hts i_X4_bestFor_X4 hown hK hP 0 rfl rfl 1 (by decide) (hts _ mx_X4_bestFor_1) (fun _ h9 => h9) rfl dX4_bestFor_16 ?_
  refine lv_aload_n hx hb dX4_bestFor_19 rfl (lv_at hl 0 rfl) ?_
  refine va_get (D := (dC, dI)) (ci := 4) (v := .int (nI hrs)) (C := RX4) (T := TX4) (N := 3) hx hb hts i_X4_bestFor_X4 hown hK hP 0 rfl rfl 2 (by decide) (hts _ mx_X4_bestFor_3) (fun _ h9 => h9) rfl dX4_bestFor_20 ?_
  have hc_3 := cutW (wc := [(xo_3_iiiiiiiirrrrr k0 v0 v1 v2 v3 (nI hh) v5 (nI ww) (nI kk) o1 o2 o3 o4 o5), (xI o1 cI 6 f1n_2), (xI o2 cI 6 f2n_2), (xI o3 cI 6 f3n_2), (xI o4 cI 6 f4n_2), (xI o5 cI 6 f5n_2)]) hP hD hS hA [1, 2, 3, 4, 5, 6] (by decide +kernel) rfl
  refine va_calli (va_runV (As := [.int (nI hrs)]) (rest := []) ⟨hx, hb, hml, hown, hts⟩ (r_X3_mealBehind l dC dI cI cZ cL cJ H.size k0 v0 v1 v2 v3 v5 hh ww kk o1 o2 o3 o4 o5 f1n_2 f2n_2 f3n_2 f4n_2 f5n_2 hrs (by omega) (hww) (hkk) (by omega)) (cwV 1 hts gX4_bestFor_X3_mealBehind rfl rfl rfl (by decide +kernel) ⟨Nat.le_of_ble_eq_true rfl, Nat.le_of_ble_eq_true rfl⟩) (pvW 3 1 hK hP rfl rfl hc_3) rfl rfl hl.1 rfl (lv_room (Nat.le_of_ble_eq_true rfl)) dX4_bestFor_23 ⟨Nat.le_of_ble_eq_true rfl, Nat.le_of_ble_eq_true rfl⟩) hS (fun q _ h => hc_3.2.2 q h) hc_3.2.2 (fun r_3 u_3 t_3 H1 locs ht hvm h_3 hB hz1 hk1 hS => ?_)
  refine xl_4_3 hB (fun v5n_3 g3n_3 g4n_3 g5n_3 hP1 hD1 hF_3_0 => ?_)
  clear hB
  rw [ht] at hP1
  obtain ⟨hP, hD⟩ := va_join (wr := [(xo_4_rri p0 h k0 (nI hrs)), (xo_3_iiiiiiiirrrrr h v0 v1 v2 v3 (nI hh) v5 (nI ww) (nI kk) b1 b2 b3 b4 b5), (xI b1 cI 6 g1), (xI b2 cI 6 g2), (xI b3 cI 6 g3), (xI b4 cI 6 g4), (xI b5 cI 6 g5)]) (w1 := [(xo_3_iiiiiiiirrrrr k0 v0 v1 v2 v3 (nI (hh + hrs)) v5n_3 (nI ww) (nI kk) o1 o2 o3 o4 o5), (xI o1 cI 6 f1n_2), (xI o2 cI 6 f2n_2), (xI o3 cI 6 g3n_3), (xI o4 cI 6 g4n_3), (xI o5 cI 6 g5n_3)]) hP hD [1, 2, 3, 4, 5, 6] [0, 7, 8, 9, 10, 11, 12] rfl rfl (by decide +kernel) (by decide +kernel) hk1 hc_3.2.2 hP1 hD1
  generalize H1 = H at hP hS ⊢
  have hP : va_P (dC, dI) vwCl [(xo_4_rri p0 h k0 (nI hrs)), (xo_3_iiiiiiiirrrrr h v0 v1 v2 v3 (nI hh) v5 (nI ww) (nI kk) b1 b2 b3 b4 b5), (xI b1 cI 6 g1), (xI b2 cI 6 g2), (xI b3 cI 6 g3), (xI b4 cI 6 g4), (xI b5 cI 6 g5), (xo_3_iiiiiiiirrrrr k0 v0 v1 v2 v3 (nI (hh + hrs)) v5n_3 (nI ww) (nI kk) o1 o2 o3 o4 o5), (xI o1 cI 6 f1n_2), (xI o2 cI 6 f2n_2), (xI o3 cI 6 g3n_3), (xI o4 cI 6 g4n_3), (xI o5 cI 6 g5n_3)] H := hP
  have hD := dto hP hD
  have hX9 := cut2 (wc := [(xo_4_rri p0 h k0 (nI hrs)), (xo_3_iiiiiiiirrrrr h v0 v1 v2 v3 (nI hh) v5 (nI ww) (nI kk) b1 b2 b3 b4 b5), (xI b1 cI 6 g1), (xI b2 cI 6 g2), (xI b3 cI 6 g3), (xI b4 cI 6 g4), (xI b5 cI 6 g5), (xo_3_iiiiiiiirrrrr k0 v0 v1 v2 v3 (nI (hh + hrs)) v5n_3 (nI ww) (nI kk) o1 o2 o3 o4 o5), (xI o1 cI 6 f1n_2), (xI o2 cI 6 f2n_2), (xI o3 cI 6 g3n_3), (xI o4 cI 6 g4n_3), (xI o5 cI 6 g5n_3)]) hP hD [0, 1, 2, 3, 4, 5, 6, 7, 8, 9, 10, 11, 12] (by decide +kernel) rfl
  exact W.iret (v := r_3) hx hb hr (fun t ht hW => ⟨⟨r_3, (), rfl, (lf_X4_bf_0_0_3 hr20 hhb hww hkk hN hF_2_0 hF_2_1 hF_2_2 hF_2_3 hF_2_4 hF_3_0 h_3), ⟨v3, v0, v1, v2, v3, (nI (hh + hrs)), v5n_3, (nI ww), (nI kk), g1, f1n_2, f2n_2, g3n_3, g4n_3, g5n_3, va_Ht ht hX9.1, hX9.2, (lf_X4_bf_0_0_1 hr20 hhb hww hkk hN hF_2_0 hF_2_1 hF_2_2 hF_2_3 hF_2_4 hF_3_0 h_3), (lf_X4_bf_0_0_2 hr20 hhb hww hkk hN hF_2_0 hF_2_1 hF_2_2 hF_2_3 hF_2_4 hF_3_0 h_3)⟩⟩, hS.F ht⟩) hS.2.2 dX4_bestFor_26
theorem lf_X4_bf_0_1_1 {hrs : Nat} {v0 : Int32} {v1 : Int32} {v2 : Int32} {v3 : Int32} {v5 : Int32} {hh : Nat} {ww : Nat} {kk : Nat} {g1 : Nat → Int32} {g2 : Nat → Int32} {g3 : Nat → Int32} {g4 : Nat → Int32} {g5 : Nat → Int32} {f1n_2 : Nat → Int32} {f2n_2 : Nat → Int32} {f3n_2 : Nat → Int32} {f4n_2 : Nat → Int32} {f5n_2 : Nat → Int32} {v5n_3 : Int32} {g3n_3 : Nat → Int32} {g4n_3 : Nat → Int32} {g5n_3 : Nat → Int32} {r_3 : Int32} (hr20 : hrs ≤ 20) (hhb : hh ≤ 999) (hww : ww ≤ 6) (hkk : kk ≤ 6) (hN : okN 999 (nrm v0 v1 v2 v3 hh v5 ww kk g1 g2 g3 g4 g5)) (hF_2_0 : (∀ jq : Nat, jq < 6 → f1n_2 jq = g1 jq)) (hF_2_1 : (∀ jq : Nat, jq < 6 → f2n_2 jq = g2 jq)) (hF_2_2 : (∀ jq : Nat, jq < 6 → f3n_2 jq = g3 jq)) (hF_2_3 : (∀ jq : Nat, jq < 6 → f4n_2 jq = g4 jq)) (hF_2_4 : (∀ jq : Nat, jq < 6 → f5n_2 jq = g5 jq)) (hF_3_0 : pmX v0 v1 v2 v3 f1n_2 ww hh kk f2n_2 hrs (v5, f3n_2, f4n_2, f5n_2) = (v5n_3, g3n_3, g4n_3, g5n_3)) (h_3 : r_3 = ((pmX v0 v1 v2 v3 f1n_2 ww hh kk f2n_2 hrs (v5, f3n_2, f4n_2, f5n_2)).1)) : v3 = v3 := by
  first
  | exact bt_0 hN hhb hww hkk (by omega) hF_2_0 hF_2_1 hF_2_2 hF_2_3 hF_2_4 h_3
  | rfl
theorem lf_X4_bf_0_1_2 {hrs : Nat} {v0 : Int32} {v1 : Int32} {v2 : Int32} {v3 : Int32} {v5 : Int32} {hh : Nat} {ww : Nat} {kk : Nat} {g1 : Nat → Int32} {g2 : Nat → Int32} {g3 : Nat → Int32} {g4 : Nat → Int32} {g5 : Nat → Int32} {f1n_2 : Nat → Int32} {f2n_2 : Nat → Int32} {f3n_2 : Nat → Int32} {f4n_2 : Nat → Int32} {f5n_2 : Nat → Int32} {v5n_3 : Int32} {g3n_3 : Nat → Int32} {g4n_3 : Nat → Int32} {g5n_3 : Nat → Int32} {r_3 : Int32} (hr20 : hrs ≤ 20) (hhb : hh ≤ 999) (hww : ww ≤ 6) (hkk : kk ≤ 6) (hN : okN 999 (nrm v0 v1 v2 v3 hh v5 ww kk g1 g2 g3 g4 g5)) (hF_2_0 : (∀ jq : Nat, jq < 6 → f1n_2 jq = g1 jq)) (hF_2_1 : (∀ jq : Nat, jq < 6 → f2n_2 jq = g2 jq)) (hF_2_2 : (∀ jq : Nat, jq < 6 → f3n_2 jq = g3 jq)) (hF_2_3 : (∀ jq : Nat, jq < 6 → f4n_2 jq = g4 jq)) (hF_2_4 : (∀ jq : Nat, jq < 6 → f5n_2 jq = g5 jq)) (hF_3_0 : pmX v0 v1 v2 v3 f1n_2 ww hh kk f2n_2 hrs (v5, f3n_2, f4n_2, f5n_2) = (v5n_3, g3n_3, g4n_3, g5n_3)) (h_3 : r_3 = ((pmX v0 v1 v2 v3 f1n_2 ww hh kk f2n_2 hrs (v5, f3n_2, f4n_2, f5n_2)).1)) : g1 = g1 := by
  first
  | exact bt_0 hN hhb hww hkk (by omega) hF_2_0 hF_2_1 hF_2_2 hF_2_3 hF_2_4 h_3
  | rfl
theorem lf_X4_bf_0_1_3 {hrs : Nat} {v0 : Int32} {v1 : Int32} {v2 : Int32} {v3 : Int32} {v5 : Int32} {hh : Nat} {ww : Nat} {kk : Nat} {g1 : Nat → Int32} {g2 : Nat → Int32} {g3 : Nat → Int32} {g4 : Nat → Int32} {g5 : Nat → Int32} {f1n_2 : Nat → Int32} {f2n_2 : Nat → Int32} {f3n_2 : Nat → Int32} {f4n_2 : Nat → Int32} {f5n_2 : Nat → Int32} {v5n_3 : Int32} {g3n_3 : Nat → Int32} {g4n_3 : Nat → Int32} {g5n_3 : Nat → Int32} {r_3 : Int32} (hr20 : hrs ≤ 20) (hhb : hh ≤ 999) (hww : ww ≤ 6) (hkk : kk ≤ 6) (hN : okN 999 (nrm v0 v1 v2 v3 hh v5 ww kk g1 g2 g3 g4 g5)) (hF_2_0 : (∀ jq : Nat, jq < 6 → f1n_2 jq = g1 jq)) (hF_2_1 : (∀ jq : Nat, jq < 6 → f2n_2 jq = g2 jq)) (hF_2_2 : (∀ jq : Nat, jq < 6 → f3n_2 jq = g3 jq)) (hF_2_3 : (∀ jq : Nat, jq < 6 → f4n_2 jq = g4 jq)) (hF_2_4 : (∀ jq : Nat, jq < 6 → f5n_2 jq = g5 jq)) (hF_3_0 : pmX v0 v1 v2 v3 f1n_2 ww hh kk f2n_2 hrs (v5, f3n_2, f4n_2, f5n_2) = (v5n_3, g3n_3, g4n_3, g5n_3)) (h_3 : r_3 = ((pmX v0 v1 v2 v3 f1n_2 ww hh kk f2n_2 hrs (v5, f3n_2, f4n_2, f5n_2)).1)) : r_3 = (btV hrs 0 true (nrm v0 v1 v2 v3 hh v5 ww kk g1 g2 g3 g4 g5)) := by
  first
  | exact bt_0 hN hhb hww hkk (by omega) hF_2_0 hF_2_1 hF_2_2 hF_2_3 hF_2_4 h_3
  | rfl
set_option maxHeartbeats 4000000 in
set_option maxRecDepth 100000 in
theorem r_X4_bf_0_1 (l : Launch) (dC : Nat → ClassId) (dI : Nat → Nat → Nat) (cI cZ cL cJ : ClassId) (sz : Nat) (p0 : Nat) (hrs : Nat) (h : Nat) (v0 : Int32) (v1 : Int32) (v2 : Int32) (v3 : Int32) (v5 : Int32) (hh : Nat) (ww : Nat) (kk : Nat) (b1 : Nat) (b2 : Nat) (b3 : Nat) (b4 : Nat) (b5 : Nat) (g1 : Nat → Int32) (g2 : Nat → Int32) (g3 : Nat → Int32) (g4 : Nat → Int32) (g5 : Nat → Int32) (k0 : Nat) (u0 : Int32) (u1 : Int32) (u2 : Int32) (u3 : Int32) (u4 : Int32) (u5 : Int32) (u6 : Int32) (u7 : Int32) (o1 : Nat) (o2 : Nat) (o3 : Nat) (o4 : Nat) (o5 : Nat) (f1 : Nat → Int32) (f2 : Nat → Int32) (f3 : Nat → Int32) (f4 : Nat → Int32) (f5 : Nat → Int32) (hr20 : hrs ≤ 20) (hhb : hh ≤ 999) (hww : ww ≤ 6) (hkk : kk ≤ 6) (hN : okN 999 (nrm v0 v1 v2 v3 hh v5 ww kk g1 g2 g3 g4 g5)) : Met l yX4_bestFor wsX4_bestFor ({ frames := 5, cells := 0, slots := 0, locals := 110 }) (va_Pc [.ref p0, .int 1, .int 0] (fun U => U.heap.size = sz ∧ va_P (dC, dI) vwCl [(xo_4_rri p0 h k0 (nI hrs)), (xo_3_iiiiiiiirrrrr h v0 v1 v2 v3 (nI hh) v5 (nI ww) (nI kk) b1 b2 b3 b4 b5), (xI b1 cI 6 g1), (xI b2 cI 6 g2), (xI b3 cI 6 g3), (xI b4 cI 6 g4), (xI b5 cI 6 g5), (xo_3_iiiiiiiirrrrr k0 u0 u1 u2 u3 u4 u5 u6 u7 o1 o2 o3 o4 o5), (xI o1 cI 6 f1), (xI o2 cI 6 f2), (xI o3 cI 6 f3), (xI o4 cI 6 f4), (xI o5 cI 6 f5)] U.heap ∧ va_K (dC, dI) vwCl [(cI, .int), (cZ, .boolean), (cL, .object RX3), (cJ, .array .int)] U ∧ va_D (fun _ => True) [(xo_4_rri p0 h k0 (nI hrs)), (xo_3_iiiiiiiirrrrr h v0 v1 v2 v3 (nI hh) v5 (nI ww) (nI kk) b1 b2 b3 b4 b5), (xI b1 cI 6 g1), (xI b2 cI 6 g2), (xI b3 cI 6 g3), (xI b4 cI 6 g4), (xI b5 cI 6 g5), (xo_3_iiiiiiiirrrrr k0 u0 u1 u2 u3 u4 u5 u6 u7 o1 o2 o3 o4 o5), (xI o1 cI 6 f1), (xI o2 cI 6 f2), (xI o3 cI 6 f3), (xI o4 cI 6 f4), (xI o5 cI 6 f5)])) (va_Qi (fun r (_ : Unit) => r = (btV hrs 0 true (nrm v0 v1 v2 v3 hh v5 ww kk g1 g2 g3 g4 g5))) (fun (_ : Unit) t => ∃ (v3n : Int32) (u0n : Int32) (u1n : Int32) (u2n : Int32) (u3n : Int32) (u4n : Int32) (u5n : Int32) (u6n : Int32) (u7n : Int32) (g1n : Nat → Int32) (f1n : Nat → Int32) (f2n : Nat → Int32) (f3n : Nat → Int32) (f4n : Nat → Int32) (f5n : Nat → Int32), va_P (dC, dI) vwCl [(xo_4_rri p0 h k0 (nI hrs)), (xo_3_iiiiiiiirrrrr h v0 v1 v2 v3n (nI hh) v5 (nI ww) (nI kk) b1 b2 b3 b4 b5), (xI b1 cI 6 g1n), (xI b2 cI 6 g2), (xI b3 cI 6 g3), (xI b4 cI 6 g4), (xI b5 cI 6 g5), (xo_3_iiiiiiiirrrrr k0 u0n u1n u2n u3n u4n u5n u6n u7n o1 o2 o3 o4 o5), (xI o1 cI 6 f1n), (xI o2 cI 6 f2n), (xI o3 cI 6 f3n), (xI o4 cI 6 f4n), (xI o5 cI 6 f5n)] t.heap ∧ va_D (va_A [(xo_4_rri p0 h k0 (nI hrs)), (xo_3_iiiiiiiirrrrr h v0 v1 v2 v3 (nI hh) v5 (nI ww) (nI kk) b1 b2 b3 b4 b5), (xI b1 cI 6 g1), (xI b2 cI 6 g2), (xI b3 cI 6 g3), (xI b4 cI 6 g4), (xI b5 cI 6 g5), (xo_3_iiiiiiiirrrrr k0 u0 u1 u2 u3 u4 u5 u6 u7 o1 o2 o3 o4 o5), (xI o1 cI 6 f1), (xI o2 cI 6 f2), (xI o3 cI 6 f3), (xI o4 cI 6 f4), (xI o5 cI 6 f5)] sz) [(xo_4_rri p0 h k0 (nI hrs)), (xo_3_iiiiiiiirrrrr h v0 v1 v2 v3n (nI hh) v5 (nI ww) (nI kk) b1 b2 b3 b4 b5), (xI b1 cI 6 g1n), (xI b2 cI 6 g2), (xI b3 cI 6 g3), (xI b4 cI 6 g4), (xI b5 cI 6 g5), (xo_3_iiiiiiiirrrrr k0 u0n u1n u2n u3n u4n u5n u6n u7n o1 o2 o3 o4 o5), (xI o1 cI 6 f1n), (xI o2 cI 6 f2n), (xI o3 cI 6 f3n), (xI o4 cI 6 f4n), (xI o5 cI 6 f5n)] ∧ v3n = v3 ∧ g1n = g1) (va_A [(xo_4_rri p0 h k0 (nI hrs)), (xo_3_iiiiiiiirrrrr h v0 v1 v2 v3 (nI hh) v5 (nI ww) (nI kk) b1 b2 b3 b4 b5), (xI b1 cI 6 g1), (xI b2 cI 6 g2), (xI b3 cI 6 g3), (xI b4 cI 6 g4), (xI b5 cI 6 g5), (xo_3_iiiiiiiirrrrr k0 u0 u1 u2 u3 u4 u5 u6 u7 o1 o2 o3 o4 o5), (xI o1 cI 6 f1), (xI o2 cI 6 f2), (xI o3 cI 6 f3), (xI o4 cI 6 f4), (xI o5 cI 6 f5)] sz)) 0 0 (va_A [(xo_4_rri p0 h k0 (nI hrs)), (xo_3_iiiiiiiirrrrr h v0 v1 v2 v3 (nI hh) v5 (nI ww) (nI kk) b1 b2 b3 b4 b5), (xI b1 cI 6 g1), (xI b2 cI 6 g2), (xI b3 cI 6 g3), (xI b4 cI 6 g4), (xI b5 cI 6 g5), (xo_3_iiiiiiiirrrrr k0 u0 u1 u2 u3 u4 u5 u6 u7 o1 o2 o3 o4 o5), (xI o1 cI 6 f1), (xI o2 cI 6 f2), (xI o3 cI 6 f3), (xI o4 cI 6 f4), (xI o5 cI 6 f5)] sz) := by
  refine Met.ofW (cc := cX4_bestFor) (maxL := 5) (ret := (some .int)) (by decide) rfl ?_
  intro p e s m args below meth c s₁ B hml hv
  obtain ⟨rfl, hsz, hP, hK, hD0⟩ := hv
  have hx := B.exec
  have hb := B.bytes
  have hr := B.returns
  have hts := atoms_spec (ws := wsX4_bestFor) B.pre
  have hown : s.vm.findClass RX4 = some m.cls := findClass_of_methodNamed B.named
  have hlocks := B.notSynchronized
  subst hsz
  have hD := hD0.self (sz := s.heap.size)
  generalize hAe : va_A [(xo_4_rri p0 h k0 (nI hrs)), (xo_3_iiiiiiiirrrrr h v0 v1 v2 v3 (nI hh) v5 (nI ww) (nI kk) b1 b2 b3 b4 b5), (xI b1 cI 6 g1), (xI b2 cI 6 g2), (xI b3 cI 6 g3), (xI b4 cI 6 g4), (xI b5 cI 6 g5), (xo_3_iiiiiiiirrrrr k0 u0 u1 u2 u3 u4 u5 u6 u7 o1 o2 o3 o4 o5), (xI o1 cI 6 f1), (xI o2 cI 6 f2), (xI o3 cI 6 f3), (xI o4 cI 6 f4), (xI o5 cI 6 f5)] s.heap.size = A at hD ⊢
  have hA : ∀ q : Nat, s.heap.size ≤ q → A q := fun q h => by rw [← hAe]; exact Or.inr h
  have hS : va_S A s.heap s.heap [] := va_S.rf
  have hP : va_P (dC, dI) vwCl [(xo_4_rri p0 h k0 (nI hrs)), (xo_3_iiiiiiiirrrrr h v0 v1 v2 v3 (nI hh) v5 (nI ww) (nI kk) b1 b2 b3 b4 b5), (xI b1 cI 6 g1), (xI b2 cI 6 g2), (xI b3 cI 6 g3), (xI b4 cI 6 g4), (xI b5 cI 6 g5), (xo_3_iiiiiiiirrrrr k0 u0 u1 u2 u3 u4 u5 u6 u7 o1 o2 o3 o4 o5), (xI o1 cI 6 f1), (xI o2 cI 6 f2), (xI o3 cI 6 f3), (xI o4 cI 6 f4), (xI o5 cI 6 f5)] s.heap := hP
  have hl := lv_entry ([.ref p0, .int 1, .int 0]) (n := 5) (Nat.le_of_ble_eq_true rfl)
  rw [lg_entry_eq]
  generalize (lg_sl ([.ref p0, .int 1, .int 0]) ++ List.replicate (5 - (lg_sl ([.ref p0, .int 1, .int 0])).length) Slot.unset).toArray = ls at hl ⊢
  have hl : lv_has ls 5 [(0, .ref p0), (1, .int 1), (2, .int 0)] := hl
  refine lv_iload_n hx hb dX4_bestFor_0 rfl (lv_at hl 2 rfl) ?_
  refine lv_if_gt (tgt := 27) hx hb dX4_bestFor_1 (by decide) (fun c_ => absurd c_ (by decide)) (fun _ => ?_)
  refine lv_aload_n hx hb dX4_bestFor_4 rfl (lv_at hl 0 rfl) ?_
  refine va_get (D := (dC, dI)) (ci := 4) (v := .ref k0) (C := RX4) (T := TX4) (N := 3) hx hb hts i_X4_bestFor_X4 hown hK hP 0 rfl rfl 1 (by decide) (hts _ mx_X4_bestFor_1) (fun _ h9 => h9) rfl dX4_bestFor_5 ?_
  refine lv_aload_n hx hb dX4_bestFor_8 rfl (lv_at hl 0 rfl) ?_
  refine va_get (D := (dC, dI)) (ci := 4) (v := .ref h) (C := RX4) (T := TX4) (N := 3) hx hb hts i_X4_bestFor_X4 hown hK hP 0 rfl rfl 0 (by decide) (hts _ mx_X4_bestFor_2) (fun _ h9 => h9) rfl dX4_bestFor_9 ?_
  have hc_2 := cutW (wc := [(xo_3_iiiiiiiirrrrr k0 u0 u1 u2 u3 u4 u5 u6 u7 o1 o2 o3 o4 o5), (xI o1 cI 6 f1), (xI o2 cI 6 f2), (xI o3 cI 6 f3), (xI o4 cI 6 f4), (xI o5 cI 6 f5), (xo_3_iiiiiiiirrrrr h v0 v1 v2 v3 (nI hh) v5 (nI ww) (nI kk) b1 b2 b3 b4 b5), (xI b1 cI 6 g1), (xI b2 cI 6 g2), (xI b3 cI 6 g3), (xI b4 cI 6 g4), (xI b5 cI 6 g5)]) hP hD hS hA [7, 8, 9, 10, 11, 12, 1, 2, 3, 4, 5, 6] (by decide +kernel) rfl
  refine va_callv (va_runV (As := [.ref h]) (rest := []) ⟨hx, hb, hml, hown, hts⟩ (r_X3_becomeLike l dC dI cI cZ cL cJ s.heap.size k0 u0 u1 u2 u3 u4 u5 u6 u7 o1 o2 o3 o4 o5 f1 f2 f3 f4 f5 h v0 v1 v2 v3 (nI hh) v5 (nI ww) (nI kk) b1 b2 b3 b4 b5 g1 g2 g3 g4 g5 ) (cwV 1 hts gX4_bestFor_X3_becomeLike rfl rfl rfl (by decide +kernel) ⟨Nat.le_of_ble_eq_true rfl, Nat.le_of_ble_eq_true rfl⟩) (pvW 3 7 hK hP rfl rfl hc_2) rfl rfl hl.1 rfl (lv_room (Nat.le_of_ble_eq_true rfl)) dX4_bestFor_12 ⟨Nat.le_of_ble_eq_true rfl, Nat.le_of_ble_eq_true rfl⟩) hS (fun q _ h => hc_2.2.2 q h) hc_2.2.2 (fun u_2 t_2 H1 locs ht hvm h_2 hB hz1 hk1 hS => ?_)
  refine xl_5_7 hB (fun f1n_2 f2n_2 f3n_2 f4n_2 f5n_2 hP1 hD1 hF_2_0 hF_2_1 hF_2_2 hF_2_3 hF_2_4 => ?_)
  clear hB
  rw [ht] at hP1
  obtain ⟨hP, hD⟩ := va_join (wr := [(xo_4_rri p0 h k0 (nI hrs))]) (w1 := [(xo_3_iiiiiiiirrrrr k0 v0 v1 v2 v3 (nI hh) v5 (nI ww) (nI kk) o1 o2 o3 o4 o5), (xI o1 cI 6 f1n_2), (xI o2 cI 6 f2n_2), (xI o3 cI 6 f3n_2), (xI o4 cI 6 f4n_2), (xI o5 cI 6 f5n_2), (xo_3_iiiiiiiirrrrr h v0 v1 v2 v3 (nI hh) v5 (nI ww) (nI kk) b1 b2 b3 b4 b5), (xI b1 cI 6 g1), (xI b2 cI 6 g2), (xI b3 cI 6 g3), (xI b4 cI 6 g4), (xI b5 cI 6 g5)]) hP hD [7, 8, 9, 10, 11, 12, 1, 2, 3, 4, 5, 6] [0] rfl rfl (by decide +kernel) (by decide +kernel) hk1 hc_2.2.2 hP1 hD1
  generalize H1 = H at hP hS ⊢
  have hP : va_P (dC, dI) vwCl [(xo_4_rri p0 h k0 (nI hrs)), (xo_3_iiiiiiiirrrrr k0 v0 v1 v2 v3 (nI hh) v5 (nI ww) (nI kk) o1 o2 o3 o4 o5), (xI o1 cI 6 f1n_2), (xI o2 cI 6 f2n_2), (xI o3 cI 6 f3n_2), (xI o4 cI 6 f4n_2), (xI o5 cI 6 f5n_2), (xo_3_iiiiiiiirrrrr h v0 v1 v2 v3 (nI hh) v5 (nI ww) (nI kk) b1 b2 b3 b4 b5), (xI b1 cI 6 g1), (xI b2 cI 6 g2), (xI b3 cI 6 g3), (xI b4 cI 6 g4), (xI b5 cI 6 g5)] H := hP
  have hD := dto hP hD
  refine lv_aload_n hx hb dX4_bestFor_15 rfl (lv_at hl 0 rfl) ?_
  refine va_get (D := (dC, dI)) (ci := 4) (v := .ref k0) (C := RX4) (T := TX4) (N := 3) hx hb hts i_X4_bestFor_X4 hown hK hP 0 rfl rfl 1 (by decide) (hts _ mx_X4_bestFor_1) (fun _ h9 => h9) rfl dX4_bestFor_16 ?_
  refine lv_aload_n hx hb dX4_bestFor_19 rfl (lv_at hl 0 rfl) ?_
  refine va_get (D := (dC, dI)) (ci := 4) (v := .int (nI hrs)) (C := RX4) (T := TX4) (N := 3) hx hb hts i_X4_bestFor_X4 hown hK hP 0 rfl rfl 2 (by decide) (hts _ mx_X4_bestFor_3) (fun _ h9 => h9) rfl dX4_bestFor_20 ?_
  have hc_3 := cutW (wc := [(xo_3_iiiiiiiirrrrr k0 v0 v1 v2 v3 (nI hh) v5 (nI ww) (nI kk) o1 o2 o3 o4 o5), (xI o1 cI 6 f1n_2), (xI o2 cI 6 f2n_2), (xI o3 cI 6 f3n_2), (xI o4 cI 6 f4n_2), (xI o5 cI 6 f5n_2)]) hP hD hS hA [1, 2, 3, 4, 5, 6] (by decide +kernel) rfl
  refine va_calli (va_runV (As := [.int (nI hrs)]) (rest := []) ⟨hx, hb, hml, hown, hts⟩ (r_X3_mealBehind l dC dI cI cZ cL cJ H.size k0 v0 v1 v2 v3 v5 hh ww kk o1 o2 o3 o4 o5 f1n_2 f2n_2 f3n_2 f4n_2 f5n_2 hrs (by omega) (hww) (hkk) (by omega)) (cwV 1 hts gX4_bestFor_X3_mealBehind rfl rfl rfl (by decide +kernel) ⟨Nat.le_of_ble_eq_true rfl, Nat.le_of_ble_eq_true rfl⟩) (pvW 3 1 hK hP rfl rfl hc_3) rfl rfl hl.1 rfl (lv_room (Nat.le_of_ble_eq_true rfl)) dX4_bestFor_23 ⟨Nat.le_of_ble_eq_true rfl, Nat.le_of_ble_eq_true rfl⟩) hS (fun q _ h => hc_3.2.2 q h) hc_3.2.2 (fun r_3 u_3 t_3 H1 locs ht hvm h_3 hB hz1 hk1 hS => ?_)
  refine xl_4_3 hB (fun v5n_3 g3n_3 g4n_3 g5n_3 hP1 hD1 hF_3_0 => ?_)
  clear hB
  rw [ht] at hP1
  obtain ⟨hP, hD⟩ := va_join (wr := [(xo_4_rri p0 h k0 (nI hrs)), (xo_3_iiiiiiiirrrrr h v0 v1 v2 v3 (nI hh) v5 (nI ww) (nI kk) b1 b2 b3 b4 b5), (xI b1 cI 6 g1), (xI b2 cI 6 g2), (xI b3 cI 6 g3), (xI b4 cI 6 g4), (xI b5 cI 6 g5)]) (w1 := [(xo_3_iiiiiiiirrrrr k0 v0 v1 v2 v3 (nI (hh + hrs)) v5n_3 (nI ww) (nI kk) o1 o2 o3 o4 o5), (xI o1 cI 6 f1n_2), (xI o2 cI 6 f2n_2), (xI o3 cI 6 g3n_3), (xI o4 cI 6 g4n_3), (xI o5 cI 6 g5n_3)]) hP hD [1, 2, 3, 4, 5, 6] [0, 7, 8, 9, 10, 11, 12] rfl rfl (by decide +kernel) (by decide +kernel) hk1 hc_3.2.2 hP1 hD1
  generalize H1 = H at hP hS ⊢
  have hP : va_P (dC, dI) vwCl [(xo_4_rri p0 h k0 (nI hrs)), (xo_3_iiiiiiiirrrrr h v0 v1 v2 v3 (nI hh) v5 (nI ww) (nI kk) b1 b2 b3 b4 b5), (xI b1 cI 6 g1), (xI b2 cI 6 g2), (xI b3 cI 6 g3), (xI b4 cI 6 g4), (xI b5 cI 6 g5), (xo_3_iiiiiiiirrrrr k0 v0 v1 v2 v3 (nI (hh + hrs)) v5n_3 (nI ww) (nI kk) o1 o2 o3 o4 o5), (xI o1 cI 6 f1n_2), (xI o2 cI 6 f2n_2), (xI o3 cI 6 g3n_3), (xI o4 cI 6 g4n_3), (xI o5 cI 6 g5n_3)] H := hP
  have hD := dto hP hD
  have hX9 := cut2 (wc := [(xo_4_rri p0 h k0 (nI hrs)), (xo_3_iiiiiiiirrrrr h v0 v1 v2 v3 (nI hh) v5 (nI ww) (nI kk) b1 b2 b3 b4 b5), (xI b1 cI 6 g1), (xI b2 cI 6 g2), (xI b3 cI 6 g3), (xI b4 cI 6 g4), (xI b5 cI 6 g5), (xo_3_iiiiiiiirrrrr k0 v0 v1 v2 v3 (nI (hh + hrs)) v5n_3 (nI ww) (nI kk) o1 o2 o3 o4 o5), (xI o1 cI 6 f1n_2), (xI o2 cI 6 f2n_2), (xI o3 cI 6 g3n_3), (xI o4 cI 6 g4n_3), (xI o5 cI 6 g5n_3)]) hP hD [0, 1, 2, 3, 4, 5, 6, 7, 8, 9, 10, 11, 12] (by decide +kernel) rfl
  exact W.iret (v := r_3) hx hb hr (fun t ht hW => ⟨⟨r_3, (), rfl, (lf_X4_bf_0_1_3 hr20 hhb hww hkk hN hF_2_0 hF_2_1 hF_2_2 hF_2_3 hF_2_4 hF_3_0 h_3), ⟨v3, v0, v1, v2, v3, (nI (hh + hrs)), v5n_3, (nI ww), (nI kk), g1, f1n_2, f2n_2, g3n_3, g4n_3, g5n_3, va_Ht ht hX9.1, hX9.2, (lf_X4_bf_0_1_1 hr20 hhb hww hkk hN hF_2_0 hF_2_1 hF_2_2 hF_2_3 hF_2_4 hF_3_0 h_3), (lf_X4_bf_0_1_2 hr20 hhb hww hkk hN hF_2_0 hF_2_1 hF_2_2 hF_2_3 hF_2_4 hF_3_0 h_3)⟩⟩, hS.F ht⟩) hS.2.2 dX4_bestFor_26
theorem lf_X4_bf_1_0_1 {hrs : Nat} {v0 : Int32} {v1 : Int32} {v2 : Int32} {v3 : Int32} {v5 : Int32} {hh : Nat} {ww : Nat} {kk : Nat} {g1 : Nat → Int32} {g2 : Nat → Int32} {g3 : Nat → Int32} {g4 : Nat → Int32} {g5 : Nat → Int32} {v3n_5 : Int32} {g1n_5 : Nat → Int32} {r_5 : Int32} {g1n_6 : Nat → Int32} (hr20 : hrs ≤ 20) (hhb : hh ≤ 999) (hww : ww ≤ 6) (hkk : kk ≤ 6) (hN : okN 999 (nrm v0 v1 v2 v3 hh v5 ww kk g1 g2 g3 g4 g5)) (hF_5_0 : v3n_5 = v3) (hF_5_1 : g1n_5 = g1) (h_5 : r_5 = (btV hrs 0 true (nrm v0 v1 v2 v3 hh v5 ww kk g1 g2 g3 g4 g5))) (hF_6_0 : g1n_6 = twX g1n_5 ww hh) : (nrm v0 v1 v2 v3n_5 hh v5 ww kk g1n_6 g2 g3 g4 g5) = tgP false (nrm v0 v1 v2 v3 hh v5 ww kk g1 g2 g3 g4 g5) := by
  exact pl_w hN hww hkk hhb hF_5_0 hF_5_1 hF_6_0
theorem lf_X4_bf_1_0_2 {hrs : Nat} {v0 : Int32} {v1 : Int32} {v2 : Int32} {v3 : Int32} {v5 : Int32} {hh : Nat} {ww : Nat} {kk : Nat} {g1 : Nat → Int32} {g2 : Nat → Int32} {g3 : Nat → Int32} {g4 : Nat → Int32} {g5 : Nat → Int32} {v3n_5 : Int32} {g1n_5 : Nat → Int32} {r_5 : Int32} {g1n_6 : Nat → Int32} {v3n_10 : Int32} {g1n_10 : Nat → Int32} {r_10 : Int32} {g1n_11 : Nat → Int32} {v_13 : Int32} (hr20 : hrs ≤ 20) (hhb : hh ≤ 999) (hww : ww ≤ 6) (hkk : kk ≤ 6) (hN : okN 999 (nrm v0 v1 v2 v3 hh v5 ww kk g1 g2 g3 g4 g5)) (hF_5_0 : v3n_5 = v3) (hF_5_1 : g1n_5 = g1) (h_5 : r_5 = (btV hrs 0 true (nrm v0 v1 v2 v3 hh v5 ww kk g1 g2 g3 g4 g5))) (hF_6_0 : g1n_6 = twX g1n_5 ww hh) (hR_9 : (nrm v0 v1 v2 v3n_5 hh v5 ww kk g1n_6 g2 g3 g4 g5) = tgP false (nrm v0 v1 v2 v3 hh v5 ww kk g1 g2 g3 g4 g5)) (hF_10_0 : v3n_10 = v3n_5) (hF_10_1 : g1n_10 = g1n_6) (h_10 : r_10 = (btV hrs 0 true (nrm v0 v1 v2 v3n_5 hh v5 ww kk g1n_6 g2 g3 g4 g5))) (hF_11_0 : g1n_11 = twX g1n_10 ww hh) (e_13 : v_13 = (if r_10 < r_5 then r_10 else r_5)) : v3n_10 = v3 := by
  first
  | exact pb_0 h_5 h_10 hR_9 e_13
  | exact hF_10_0.trans hF_5_0
  | exact pb_w hF_11_0 hF_10_1 hF_6_0 hF_5_1
theorem lf_X4_bf_1_0_3 {hrs : Nat} {v0 : Int32} {v1 : Int32} {v2 : Int32} {v3 : Int32} {v5 : Int32} {hh : Nat} {ww : Nat} {kk : Nat} {g1 : Nat → Int32} {g2 : Nat → Int32} {g3 : Nat → Int32} {g4 : Nat → Int32} {g5 : Nat → Int32} {v3n_5 : Int32} {g1n_5 : Nat → Int32} {r_5 : Int32} {g1n_6 : Nat → Int32} {v3n_10 : Int32} {g1n_10 : Nat → Int32} {r_10 : Int32} {g1n_11 : Nat → Int32} {v_13 : Int32} (hr20 : hrs ≤ 20) (hhb : hh ≤ 999) (hww : ww ≤ 6) (hkk : kk ≤ 6) (hN : okN 999 (nrm v0 v1 v2 v3 hh v5 ww kk g1 g2 g3 g4 g5)) (hF_5_0 : v3n_5 = v3) (hF_5_1 : g1n_5 = g1) (h_5 : r_5 = (btV hrs 0 true (nrm v0 v1 v2 v3 hh v5 ww kk g1 g2 g3 g4 g5))) (hF_6_0 : g1n_6 = twX g1n_5 ww hh) (hR_9 : (nrm v0 v1 v2 v3n_5 hh v5 ww kk g1n_6 g2 g3 g4 g5) = tgP false (nrm v0 v1 v2 v3 hh v5 ww kk g1 g2 g3 g4 g5)) (hF_10_0 : v3n_10 = v3n_5) (hF_10_1 : g1n_10 = g1n_6) (h_10 : r_10 = (btV hrs 0 true (nrm v0 v1 v2 v3n_5 hh v5 ww kk g1n_6 g2 g3 g4 g5))) (hF_11_0 : g1n_11 = twX g1n_10 ww hh) (e_13 : v_13 = (if r_10 < r_5 then r_10 else r_5)) : g1n_11 = g1 := by
  first
  | exact pb_0 h_5 h_10 hR_9 e_13
  | exact hF_10_0.trans hF_5_0
  | exact pb_w hF_11_0 hF_10_1 hF_6_0 hF_5_1
theorem lf_X4_bf_1_0_4 {hrs : Nat} {v0 : Int32} {v1 : Int32} {v2 : Int32} {v3 : Int32} {v5 : Int32} {hh : Nat} {ww : Nat} {kk : Nat} {g1 : Nat → Int32} {g2 : Nat → Int32} {g3 : Nat → Int32} {g4 : Nat → Int32} {g5 : Nat → Int32} {v3n_5 : Int32} {g1n_5 : Nat → Int32} {r_5 : Int32} {g1n_6 : Nat → Int32} {v3n_10 : Int32} {g1n_10 : Nat → Int32} {r_10 : Int32} {g1n_11 : Nat → Int32} {v_13 : Int32} (hr20 : hrs ≤ 20) (hhb : hh ≤ 999) (hww : ww ≤ 6) (hkk : kk ≤ 6) (hN : okN 999 (nrm v0 v1 v2 v3 hh v5 ww kk g1 g2 g3 g4 g5)) (hF_5_0 : v3n_5 = v3) (hF_5_1 : g1n_5 = g1) (h_5 : r_5 = (btV hrs 0 true (nrm v0 v1 v2 v3 hh v5 ww kk g1 g2 g3 g4 g5))) (hF_6_0 : g1n_6 = twX g1n_5 ww hh) (hR_9 : (nrm v0 v1 v2 v3n_5 hh v5 ww kk g1n_6 g2 g3 g4 g5) = tgP false (nrm v0 v1 v2 v3 hh v5 ww kk g1 g2 g3 g4 g5)) (hF_10_0 : v3n_10 = v3n_5) (hF_10_1 : g1n_10 = g1n_6) (h_10 : r_10 = (btV hrs 0 true (nrm v0 v1 v2 v3n_5 hh v5 ww kk g1n_6 g2 g3 g4 g5))) (hF_11_0 : g1n_11 = twX g1n_10 ww hh) (e_13 : v_13 = (if r_10 < r_5 then r_10 else r_5)) : v_13 = (btV hrs 1 false (nrm v0 v1 v2 v3 hh v5 ww kk g1 g2 g3 g4 g5)) := by
  first
  | exact pb_0 h_5 h_10 hR_9 e_13
  | exact hF_10_0.trans hF_5_0
  | exact pb_w hF_11_0 hF_10_1 hF_6_0 hF_5_1
set_option maxHeartbeats 4000000 in
set_option maxRecDepth 100000 in
theorem r_X4_bf_1_0 (l : Launch) (dC : Nat → ClassId) (dI : Nat → Nat → Nat) (cI cZ cL cJ : ClassId) (sz : Nat) (p0 : Nat) (hrs : Nat) (h : Nat) (v0 : Int32) (v1 : Int32) (v2 : Int32) (v3 : Int32) (v5 : Int32) (hh : Nat) (ww : Nat) (kk : Nat) (b1 : Nat) (b2 : Nat) (b3 : Nat) (b4 : Nat) (b5 : Nat) (g1 : Nat → Int32) (g2 : Nat → Int32) (g3 : Nat → Int32) (g4 : Nat → Int32) (g5 : Nat → Int32) (k0 : Nat) (u0 : Int32) (u1 : Int32) (u2 : Int32) (u3 : Int32) (u4 : Int32) (u5 : Int32) (u6 : Int32) (u7 : Int32) (o1 : Nat) (o2 : Nat) (o3 : Nat) (o4 : Nat) (o5 : Nat) (f1 : Nat → Int32) (f2 : Nat → Int32) (f3 : Nat → Int32) (f4 : Nat → Int32) (f5 : Nat → Int32) (hr20 : hrs ≤ 20) (hhb : hh ≤ 999) (hww : ww ≤ 6) (hkk : kk ≤ 6) (hN : okN 999 (nrm v0 v1 v2 v3 hh v5 ww kk g1 g2 g3 g4 g5)) : Met l yX4_bestFor wsX4_bestFor ({ frames := 6, cells := 0, slots := 0, locals := 134 }) (va_Pc [.ref p0, .int 0, .int 1] (fun U => U.heap.size = sz ∧ va_P (dC, dI) vwCl [(xo_4_rri p0 h k0 (nI hrs)), (xo_3_iiiiiiiirrrrr h v0 v1 v2 v3 (nI hh) v5 (nI ww) (nI kk) b1 b2 b3 b4 b5), (xI b1 cI 6 g1), (xI b2 cI 6 g2), (xI b3 cI 6 g3), (xI b4 cI 6 g4), (xI b5 cI 6 g5), (xo_3_iiiiiiiirrrrr k0 u0 u1 u2 u3 u4 u5 u6 u7 o1 o2 o3 o4 o5), (xI o1 cI 6 f1), (xI o2 cI 6 f2), (xI o3 cI 6 f3), (xI o4 cI 6 f4), (xI o5 cI 6 f5)] U.heap ∧ va_K (dC, dI) vwCl [(cI, .int), (cZ, .boolean), (cL, .object RX3), (cJ, .array .int)] U ∧ va_D (fun _ => True) [(xo_4_rri p0 h k0 (nI hrs)), (xo_3_iiiiiiiirrrrr h v0 v1 v2 v3 (nI hh) v5 (nI ww) (nI kk) b1 b2 b3 b4 b5), (xI b1 cI 6 g1), (xI b2 cI 6 g2), (xI b3 cI 6 g3), (xI b4 cI 6 g4), (xI b5 cI 6 g5), (xo_3_iiiiiiiirrrrr k0 u0 u1 u2 u3 u4 u5 u6 u7 o1 o2 o3 o4 o5), (xI o1 cI 6 f1), (xI o2 cI 6 f2), (xI o3 cI 6 f3), (xI o4 cI 6 f4), (xI o5 cI 6 f5)])) (va_Qi (fun r (_ : Unit) => r = (btV hrs 1 false (nrm v0 v1 v2 v3 hh v5 ww kk g1 g2 g3 g4 g5))) (fun (_ : Unit) t => ∃ (v3n : Int32) (u0n : Int32) (u1n : Int32) (u2n : Int32) (u3n : Int32) (u4n : Int32) (u5n : Int32) (u6n : Int32) (u7n : Int32) (g1n : Nat → Int32) (f1n : Nat → Int32) (f2n : Nat → Int32) (f3n : Nat → Int32) (f4n : Nat → Int32) (f5n : Nat → Int32), va_P (dC, dI) vwCl [(xo_4_rri p0 h k0 (nI hrs)), (xo_3_iiiiiiiirrrrr h v0 v1 v2 v3n (nI hh) v5 (nI ww) (nI kk) b1 b2 b3 b4 b5), (xI b1 cI 6 g1n), (xI b2 cI 6 g2), (xI b3 cI 6 g3), (xI b4 cI 6 g4), (xI b5 cI 6 g5), (xo_3_iiiiiiiirrrrr k0 u0n u1n u2n u3n u4n u5n u6n u7n o1 o2 o3 o4 o5), (xI o1 cI 6 f1n), (xI o2 cI 6 f2n), (xI o3 cI 6 f3n), (xI o4 cI 6 f4n), (xI o5 cI 6 f5n)] t.heap ∧ va_D (va_A [(xo_4_rri p0 h k0 (nI hrs)), (xo_3_iiiiiiiirrrrr h v0 v1 v2 v3 (nI hh) v5 (nI ww) (nI kk) b1 b2 b3 b4 b5), (xI b1 cI 6 g1), (xI b2 cI 6 g2), (xI b3 cI 6 g3), (xI b4 cI 6 g4), (xI b5 cI 6 g5), (xo_3_iiiiiiiirrrrr k0 u0 u1 u2 u3 u4 u5 u6 u7 o1 o2 o3 o4 o5), (xI o1 cI 6 f1), (xI o2 cI 6 f2), (xI o3 cI 6 f3), (xI o4 cI 6 f4), (xI o5 cI 6 f5)] sz) [(xo_4_rri p0 h k0 (nI hrs)), (xo_3_iiiiiiiirrrrr h v0 v1 v2 v3n (nI hh) v5 (nI ww) (nI kk) b1 b2 b3 b4 b5), (xI b1 cI 6 g1n), (xI b2 cI 6 g2), (xI b3 cI 6 g3), (xI b4 cI 6 g4), (xI b5 cI 6 g5), (xo_3_iiiiiiiirrrrr k0 u0n u1n u2n u3n u4n u5n u6n u7n o1 o2 o3 o4 o5), (xI o1 cI 6 f1n), (xI o2 cI 6 f2n), (xI o3 cI 6 f3n), (xI o4 cI 6 f4n), (xI o5 cI 6 f5n)] ∧ v3n = v3 ∧ g1n = g1) (va_A [(xo_4_rri p0 h k0 (nI hrs)), (xo_3_iiiiiiiirrrrr h v0 v1 v2 v3 (nI hh) v5 (nI ww) (nI kk) b1 b2 b3 b4 b5), (xI b1 cI 6 g1), (xI b2 cI 6 g2), (xI b3 cI 6 g3), (xI b4 cI 6 g4), (xI b5 cI 6 g5), (xo_3_iiiiiiiirrrrr k0 u0 u1 u2 u3 u4 u5 u6 u7 o1 o2 o3 o4 o5), (xI o1 cI 6 f1), (xI o2 cI 6 f2), (xI o3 cI 6 f3), (xI o4 cI 6 f4), (xI o5 cI 6 f5)] sz)) 0 0 (va_A [(xo_4_rri p0 h k0 (nI hrs)), (xo_3_iiiiiiiirrrrr h v0 v1 v2 v3 (nI hh) v5 (nI ww) (nI kk) b1 b2 b3 b4 b5), (xI b1 cI 6 g1), (xI b2 cI 6 g2), (xI b3 cI 6 g3), (xI b4 cI 6 g4), (xI b5 cI 6 g5), (xo_3_iiiiiiiirrrrr k0 u0 u1 u2 u3 u4 u5 u6 u7 o1 o2 o3 o4 o5), (xI o1 cI 6 f1), (xI o2 cI 6 f2), (xI o3 cI 6 f3), (xI o4 cI 6 f4), (xI o5 cI 6 f5)] sz) := by
  refine Met.ofW (cc := cX4_bestFor) (maxL := 5) (ret := (some .int)) (by decide) rfl ?_
  intro p e s m args below meth c s₁ B hml hv
  obtain ⟨rfl, hsz, hP, hK, hD0⟩ := hv
  have hx := B.exec
  have hb := B.bytes
  have hr := B.returns
  have hts := atoms_spec (ws := wsX4_bestFor) B.pre
  have hown : s.vm.findClass RX4 = some m.cls := findClass_of_methodNamed B.named
  have hlocks := B.notSynchronized
  subst hsz
  have hD := hD0.self (sz := s.heap.size)
  generalize hAe : va_A [(xo_4_rri p0 h k0 (nI hrs)), (xo_3_iiiiiiiirrrrr h v0 v1 v2 v3 (nI hh) v5 (nI ww) (nI kk) b1 b2 b3 b4 b5), (xI b1 cI 6 g1), (xI b2 cI 6 g2), (xI b3 cI 6 g3), (xI b4 cI 6 g4), (xI b5 cI 6 g5), (xo_3_iiiiiiiirrrrr k0 u0 u1 u2 u3 u4 u5 u6 u7 o1 o2 o3 o4 o5), (xI o1 cI 6 f1), (xI o2 cI 6 f2), (xI o3 cI 6 f3), (xI o4 cI 6 f4), (xI o5 cI 6 f5)] s.heap.size = A at hD ⊢
  have hA : ∀ q : Nat, s.heap.size ≤ q → A q := fun q h => by rw [← hAe]; exact Or.inr h
  have hS : va_S A s.heap s.heap [] := va_S.rf
  have hP : va_P (dC, dI) vwCl [(xo_4_rri p0 h k0 (nI hrs)), (xo_3_iiiiiiiirrrrr h v0 v1 v2 v3 (nI hh) v5 (nI ww) (nI kk) b1 b2 b3 b4 b5), (xI b1 cI 6 g1), (xI b2 cI 6 g2), (xI b3 cI 6 g3), (xI b4 cI 6 g4), (xI b5 cI 6 g5), (xo_3_iiiiiiiirrrrr k0 u0 u1 u2 u3 u4 u5 u6 u7 o1 o2 o3 o4 o5), (xI o1 cI 6 f1), (xI o2 cI 6 f2), (xI o3 cI 6 f3), (xI o4 cI 6 f4), (xI o5 cI 6 f5)] s.heap := hP
  have hl := lv_entry ([.ref p0, .int 0, .int 1]) (n := 5) (Nat.le_of_ble_eq_true rfl)
  rw [lg_entry_eq]
  generalize (lg_sl ([.ref p0, .int 0, .int 1]) ++ List.replicate (5 - (lg_sl ([.ref p0, .int 0, .int 1])).length) Slot.unset).toArray = ls at hl ⊢
  have hl : lv_has ls 5 [(0, .ref p0), (1, .int 0), (2, .int 1)] := hl
  refine lv_iload_n hx hb dX4_bestFor_0 rfl (lv_at hl 2 rfl) ?_
  refine lv_if_gt (tgt := 27) hx hb dX4_bestFor_1 (by decide) (fun _ => ?_) (fun c_ => absurd (by decide) c_)
  refine lv_aload_n hx hb dX4_bestFor_27 rfl (lv_at hl 0 rfl) ?_
  refine lv_iload_n hx hb dX4_bestFor_28 rfl (lv_at hl 1 rfl) ?_
  refine lv_if_ne (tgt := 36) hx hb dX4_bestFor_29 (by decide) (fun c_ => absurd (by decide) c_) (fun _ => ?_)
  refine lv_iconst (v := 1) hx hb dX4_bestFor_32 (by decide) ?_
  refine lv_goto (tgt := 37) hx hb dX4_bestFor_33 (by decide) ?_
  refine lv_iload_n hx hb dX4_bestFor_37 rfl (lv_at hl 2 rfl) ?_
  refine lv_iconst (v := 1) hx hb dX4_bestFor_38 (by decide) ?_
  refine lv_isub hx hb dX4_bestFor_39 ?_
  refine lv_topi (fun v_3 e_3 => ?_)
  obtain rfl : v_3 = 0 := (e_3).trans (by decide)
  have hc_5 := cutW (wc := [(xo_4_rri p0 h k0 (nI hrs)), (xo_3_iiiiiiiirrrrr h v0 v1 v2 v3 (nI hh) v5 (nI ww) (nI kk) b1 b2 b3 b4 b5), (xI b1 cI 6 g1), (xI b2 cI 6 g2), (xI b3 cI 6 g3), (xI b4 cI 6 g4), (xI b5 cI 6 g5), (xo_3_iiiiiiiirrrrr k0 u0 u1 u2 u3 u4 u5 u6 u7 o1 o2 o3 o4 o5), (xI o1 cI 6 f1), (xI o2 cI 6 f2), (xI o3 cI 6 f3), (xI o4 cI 6 f4), (xI o5 cI 6 f5)]) hP hD hS hA [0, 1, 2, 3, 4, 5, 6, 7, 8, 9, 10, 11, 12] (by decide +kernel) rfl
  refine va_calli (va_runV (As := [.int 1, .int 0]) (rest := []) ⟨hx, hb, hml, hown, hts⟩ (r_X4_bf_0_1 l dC dI cI cZ cL cJ s.heap.size p0 hrs h v0 v1 v2 v3 v5 hh ww kk b1 b2 b3 b4 b5 g1 g2 g3 g4 g5 k0 u0 u1 u2 u3 u4 u5 u6 u7 o1 o2 o3 o4 o5 f1 f2 f3 f4 f5 (hr20) (hhb) (hww) (hkk) (hN)) (cwV 2 hts gX4_bestFor_X4_bestFor rfl rfl rfl (by decide +kernel) ⟨Nat.le_of_ble_eq_true rfl, Nat.le_of_ble_eq_true rfl⟩) (pvW 4 0 hK hP rfl rfl hc_5) rfl rfl hl.1 rfl (lv_room (Nat.le_of_ble_eq_true rfl)) dX4_bestFor_40 ⟨Nat.le_of_ble_eq_true rfl, Nat.le_of_ble_eq_true rfl⟩) hS (fun q _ h => hc_5.2.2 q h) hc_5.2.2 (fun r_5 u_5 t_5 H1 locs ht hvm h_5 hB hz1 hk1 hS => ?_)
  refine xl_15_4 hB (fun v3n_5 u0n_5 u1n_5 u2n_5 u3n_5 u4n_5 u5n_5 u6n_5 u7n_5 g1n_5 f1n_5 f2n_5 f3n_5 f4n_5 f5n_5 hP1 hD1 hF_5_0 hF_5_1 => ?_)
  clear hB
  rw [ht] at hP1
  obtain ⟨hP, hD⟩ := va_join (wr := []) (w1 := [(xo_4_rri p0 h k0 (nI hrs)), (xo_3_iiiiiiiirrrrr h v0 v1 v2 v3n_5 (nI hh) v5 (nI ww) (nI kk) b1 b2 b3 b4 b5), (xI b1 cI 6 g1n_5), (xI b2 cI 6 g2), (xI b3 cI 6 g3), (xI b4 cI 6 g4), (xI b5 cI 6 g5), (xo_3_iiiiiiiirrrrr k0 u0n_5 u1n_5 u2n_5 u3n_5 u4n_5 u5n_5 u6n_5 u7n_5 o1 o2 o3 o4 o5), (xI o1 cI 6 f1n_5), (xI o2 cI 6 f2n_5), (xI o3 cI 6 f3n_5), (xI o4 cI 6 f4n_5), (xI o5 cI 6 f5n_5)]) hP hD [0, 1, 2, 3, 4, 5, 6, 7, 8, 9, 10, 11, 12] [] rfl rfl (by decide +kernel) (by decide +kernel) hk1 hc_5.2.2 hP1 hD1
  generalize H1 = H at hP hS ⊢
  have hP : va_P (dC, dI) vwCl [(xo_4_rri p0 h k0 (nI hrs)), (xo_3_iiiiiiiirrrrr h v0 v1 v2 v3n_5 (nI hh) v5 (nI ww) (nI kk) b1 b2 b3 b4 b5), (xI b1 cI 6 g1n_5), (xI b2 cI 6 g2), (xI b3 cI 6 g3), (xI b4 cI 6 g4), (xI b5 cI 6 g5), (xo_3_iiiiiiiirrrrr k0 u0n_5 u1n_5 u2n_5 u3n_5 u4n_5 u5n_5 u6n_5 u7n_5 o1 o2 o3 o4 o5), (xI o1 cI 6 f1n_5), (xI o2 cI 6 f2n_5), (xI o3 cI 6 f3n_5), (xI o4 cI 6 f4n_5), (xI o5 cI 6 f5n_5)] H := hP
  have hD := dto hP hD
  refine lv_istore_n (lv' := [(3, .int r_5), (0, .ref p0), (1, .int 0), (2, .int 1)]) hx hb dX4_bestFor_43 rfl hl (by decide) rfl (fun ls hl => ?_)
  refine lv_aload_n hx hb dX4_bestFor_44 rfl (lv_at hl 1 rfl) ?_
  refine lv_iload_n hx hb dX4_bestFor_45 rfl (lv_at hl 2 rfl) ?_
  have hc_6 := cutW (wc := [(xo_4_rri p0 h k0 (nI hrs)), (xo_3_iiiiiiiirrrrr h v0 v1 v2 v3n_5 (nI hh) v5 (nI ww) (nI kk) b1 b2 b3 b4 b5), (xI b1 cI 6 g1n_5), (xI b2 cI 6 g2), (xI b3 cI 6 g3), (xI b4 cI 6 g4), (xI b5 cI 6 g5)]) hP hD hS hA [0, 1, 2, 3, 4, 5, 6] (by decide +kernel) rfl
  refine va_callv (va_runV (As := [.int 0]) (rest := []) ⟨hx, hb, hml, hown, hts⟩ (r_X4_tn_0 l dC dI cI cZ cL cJ H.size p0 hrs h v0 v1 v2 v3n_5 v5 hh ww kk b1 b2 b3 b4 b5 g1n_5 g2 g3 g4 g5 k0 (hr20) (hhb) (hww) (hkk)) (cwV 1 hts gX4_bestFor_X4_turn rfl rfl rfl (by decide +kernel) ⟨Nat.le_of_ble_eq_true rfl, Nat.le_of_ble_eq_true rfl⟩) (pvW 4 0 hK hP rfl rfl hc_6) rfl rfl hl.1 rfl (lv_room (Nat.le_of_ble_eq_true rfl)) dX4_bestFor_46 ⟨Nat.le_of_ble_eq_true rfl, Nat.le_of_ble_eq_true rfl⟩) hS (fun q _ h => hc_6.2.2 q h) hc_6.2.2 (fun u_6 t_6 H1 locs ht hvm h_6 hB hz1 hk1 hS => ?_)
  refine xl_1_3 hB (fun g1n_6 hP1 hD1 hF_6_0 => ?_)
  clear hB
  rw [ht] at hP1
  obtain ⟨hP, hD⟩ := va_join (wr := [(xo_3_iiiiiiiirrrrr k0 u0n_5 u1n_5 u2n_5 u3n_5 u4n_5 u5n_5 u6n_5 u7n_5 o1 o2 o3 o4 o5), (xI o1 cI 6 f1n_5), (xI o2 cI 6 f2n_5), (xI o3 cI 6 f3n_5), (xI o4 cI 6 f4n_5), (xI o5 cI 6 f5n_5)]) (w1 := [(xo_4_rri p0 h k0 (nI hrs)), (xo_3_iiiiiiiirrrrr h v0 v1 v2 v3n_5 (nI hh) v5 (nI ww) (nI kk) b1 b2 b3 b4 b5), (xI b1 cI 6 g1n_6), (xI b2 cI 6 g2), (xI b3 cI 6 g3), (xI b4 cI 6 g4), (xI b5 cI 6 g5)]) hP hD [0, 1, 2, 3, 4, 5, 6] [7, 8, 9, 10, 11, 12] rfl rfl (by decide +kernel) (by decide +kernel) hk1 hc_6.2.2 hP1 hD1
  generalize H1 = H at hP hS ⊢
  have hP : va_P (dC, dI) vwCl [(xo_3_iiiiiiiirrrrr k0 u0n_5 u1n_5 u2n_5 u3n_5 u4n_5 u5n_5 u6n_5 u7n_5 o1 o2 o3 o4 o5), (xI o1 cI 6 f1n_5), (xI o2 cI 6 f2n_5), (xI o3 cI 6 f3n_5), (xI o4 cI 6 f4n_5), (xI o5 cI 6 f5n_5), (xo_4_rri p0 h k0 (nI hrs)), (xo_3_iiiiiiiirrrrr h v0 v1 v2 v3n_5 (nI hh) v5 (nI ww) (nI kk) b1 b2 b3 b4 b5), (xI b1 cI 6 g1n_6), (xI b2 cI 6 g2), (xI b3 cI 6 g3), (xI b4 cI 6 g4), (xI b5 cI 6 g5)] H := hP
  have hD := dto hP hD
  refine lv_aload_n hx hb dX4_bestFor_49 rfl (lv_at hl 1 rfl) ?_
  refine lv_iload_n hx hb dX4_bestFor_50 rfl (lv_at hl 2 rfl) ?_
  refine lv_if_ne (tgt := 58) hx hb dX4_bestFor_51 (by decide) (fun c_ => absurd (by decide) c_) (fun _ => ?_)
  refine lv_iconst (v := 1) hx hb dX4_bestFor_54 (by decide) ?_
  refine lv_goto (tgt := 59) hx hb dX4_bestFor_55 (by decide) ?_
  refine lv_iload_n hx hb dX4_bestFor_59 rfl (lv_at hl 3 rfl) ?_
  refine lv_iconst (v := 1) hx hb dX4_bestFor_60 (by decide) ?_
  refine lv_isub hx hb dX4_bestFor_61 ?_
  refine lv_topi (fun v_8 e_8 => ?_)
  obtain rfl : v_8 = 0 := (e_8).trans (by decide)
  have hR_9 : (nrm v0 v1 v2 v3n_5 hh v5 ww kk g1n_6 g2 g3 g4 g5) = tgP false (nrm v0 v1 v2 v3 hh v5 ww kk g1 g2 g3 g4 g5) := (lf_X4_bf_1_0_1 hr20 hhb hww hkk hN hF_5_0 hF_5_1 h_5 hF_6_0)
  have hRN_9 : okN 999 (nrm v0 v1 v2 v3n_5 hh v5 ww kk g1n_6 g2 g3 g4 g5) := by rw [hR_9]; exact tgP_ok _ hN
  have hc_10 := cutW (wc := [(xo_4_rri p0 h k0 (nI hrs)), (xo_3_iiiiiiiirrrrr h v0 v1 v2 v3n_5 (nI hh) v5 (nI ww) (nI kk) b1 b2 b3 b4 b5), (xI b1 cI 6 g1n_6), (xI b2 cI 6 g2), (xI b3 cI 6 g3), (xI b4 cI 6 g4), (xI b5 cI 6 g5), (xo_3_iiiiiiiirrrrr k0 u0n_5 u1n_5 u2n_5 u3n_5 u4n_5 u5n_5 u6n_5 u7n_5 o1 o2 o3 o4 o5), (xI o1 cI 6 f1n_5), (xI o2 cI 6 f2n_5), (xI o3 cI 6 f3n_5), (xI o4 cI 6 f4n_5), (xI o5 cI 6 f5n_5)]) hP hD hS hA [6, 7, 8, 9, 10, 11, 12, 0, 1, 2, 3, 4, 5] (by decide +kernel) rfl
  refine va_calli (va_runV (As := [.int 1, .int 0]) (rest := []) ⟨hx, hb, hml, hown, hts⟩ (r_X4_bf_0_1 l dC dI cI cZ cL cJ H.size p0 hrs h v0 v1 v2 v3n_5 v5 hh ww kk b1 b2 b3 b4 b5 g1n_6 g2 g3 g4 g5 k0 u0n_5 u1n_5 u2n_5 u3n_5 u4n_5 u5n_5 u6n_5 u7n_5 o1 o2 o3 o4 o5 f1n_5 f2n_5 f3n_5 f4n_5 f5n_5 (hr20) (hhb) (hww) (hkk) (hRN_9)) (cwV 2 hts gX4_bestFor_X4_bestFor rfl rfl rfl (by decide +kernel) ⟨Nat.le_of_ble_eq_true rfl, Nat.le_of_ble_eq_true rfl⟩) (pvW 4 6 hK hP rfl rfl hc_10) rfl rfl hl.1 rfl (lv_room (Nat.le_of_ble_eq_true rfl)) dX4_bestFor_62 ⟨Nat.le_of_ble_eq_true rfl, Nat.le_of_ble_eq_true rfl⟩) hS (fun q _ h => hc_10.2.2 q h) hc_10.2.2 (fun r_10 u_10 t_10 H1 locs ht hvm h_10 hB hz1 hk1 hS => ?_)
  refine xl_15_4 hB (fun v3n_10 u0n_10 u1n_10 u2n_10 u3n_10 u4n_10 u5n_10 u6n_10 u7n_10 g1n_10 f1n_10 f2n_10 f3n_10 f4n_10 f5n_10 hP1 hD1 hF_10_0 hF_10_1 => ?_)
  clear hB
  rw [ht] at hP1
  obtain ⟨hP, hD⟩ := va_join (wr := []) (w1 := [(xo_4_rri p0 h k0 (nI hrs)), (xo_3_iiiiiiiirrrrr h v0 v1 v2 v3n_10 (nI hh) v5 (nI ww) (nI kk) b1 b2 b3 b4 b5), (xI b1 cI 6 g1n_10), (xI b2 cI 6 g2), (xI b3 cI 6 g3), (xI b4 cI 6 g4), (xI b5 cI 6 g5), (xo_3_iiiiiiiirrrrr k0 u0n_10 u1n_10 u2n_10 u3n_10 u4n_10 u5n_10 u6n_10 u7n_10 o1 o2 o3 o4 o5), (xI o1 cI 6 f1n_10), (xI o2 cI 6 f2n_10), (xI o3 cI 6 f3n_10), (xI o4 cI 6 f4n_10), (xI o5 cI 6 f5n_10)]) hP hD [6, 7, 8, 9, 10, 11, 12, 0, 1, 2, 3, 4, 5] [] rfl rfl (by decide +kernel) (by decide +kernel) hk1 hc_10.2.2 hP1 hD1
  generalize H1 = H at hP hS ⊢
  have hP : va_P (dC, dI) vwCl [(xo_4_rri p0 h k0 (nI hrs)), (xo_3_iiiiiiiirrrrr h v0 v1 v2 v3n_10 (nI hh) v5 (nI ww) (nI kk) b1 b2 b3 b4 b5), (xI b1 cI 6 g1n_10), (xI b2 cI 6 g2), (xI b3 cI 6 g3), (xI b4 cI 6 g4), (xI b5 cI 6 g5), (xo_3_iiiiiiiirrrrr k0 u0n_10 u1n_10 u2n_10 u3n_10 u4n_10 u5n_10 u6n_10 u7n_10 o1 o2 o3 o4 o5), (xI o1 cI 6 f1n_10), (xI o2 cI 6 f2n_10), (xI o3 cI 6 f3n_10), (xI o4 cI 6 f4n_10), (xI o5 cI 6 f5n_10)] H := hP
  have hD := dto hP hD
  refine lv_istore (lv' := [(4, .int r_10), (3, .int r_5), (0, .ref p0), (1, .int 0), (2, .int 1)]) hx hb dX4_bestFor_65 hl (by decide) rfl (fun ls hl => ?_)
  refine lv_aload_n hx hb dX4_bestFor_67 rfl (lv_at hl 2 rfl) ?_
  refine lv_iload_n hx hb dX4_bestFor_68 rfl (lv_at hl 3 rfl) ?_
  have hc_11 := cutW (wc := [(xo_4_rri p0 h k0 (nI hrs)), (xo_3_iiiiiiiirrrrr h v0 v1 v2 v3n_10 (nI hh) v5 (nI ww) (nI kk) b1 b2 b3 b4 b5), (xI b1 cI 6 g1n_10), (xI b2 cI 6 g2), (xI b3 cI 6 g3), (xI b4 cI 6 g4), (xI b5 cI 6 g5)]) hP hD hS hA [0, 1, 2, 3, 4, 5, 6] (by decide +kernel) rfl
  refine va_callv (va_runV (As := [.int 0]) (rest := []) ⟨hx, hb, hml, hown, hts⟩ (r_X4_tn_0 l dC dI cI cZ cL cJ H.size p0 hrs h v0 v1 v2 v3n_10 v5 hh ww kk b1 b2 b3 b4 b5 g1n_10 g2 g3 g4 g5 k0 (hr20) (hhb) (hww) (hkk)) (cwV 1 hts gX4_bestFor_X4_turn rfl rfl rfl (by decide +kernel) ⟨Nat.le_of_ble_eq_true rfl, Nat.le_of_ble_eq_true rfl⟩) (pvW 4 0 hK hP rfl rfl hc_11) rfl rfl hl.1 rfl (lv_room (Nat.le_of_ble_eq_true rfl)) dX4_bestFor_69 ⟨Nat.le_of_ble_eq_true rfl, Nat.le_of_ble_eq_true rfl⟩) hS (fun q _ h => hc_11.2.2 q h) hc_11.2.2 (fun u_11 t_11 H1 locs ht hvm h_11 hB hz1 hk1 hS => ?_)
  refine xl_1_3 hB (fun g1n_11 hP1 hD1 hF_11_0 => ?_)
  clear hB
  rw [ht] at hP1
  obtain ⟨hP, hD⟩ := va_join (wr := [(xo_3_iiiiiiiirrrrr k0 u0n_10 u1n_10 u2n_10 u3n_10 u4n_10 u5n_10 u6n_10 u7n_10 o1 o2 o3 o4 o5), (xI o1 cI 6 f1n_10), (xI o2 cI 6 f2n_10), (xI o3 cI 6 f3n_10), (xI o4 cI 6 f4n_10), (xI o5 cI 6 f5n_10)]) (w1 := [(xo_4_rri p0 h k0 (nI hrs)), (xo_3_iiiiiiiirrrrr h v0 v1 v2 v3n_10 (nI hh) v5 (nI ww) (nI kk) b1 b2 b3 b4 b5), (xI b1 cI 6 g1n_11), (xI b2 cI 6 g2), (xI b3 cI 6 g3), (xI b4 cI 6 g4), (xI b5 cI 6 g5)]) hP hD [0, 1, 2, 3, 4, 5, 6] [7, 8, 9, 10, 11, 12] rfl rfl (by decide +kernel) (by decide +kernel) hk1 hc_11.2.2 hP1 hD1
  generalize H1 = H at hP hS ⊢
  have hP : va_P (dC, dI) vwCl [(xo_3_iiiiiiiirrrrr k0 u0n_10 u1n_10 u2n_10 u3n_10 u4n_10 u5n_10 u6n_10 u7n_10 o1 o2 o3 o4 o5), (xI o1 cI 6 f1n_10), (xI o2 cI 6 f2n_10), (xI o3 cI 6 f3n_10), (xI o4 cI 6 f4n_10), (xI o5 cI 6 f5n_10), (xo_4_rri p0 h k0 (nI hrs)), (xo_3_iiiiiiiirrrrr h v0 v1 v2 v3n_10 (nI hh) v5 (nI ww) (nI kk) b1 b2 b3 b4 b5), (xI b1 cI 6 g1n_11), (xI b2 cI 6 g2), (xI b3 cI 6 g3), (xI b4 cI 6 g4), (xI b5 cI 6 g5)] H := hP
  have hD := dto hP hD
  refine lv_iload_n hx hb dX4_bestFor_72 rfl (lv_at hl 3 rfl) ?_
  refine lv_if_eq (tgt := 85) hx hb dX4_bestFor_73 (by decide) (fun _ => ?_) (fun c_ => absurd (by decide) c_)
  refine lv_iload_n hx hb dX4_bestFor_85 rfl (lv_at hl 1 rfl) ?_
  refine lv_iload hx hb dX4_bestFor_86 (lv_at hl 0 rfl) ?_
  refine va_mmin hx hb (by rw [hml]; exact hl.1.symm) hown (hts _ mx_X4_bestFor_8) (hts _ mx_X4_bestFor_9) (hts _ mx_X4_bestFor_6) (hts _ mx_X4_bestFor_10) (Nat.le_of_ble_eq_true rfl) (Nat.le_of_ble_eq_true rfl) (Nat.zero_le _) (Nat.zero_le _) dX4_bestFor_88 ?_
  refine lv_topi (fun v_13 e_13 => ?_)
  have hX9 := cut2 (wc := [(xo_4_rri p0 h k0 (nI hrs)), (xo_3_iiiiiiiirrrrr h v0 v1 v2 v3n_10 (nI hh) v5 (nI ww) (nI kk) b1 b2 b3 b4 b5), (xI b1 cI 6 g1n_11), (xI b2 cI 6 g2), (xI b3 cI 6 g3), (xI b4 cI 6 g4), (xI b5 cI 6 g5), (xo_3_iiiiiiiirrrrr k0 u0n_10 u1n_10 u2n_10 u3n_10 u4n_10 u5n_10 u6n_10 u7n_10 o1 o2 o3 o4 o5), (xI o1 cI 6 f1n_10), (xI o2 cI 6 f2n_10), (xI o3 cI 6 f3n_10), (xI o4 cI 6 f4n_10), (xI o5 cI 6 f5n_10)]) hP hD [6, 7, 8, 9, 10, 11, 12, 0, 1, 2, 3, 4, 5] (by decide +kernel) rfl
  exact W.iret (v := v_13) hx hb hr (fun t ht hW => ⟨⟨v_13, (), rfl, (lf_X4_bf_1_0_4 hr20 hhb hww hkk hN hF_5_0 hF_5_1 h_5 hF_6_0 hR_9 hF_10_0 hF_10_1 h_10 hF_11_0 e_13), ⟨v3n_10, u0n_10, u1n_10, u2n_10, u3n_10, u4n_10, u5n_10, u6n_10, u7n_10, g1n_11, f1n_10, f2n_10, f3n_10, f4n_10, f5n_10, va_Ht ht hX9.1, hX9.2, (lf_X4_bf_1_0_2 hr20 hhb hww hkk hN hF_5_0 hF_5_1 h_5 hF_6_0 hR_9 hF_10_0 hF_10_1 h_10 hF_11_0 e_13), (lf_X4_bf_1_0_3 hr20 hhb hww hkk hN hF_5_0 hF_5_1 h_5 hF_6_0 hR_9 hF_10_0 hF_10_1 h_10 hF_11_0 e_13)⟩⟩, hS.F ht⟩) hS.2.2 dX4_bestFor_91
theorem lf_X4_bf_1_1_1 {hrs : Nat} {v0 : Int32} {v1 : Int32} {v2 : Int32} {v3 : Int32} {v5 : Int32} {hh : Nat} {ww : Nat} {kk : Nat} {g1 : Nat → Int32} {g2 : Nat → Int32} {g3 : Nat → Int32} {g4 : Nat → Int32} {g5 : Nat → Int32} {v3n_5 : Int32} {g1n_5 : Nat → Int32} {r_5 : Int32} {v3n_6 : Int32} (hr20 : hrs ≤ 20) (hhb : hh ≤ 999) (hww : ww ≤ 6) (hkk : kk ≤ 6) (hN : okN 999 (nrm v0 v1 v2 v3 hh v5 ww kk g1 g2 g3 g4 g5)) (hF_5_0 : v3n_5 = v3) (hF_5_1 : g1n_5 = g1) (h_5 : r_5 = (btV hrs 0 false (nrm v0 v1 v2 v3 hh v5 ww kk g1 g2 g3 g4 g5))) (hF_6_0 : v3n_6 = 1 - v3n_5) : (nrm v0 v1 v2 v3n_6 hh v5 ww kk g1n_5 g2 g3 g4 g5) = tgP true (nrm v0 v1 v2 v3 hh v5 ww kk g1 g2 g3 g4 g5) := by
  exact pl_c hN hF_5_0 hF_5_1 hF_6_0
theorem lf_X4_bf_1_1_2 {hrs : Nat} {v0 : Int32} {v1 : Int32} {v2 : Int32} {v3 : Int32} {v5 : Int32} {hh : Nat} {ww : Nat} {kk : Nat} {g1 : Nat → Int32} {g2 : Nat → Int32} {g3 : Nat → Int32} {g4 : Nat → Int32} {g5 : Nat → Int32} {v3n_5 : Int32} {g1n_5 : Nat → Int32} {r_5 : Int32} {v3n_6 : Int32} {v3n_10 : Int32} {g1n_10 : Nat → Int32} {r_10 : Int32} {v3n_11 : Int32} {v_13 : Int32} (hr20 : hrs ≤ 20) (hhb : hh ≤ 999) (hww : ww ≤ 6) (hkk : kk ≤ 6) (hN : okN 999 (nrm v0 v1 v2 v3 hh v5 ww kk g1 g2 g3 g4 g5)) (hF_5_0 : v3n_5 = v3) (hF_5_1 : g1n_5 = g1) (h_5 : r_5 = (btV hrs 0 false (nrm v0 v1 v2 v3 hh v5 ww kk g1 g2 g3 g4 g5))) (hF_6_0 : v3n_6 = 1 - v3n_5) (hR_9 : (nrm v0 v1 v2 v3n_6 hh v5 ww kk g1n_5 g2 g3 g4 g5) = tgP true (nrm v0 v1 v2 v3 hh v5 ww kk g1 g2 g3 g4 g5)) (hF_10_0 : v3n_10 = v3n_6) (hF_10_1 : g1n_10 = g1n_5) (h_10 : r_10 = (btV hrs 0 false (nrm v0 v1 v2 v3n_6 hh v5 ww kk g1n_5 g2 g3 g4 g5))) (hF_11_0 : v3n_11 = 1 - v3n_10) (e_13 : v_13 = (if r_5 < r_10 then r_10 else r_5)) : v3n_11 = v3 := by
  first
  | exact pb_1 h_5 h_10 hR_9 e_13
  | exact pb_c hF_11_0 hF_10_0 hF_6_0 hF_5_0
  | exact hF_10_1.trans hF_5_1
theorem lf_X4_bf_1_1_3 {hrs : Nat} {v0 : Int32} {v1 : Int32} {v2 : Int32} {v3 : Int32} {v5 : Int32} {hh : Nat} {ww : Nat} {kk : Nat} {g1 : Nat → Int32} {g2 : Nat → Int32} {g3 : Nat → Int32} {g4 : Nat → Int32} {g5 : Nat → Int32} {v3n_5 : Int32} {g1n_5 : Nat → Int32} {r_5 : Int32} {v3n_6 : Int32} {v3n_10 : Int32} {g1n_10 : Nat → Int32} {r_10 : Int32} {v3n_11 : Int32} {v_13 : Int32} (hr20 : hrs ≤ 20) (hhb : hh ≤ 999) (hww : ww ≤ 6) (hkk : kk ≤ 6) (hN : okN 999 (nrm v0 v1 v2 v3 hh v5 ww kk g1 g2 g3 g4 g5)) (hF_5_0 : v3n_5 = v3) (hF_5_1 : g1n_5 = g1) (h_5 : r_5 = (btV hrs 0 false (nrm v0 v1 v2 v3 hh v5 ww kk g1 g2 g3 g4 g5))) (hF_6_0 : v3n_6 = 1 - v3n_5) (hR_9 : (nrm v0 v1 v2 v3n_6 hh v5 ww kk g1n_5 g2 g3 g4 g5) = tgP true (nrm v0 v1 v2 v3 hh v5 ww kk g1 g2 g3 g4 g5)) (hF_10_0 : v3n_10 = v3n_6) (hF_10_1 : g1n_10 = g1n_5) (h_10 : r_10 = (btV hrs 0 false (nrm v0 v1 v2 v3n_6 hh v5 ww kk g1n_5 g2 g3 g4 g5))) (hF_11_0 : v3n_11 = 1 - v3n_10) (e_13 : v_13 = (if r_5 < r_10 then r_10 else r_5)) : g1n_10 = g1 := by
  first
  | exact pb_1 h_5 h_10 hR_9 e_13
  | exact pb_c hF_11_0 hF_10_0 hF_6_0 hF_5_0
  | exact hF_10_1.trans hF_5_1
theorem lf_X4_bf_1_1_4 {hrs : Nat} {v0 : Int32} {v1 : Int32} {v2 : Int32} {v3 : Int32} {v5 : Int32} {hh : Nat} {ww : Nat} {kk : Nat} {g1 : Nat → Int32} {g2 : Nat → Int32} {g3 : Nat → Int32} {g4 : Nat → Int32} {g5 : Nat → Int32} {v3n_5 : Int32} {g1n_5 : Nat → Int32} {r_5 : Int32} {v3n_6 : Int32} {v3n_10 : Int32} {g1n_10 : Nat → Int32} {r_10 : Int32} {v3n_11 : Int32} {v_13 : Int32} (hr20 : hrs ≤ 20) (hhb : hh ≤ 999) (hww : ww ≤ 6) (hkk : kk ≤ 6) (hN : okN 999 (nrm v0 v1 v2 v3 hh v5 ww kk g1 g2 g3 g4 g5)) (hF_5_0 : v3n_5 = v3) (hF_5_1 : g1n_5 = g1) (h_5 : r_5 = (btV hrs 0 false (nrm v0 v1 v2 v3 hh v5 ww kk g1 g2 g3 g4 g5))) (hF_6_0 : v3n_6 = 1 - v3n_5) (hR_9 : (nrm v0 v1 v2 v3n_6 hh v5 ww kk g1n_5 g2 g3 g4 g5) = tgP true (nrm v0 v1 v2 v3 hh v5 ww kk g1 g2 g3 g4 g5)) (hF_10_0 : v3n_10 = v3n_6) (hF_10_1 : g1n_10 = g1n_5) (h_10 : r_10 = (btV hrs 0 false (nrm v0 v1 v2 v3n_6 hh v5 ww kk g1n_5 g2 g3 g4 g5))) (hF_11_0 : v3n_11 = 1 - v3n_10) (e_13 : v_13 = (if r_5 < r_10 then r_10 else r_5)) : v_13 = (btV hrs 1 true (nrm v0 v1 v2 v3 hh v5 ww kk g1 g2 g3 g4 g5)) := by
  first
  | exact pb_1 h_5 h_10 hR_9 e_13
  | exact pb_c hF_11_0 hF_10_0 hF_6_0 hF_5_0
  | exact hF_10_1.trans hF_5_1
set_option maxHeartbeats 4000000 in
set_option maxRecDepth 100000 in
theorem r_X4_bf_1_1 (l : Launch) (dC : Nat → ClassId) (dI : Nat → Nat → Nat) (cI cZ cL cJ : ClassId) (sz : Nat) (p0 : Nat) (hrs : Nat) (h : Nat) (v0 : Int32) (v1 : Int32) (v2 : Int32) (v3 : Int32) (v5 : Int32) (hh : Nat) (ww : Nat) (kk : Nat) (b1 : Nat) (b2 : Nat) (b3 : Nat) (b4 : Nat) (b5 : Nat) (g1 : Nat → Int32) (g2 : Nat → Int32) (g3 : Nat → Int32) (g4 : Nat → Int32) (g5 : Nat → Int32) (k0 : Nat) (u0 : Int32) (u1 : Int32) (u2 : Int32) (u3 : Int32) (u4 : Int32) (u5 : Int32) (u6 : Int32) (u7 : Int32) (o1 : Nat) (o2 : Nat) (o3 : Nat) (o4 : Nat) (o5 : Nat) (f1 : Nat → Int32) (f2 : Nat → Int32) (f3 : Nat → Int32) (f4 : Nat → Int32) (f5 : Nat → Int32) (hr20 : hrs ≤ 20) (hhb : hh ≤ 999) (hww : ww ≤ 6) (hkk : kk ≤ 6) (hN : okN 999 (nrm v0 v1 v2 v3 hh v5 ww kk g1 g2 g3 g4 g5)) : Met l yX4_bestFor wsX4_bestFor ({ frames := 6, cells := 0, slots := 0, locals := 134 }) (va_Pc [.ref p0, .int 1, .int 1] (fun U => U.heap.size = sz ∧ va_P (dC, dI) vwCl [(xo_4_rri p0 h k0 (nI hrs)), (xo_3_iiiiiiiirrrrr h v0 v1 v2 v3 (nI hh) v5 (nI ww) (nI kk) b1 b2 b3 b4 b5), (xI b1 cI 6 g1), (xI b2 cI 6 g2), (xI b3 cI 6 g3), (xI b4 cI 6 g4), (xI b5 cI 6 g5), (xo_3_iiiiiiiirrrrr k0 u0 u1 u2 u3 u4 u5 u6 u7 o1 o2 o3 o4 o5), (xI o1 cI 6 f1), (xI o2 cI 6 f2), (xI o3 cI 6 f3), (xI o4 cI 6 f4), (xI o5 cI 6 f5)] U.heap ∧ va_K (dC, dI) vwCl [(cI, .int), (cZ, .boolean), (cL, .object RX3), (cJ, .array .int)] U ∧ va_D (fun _ => True) [(xo_4_rri p0 h k0 (nI hrs)), (xo_3_iiiiiiiirrrrr h v0 v1 v2 v3 (nI hh) v5 (nI ww) (nI kk) b1 b2 b3 b4 b5), (xI b1 cI 6 g1), (xI b2 cI 6 g2), (xI b3 cI 6 g3), (xI b4 cI 6 g4), (xI b5 cI 6 g5), (xo_3_iiiiiiiirrrrr k0 u0 u1 u2 u3 u4 u5 u6 u7 o1 o2 o3 o4 o5), (xI o1 cI 6 f1), (xI o2 cI 6 f2), (xI o3 cI 6 f3), (xI o4 cI 6 f4), (xI o5 cI 6 f5)])) (va_Qi (fun r (_ : Unit) => r = (btV hrs 1 true (nrm v0 v1 v2 v3 hh v5 ww kk g1 g2 g3 g4 g5))) (fun (_ : Unit) t => ∃ (v3n : Int32) (u0n : Int32) (u1n : Int32) (u2n : Int32) (u3n : Int32) (u4n : Int32) (u5n : Int32) (u6n : Int32) (u7n : Int32) (g1n : Nat → Int32) (f1n : Nat → Int32) (f2n : Nat → Int32) (f3n : Nat → Int32) (f4n : Nat → Int32) (f5n : Nat → Int32), va_P (dC, dI) vwCl [(xo_4_rri p0 h k0 (nI hrs)), (xo_3_iiiiiiiirrrrr h v0 v1 v2 v3n (nI hh) v5 (nI ww) (nI kk) b1 b2 b3 b4 b5), (xI b1 cI 6 g1n), (xI b2 cI 6 g2), (xI b3 cI 6 g3), (xI b4 cI 6 g4), (xI b5 cI 6 g5), (xo_3_iiiiiiiirrrrr k0 u0n u1n u2n u3n u4n u5n u6n u7n o1 o2 o3 o4 o5), (xI o1 cI 6 f1n), (xI o2 cI 6 f2n), (xI o3 cI 6 f3n), (xI o4 cI 6 f4n), (xI o5 cI 6 f5n)] t.heap ∧ va_D (va_A [(xo_4_rri p0 h k0 (nI hrs)), (xo_3_iiiiiiiirrrrr h v0 v1 v2 v3 (nI hh) v5 (nI ww) (nI kk) b1 b2 b3 b4 b5), (xI b1 cI 6 g1), (xI b2 cI 6 g2), (xI b3 cI 6 g3), (xI b4 cI 6 g4), (xI b5 cI 6 g5), (xo_3_iiiiiiiirrrrr k0 u0 u1 u2 u3 u4 u5 u6 u7 o1 o2 o3 o4 o5), (xI o1 cI 6 f1), (xI o2 cI 6 f2), (xI o3 cI 6 f3), (xI o4 cI 6 f4), (xI o5 cI 6 f5)] sz) [(xo_4_rri p0 h k0 (nI hrs)), (xo_3_iiiiiiiirrrrr h v0 v1 v2 v3n (nI hh) v5 (nI ww) (nI kk) b1 b2 b3 b4 b5), (xI b1 cI 6 g1n), (xI b2 cI 6 g2), (xI b3 cI 6 g3), (xI b4 cI 6 g4), (xI b5 cI 6 g5), (xo_3_iiiiiiiirrrrr k0 u0n u1n u2n u3n u4n u5n u6n u7n o1 o2 o3 o4 o5), (xI o1 cI 6 f1n), (xI o2 cI 6 f2n), (xI o3 cI 6 f3n), (xI o4 cI 6 f4n), (xI o5 cI 6 f5n)] ∧ v3n = v3 ∧ g1n = g1) (va_A [(xo_4_rri p0 h k0 (nI hrs)), (xo_3_iiiiiiiirrrrr h v0 v1 v2 v3 (nI hh) v5 (nI ww) (nI kk) b1 b2 b3 b4 b5), (xI b1 cI 6 g1), (xI b2 cI 6 g2), (xI b3 cI 6 g3), (xI b4 cI 6 g4), (xI b5 cI 6 g5), (xo_3_iiiiiiiirrrrr k0 u0 u1 u2 u3 u4 u5 u6 u7 o1 o2 o3 o4 o5), (xI o1 cI 6 f1), (xI o2 cI 6 f2), (xI o3 cI 6 f3), (xI o4 cI 6 f4), (xI o5 cI 6 f5)] sz)) 0 0 (va_A [(xo_4_rri p0 h k0 (nI hrs)), (xo_3_iiiiiiiirrrrr h v0 v1 v2 v3 (nI hh) v5 (nI ww) (nI kk) b1 b2 b3 b4 b5), (xI b1 cI 6 g1), (xI b2 cI 6 g2), (xI b3 cI 6 g3), (xI b4 cI 6 g4), (xI b5 cI 6 g5), (xo_3_iiiiiiiirrrrr k0 u0 u1 u2 u3 u4 u5 u6 u7 o1 o2 o3 o4 o5), (xI o1 cI 6 f1), (xI o2 cI 6 f2), (xI o3 cI 6 f3), (xI o4 cI 6 f4), (xI o5 cI 6 f5)] sz) := by
  refine Met.ofW (cc := cX4_bestFor) (maxL := 5) (ret := (some .int)) (by decide) rfl ?_
  intro p e s m args below meth c s₁ B hml hv
  obtain ⟨rfl, hsz, hP, hK, hD0⟩ := hv
  have hx := B.exec
  have hb := B.bytes
  have hr := B.returns
  have hts := atoms_spec (ws := wsX4_bestFor) B.pre
  have hown : s.vm.findClass RX4 = some m.cls := findClass_of_methodNamed B.named
  have hlocks := B.notSynchronized
  subst hsz
  have hD := hD0.self (sz := s.heap.size)
  generalize hAe : va_A [(xo_4_rri p0 h k0 (nI hrs)), (xo_3_iiiiiiiirrrrr h v0 v1 v2 v3 (nI hh) v5 (nI ww) (nI kk) b1 b2 b3 b4 b5), (xI b1 cI 6 g1), (xI b2 cI 6 g2), (xI b3 cI 6 g3), (xI b4 cI 6 g4), (xI b5 cI 6 g5), (xo_3_iiiiiiiirrrrr k0 u0 u1 u2 u3 u4 u5 u6 u7 o1 o2 o3 o4 o5), (xI o1 cI 6 f1), (xI o2 cI 6 f2), (xI o3 cI 6 f3), (xI o4 cI 6 f4), (xI o5 cI 6 f5)] s.heap.size = A at hD ⊢
  have hA : ∀ q : Nat, s.heap.size ≤ q → A q := fun q h => by rw [← hAe]; exact Or.inr h
  have hS : va_S A s.heap s.heap [] := va_S.rf
  have hP : va_P (dC, dI) vwCl [(xo_4_rri p0 h k0 (nI hrs)), (xo_3_iiiiiiiirrrrr h v0 v1 v2 v3 (nI hh) v5 (nI ww) (nI kk) b1 b2 b3 b4 b5), (xI b1 cI 6 g1), (xI b2 cI 6 g2), (xI b3 cI 6 g3), (xI b4 cI 6 g4), (xI b5 cI 6 g5), (xo_3_iiiiiiiirrrrr k0 u0 u1 u2 u3 u4 u5 u6 u7 o1 o2 o3 o4 o5), (xI o1 cI 6 f1), (xI o2 cI 6 f2), (xI o3 cI 6 f3), (xI o4 cI 6 f4), (xI o5 cI 6 f5)] s.heap := hP
  have hl := lv_entry ([.ref p0, .int 1, .int 1]) (n := 5) (Nat.le_of_ble_eq_true rfl)
  rw [lg_entry_eq]
  generalize (lg_sl ([.ref p0, .int 1, .int 1]) ++ List.replicate (5 - (lg_sl ([.ref p0, .int 1, .int 1])).length) Slot.unset).toArray = ls at hl ⊢
  have hl : lv_has ls 5 [(0, .ref p0), (1, .int 1), (2, .int 1)] := hl
  refine lv_iload_n hx hb dX4_bestFor_0 rfl (lv_at hl 2 rfl) ?_
  refine lv_if_gt (tgt := 27) hx hb dX4_bestFor_1 (by decide) (fun _ => ?_) (fun c_ => absurd (by decide) c_)
  refine lv_aload_n hx hb dX4_bestFor_27 rfl (lv_at hl 0 rfl) ?_
  refine lv_iload_n hx hb dX4_bestFor_28 rfl (lv_at hl 1 rfl) ?_
  refine lv_if_ne (tgt := 36) hx hb dX4_bestFor_29 (by decide) (fun _ => ?_) (fun c_ => absurd c_ (by decide))
  refine lv_iconst (v := 0) hx hb dX4_bestFor_36 (by decide) ?_
  refine lv_iload_n hx hb dX4_bestFor_37 rfl (lv_at hl 2 rfl) ?_
  refine lv_iconst (v := 1) hx hb dX4_bestFor_38 (by decide) ?_
  refine lv_isub hx hb dX4_bestFor_39 ?_
  refine lv_topi (fun v_3 e_3 => ?_)
  obtain rfl : v_3 = 0 := (e_3).trans (by decide)
  have hc_5 := cutW (wc := [(xo_4_rri p0 h k0 (nI hrs)), (xo_3_iiiiiiiirrrrr h v0 v1 v2 v3 (nI hh) v5 (nI ww) (nI kk) b1 b2 b3 b4 b5), (xI b1 cI 6 g1), (xI b2 cI 6 g2), (xI b3 cI 6 g3), (xI b4 cI 6 g4), (xI b5 cI 6 g5), (xo_3_iiiiiiiirrrrr k0 u0 u1 u2 u3 u4 u5 u6 u7 o1 o2 o3 o4 o5), (xI o1 cI 6 f1), (xI o2 cI 6 f2), (xI o3 cI 6 f3), (xI o4 cI 6 f4), (xI o5 cI 6 f5)]) hP hD hS hA [0, 1, 2, 3, 4, 5, 6, 7, 8, 9, 10, 11, 12] (by decide +kernel) rfl
  refine va_calli (va_runV (As := [.int 0, .int 0]) (rest := []) ⟨hx, hb, hml, hown, hts⟩ (r_X4_bf_0_0 l dC dI cI cZ cL cJ s.heap.size p0 hrs h v0 v1 v2 v3 v5 hh ww kk b1 b2 b3 b4 b5 g1 g2 g3 g4 g5 k0 u0 u1 u2 u3 u4 u5 u6 u7 o1 o2 o3 o4 o5 f1 f2 f3 f4 f5 (hr20) (hhb) (hww) (hkk) (hN)) (cwV 2 hts gX4_bestFor_X4_bestFor rfl rfl rfl (by decide +kernel) ⟨Nat.le_of_ble_eq_true rfl, Nat.le_of_ble_eq_true rfl⟩) (pvW 4 0 hK hP rfl rfl hc_5) rfl rfl hl.1 rfl (lv_room (Nat.le_of_ble_eq_true rfl)) dX4_bestFor_40 ⟨Nat.le_of_ble_eq_true rfl, Nat.le_of_ble_eq_true rfl⟩) hS (fun q _ h => hc_5.2.2 q h) hc_5.2.2 (fun r_5 u_5 t_5 H1 locs ht hvm h_5 hB hz1 hk1 hS => ?_)
  refine xl_15_4 hB (fun v3n_5 u0n_5 u1n_5 u2n_5 u3n_5 u4n_5 u5n_5 u6n_5 u7n_5 g1n_5 f1n_5 f2n_5 f3n_5 f4n_5 f5n_5 hP1 hD1 hF_5_0 hF_5_1 => ?_)
  clear hB
  rw [ht] at hP1
  obtain ⟨hP, hD⟩ := va_join (wr := []) (w1 := [(xo_4_rri p0 h k0 (nI hrs)), (xo_3_iiiiiiiirrrrr h v0 v1 v2 v3n_5 (nI hh) v5 (nI ww) (nI kk) b1 b2 b3 b4 b5), (xI b1 cI 6 g1n_5), (xI b2 cI 6 g2), (xI b3 cI 6 g3), (xI b4 cI 6 g4), (xI b5 cI 6 g5), (xo_3_iiiiiiiirrrrr k0 u0n_5 u1n_5 u2n_5 u3n_5 u4n_5 u5n_5 u6n_5 u7n_5 o1 o2 o3 o4 o5), (xI o1 cI 6 f1n_5), (xI o2 cI 6 f2n_5), (xI o3 cI 6 f3n_5), (xI o4 cI 6 f4n_5), (xI o5 cI 6 f5n_5)]) hP hD [0, 1, 2, 3, 4, 5, 6, 7, 8, 9, 10, 11, 12] [] rfl rfl (by decide +kernel) (by decide +kernel) hk1 hc_5.2.2 hP1 hD1
  generalize H1 = H at hP hS ⊢
  have hP : va_P (dC, dI) vwCl [(xo_4_rri p0 h k0 (nI hrs)), (xo_3_iiiiiiiirrrrr h v0 v1 v2 v3n_5 (nI hh) v5 (nI ww) (nI kk) b1 b2 b3 b4 b5), (xI b1 cI 6 g1n_5), (xI b2 cI 6 g2), (xI b3 cI 6 g3), (xI b4 cI 6 g4), (xI b5 cI 6 g5), (xo_3_iiiiiiiirrrrr k0 u0n_5 u1n_5 u2n_5 u3n_5 u4n_5 u5n_5 u6n_5 u7n_5 o1 o2 o3 o4 o5), (xI o1 cI 6 f1n_5), (xI o2 cI 6 f2n_5), (xI o3 cI 6 f3n_5), (xI o4 cI 6 f4n_5), (xI o5 cI 6 f5n_5)] H := hP
  have hD := dto hP hD
  refine lv_istore_n (lv' := [(3, .int r_5), (0, .ref p0), (1, .int 1), (2, .int 1)]) hx hb dX4_bestFor_43 rfl hl (by decide) rfl (fun ls hl => ?_)
  refine lv_aload_n hx hb dX4_bestFor_44 rfl (lv_at hl 1 rfl) ?_
  refine lv_iload_n hx hb dX4_bestFor_45 rfl (lv_at hl 2 rfl) ?_
  have hc_6 := cutW (wc := [(xo_4_rri p0 h k0 (nI hrs)), (xo_3_iiiiiiiirrrrr h v0 v1 v2 v3n_5 (nI hh) v5 (nI ww) (nI kk) b1 b2 b3 b4 b5), (xI b1 cI 6 g1n_5), (xI b2 cI 6 g2), (xI b3 cI 6 g3), (xI b4 cI 6 g4), (xI b5 cI 6 g5)]) hP hD hS hA [0, 1, 2, 3, 4, 5, 6] (by decide +kernel) rfl
  refine va_callv (va_runV (As := [.int 1]) (rest := []) ⟨hx, hb, hml, hown, hts⟩ (r_X4_tn_1 l dC dI cI cZ cL cJ H.size p0 hrs h v0 v1 v2 v3n_5 v5 hh ww kk b1 b2 b3 b4 b5 g1n_5 g2 g3 g4 g5 k0 (hr20) (hhb) (hww) (hkk)) (cwV 1 hts gX4_bestFor_X4_turn rfl rfl rfl (by decide +kernel) ⟨Nat.le_of_ble_eq_true rfl, Nat.le_of_ble_eq_true rfl⟩) (pvW 4 0 hK hP rfl rfl hc_6) rfl rfl hl.1 rfl (lv_room (Nat.le_of_ble_eq_true rfl)) dX4_bestFor_46 ⟨Nat.le_of_ble_eq_true rfl, Nat.le_of_ble_eq_true rfl⟩) hS (fun q _ h => hc_6.2.2 q h) hc_6.2.2 (fun u_6 t_6 H1 locs ht hvm h_6 hB hz1 hk1 hS => ?_)
  refine xl_1_3 hB (fun v3n_6 hP1 hD1 hF_6_0 => ?_)
  clear hB
  rw [ht] at hP1
  obtain ⟨hP, hD⟩ := va_join (wr := [(xo_3_iiiiiiiirrrrr k0 u0n_5 u1n_5 u2n_5 u3n_5 u4n_5 u5n_5 u6n_5 u7n_5 o1 o2 o3 o4 o5), (xI o1 cI 6 f1n_5), (xI o2 cI 6 f2n_5), (xI o3 cI 6 f3n_5), (xI o4 cI 6 f4n_5), (xI o5 cI 6 f5n_5)]) (w1 := [(xo_4_rri p0 h k0 (nI hrs)), (xo_3_iiiiiiiirrrrr h v0 v1 v2 v3n_6 (nI hh) v5 (nI ww) (nI kk) b1 b2 b3 b4 b5), (xI b1 cI 6 g1n_5), (xI b2 cI 6 g2), (xI b3 cI 6 g3), (xI b4 cI 6 g4), (xI b5 cI 6 g5)]) hP hD [0, 1, 2, 3, 4, 5, 6] [7, 8, 9, 10, 11, 12] rfl rfl (by decide +kernel) (by decide +kernel) hk1 hc_6.2.2 hP1 hD1
  generalize H1 = H at hP hS ⊢
  have hP : va_P (dC, dI) vwCl [(xo_3_iiiiiiiirrrrr k0 u0n_5 u1n_5 u2n_5 u3n_5 u4n_5 u5n_5 u6n_5 u7n_5 o1 o2 o3 o4 o5), (xI o1 cI 6 f1n_5), (xI o2 cI 6 f2n_5), (xI o3 cI 6 f3n_5), (xI o4 cI 6 f4n_5), (xI o5 cI 6 f5n_5), (xo_4_rri p0 h k0 (nI hrs)), (xo_3_iiiiiiiirrrrr h v0 v1 v2 v3n_6 (nI hh) v5 (nI ww) (nI kk) b1 b2 b3 b4 b5), (xI b1 cI 6 g1n_5), (xI b2 cI 6 g2), (xI b3 cI 6 g3), (xI b4 cI 6 g4), (xI b5 cI 6 g5)] H := hP
  have hD := dto hP hD
  refine lv_aload_n hx hb dX4_bestFor_49 rfl (lv_at hl 1 rfl) ?_
  refine lv_iload_n hx hb dX4_bestFor_50 rfl (lv_at hl 2 rfl) ?_
  refine lv_if_ne (tgt := 58) hx hb dX4_bestFor_51 (by decide) (fun _ => ?_) (fun c_ => absurd c_ (by decide))
  refine lv_iconst (v := 0) hx hb dX4_bestFor_58 (by decide) ?_
  refine lv_iload_n hx hb dX4_bestFor_59 rfl (lv_at hl 3 rfl) ?_
  refine lv_iconst (v := 1) hx hb dX4_bestFor_60 (by decide) ?_
  refine lv_isub hx hb dX4_bestFor_61 ?_
  refine lv_topi (fun v_8 e_8 => ?_)
  obtain rfl : v_8 = 0 := (e_8).trans (by decide)
  have hR_9 : (nrm v0 v1 v2 v3n_6 hh v5 ww kk g1n_5 g2 g3 g4 g5) = tgP true (nrm v0 v1 v2 v3 hh v5 ww kk g1 g2 g3 g4 g5) := (lf_X4_bf_1_1_1 hr20 hhb hww hkk hN hF_5_0 hF_5_1 h_5 hF_6_0)
  have hRN_9 : okN 999 (nrm v0 v1 v2 v3n_6 hh v5 ww kk g1n_5 g2 g3 g4 g5) := by rw [hR_9]; exact tgP_ok _ hN
  have hc_10 := cutW (wc := [(xo_4_rri p0 h k0 (nI hrs)), (xo_3_iiiiiiiirrrrr h v0 v1 v2 v3n_6 (nI hh) v5 (nI ww) (nI kk) b1 b2 b3 b4 b5), (xI b1 cI 6 g1n_5), (xI b2 cI 6 g2), (xI b3 cI 6 g3), (xI b4 cI 6 g4), (xI b5 cI 6 g5), (xo_3_iiiiiiiirrrrr k0 u0n_5 u1n_5 u2n_5 u3n_5 u4n_5 u5n_5 u6n_5 u7n_5 o1 o2 o3 o4 o5), (xI o1 cI 6 f1n_5), (xI o2 cI 6 f2n_5), (xI o3 cI 6 f3n_5), (xI o4 cI 6 f4n_5), (xI o5 cI 6 f5n_5)]) hP hD hS hA [6, 7, 8, 9, 10, 11, 12, 0, 1, 2, 3, 4, 5] (by decide +kernel) rfl
  refine va_calli (va_runV (As := [.int 0, .int 0]) (rest := []) ⟨hx, hb, hml, hown, hts⟩ (r_X4_bf_0_0 l dC dI cI cZ cL cJ H.size p0 hrs h v0 v1 v2 v3n_6 v5 hh ww kk b1 b2 b3 b4 b5 g1n_5 g2 g3 g4 g5 k0 u0n_5 u1n_5 u2n_5 u3n_5 u4n_5 u5n_5 u6n_5 u7n_5 o1 o2 o3 o4 o5 f1n_5 f2n_5 f3n_5 f4n_5 f5n_5 (hr20) (hhb) (hww) (hkk) (hRN_9)) (cwV 2 hts gX4_bestFor_X4_bestFor rfl rfl rfl (by decide +kernel) ⟨Nat.le_of_ble_eq_true rfl, Nat.le_of_ble_eq_true rfl⟩) (pvW 4 6 hK hP rfl rfl hc_10) rfl rfl hl.1 rfl (lv_room (Nat.le_of_ble_eq_true rfl)) dX4_bestFor_62 ⟨Nat.le_of_ble_eq_true rfl, Nat.le_of_ble_eq_true rfl⟩) hS (fun q _ h => hc_10.2.2 q h) hc_10.2.2 (fun r_10 u_10 t_10 H1 locs ht hvm h_10 hB hz1 hk1 hS => ?_)
  refine xl_15_4 hB (fun v3n_10 u0n_10 u1n_10 u2n_10 u3n_10 u4n_10 u5n_10 u6n_10 u7n_10 g1n_10 f1n_10 f2n_10 f3n_10 f4n_10 f5n_10 hP1 hD1 hF_10_0 hF_10_1 => ?_)
  clear hB
  rw [ht] at hP1
  obtain ⟨hP, hD⟩ := va_join (wr := []) (w1 := [(xo_4_rri p0 h k0 (nI hrs)), (xo_3_iiiiiiiirrrrr h v0 v1 v2 v3n_10 (nI hh) v5 (nI ww) (nI kk) b1 b2 b3 b4 b5), (xI b1 cI 6 g1n_10), (xI b2 cI 6 g2), (xI b3 cI 6 g3), (xI b4 cI 6 g4), (xI b5 cI 6 g5), (xo_3_iiiiiiiirrrrr k0 u0n_10 u1n_10 u2n_10 u3n_10 u4n_10 u5n_10 u6n_10 u7n_10 o1 o2 o3 o4 o5), (xI o1 cI 6 f1n_10), (xI o2 cI 6 f2n_10), (xI o3 cI 6 f3n_10), (xI o4 cI 6 f4n_10), (xI o5 cI 6 f5n_10)]) hP hD [6, 7, 8, 9, 10, 11, 12, 0, 1, 2, 3, 4, 5] [] rfl rfl (by decide +kernel) (by decide +kernel) hk1 hc_10.2.2 hP1 hD1
  generalize H1 = H at hP hS ⊢
  have hP : va_P (dC, dI) vwCl [(xo_4_rri p0 h k0 (nI hrs)), (xo_3_iiiiiiiirrrrr h v0 v1 v2 v3n_10 (nI hh) v5 (nI ww) (nI kk) b1 b2 b3 b4 b5), (xI b1 cI 6 g1n_10), (xI b2 cI 6 g2), (xI b3 cI 6 g3), (xI b4 cI 6 g4), (xI b5 cI 6 g5), (xo_3_iiiiiiiirrrrr k0 u0n_10 u1n_10 u2n_10 u3n_10 u4n_10 u5n_10 u6n_10 u7n_10 o1 o2 o3 o4 o5), (xI o1 cI 6 f1n_10), (xI o2 cI 6 f2n_10), (xI o3 cI 6 f3n_10), (xI o4 cI 6 f4n_10), (xI o5 cI 6 f5n_10)] H := hP
  have hD := dto hP hD
  refine lv_istore (lv' := [(4, .int r_10), (3, .int r_5), (0, .ref p0), (1, .int 1), (2, .int 1)]) hx hb dX4_bestFor_65 hl (by decide) rfl (fun ls hl => ?_)
  refine lv_aload_n hx hb dX4_bestFor_67 rfl (lv_at hl 2 rfl) ?_
  refine lv_iload_n hx hb dX4_bestFor_68 rfl (lv_at hl 3 rfl) ?_
  have hc_11 := cutW (wc := [(xo_4_rri p0 h k0 (nI hrs)), (xo_3_iiiiiiiirrrrr h v0 v1 v2 v3n_10 (nI hh) v5 (nI ww) (nI kk) b1 b2 b3 b4 b5), (xI b1 cI 6 g1n_10), (xI b2 cI 6 g2), (xI b3 cI 6 g3), (xI b4 cI 6 g4), (xI b5 cI 6 g5)]) hP hD hS hA [0, 1, 2, 3, 4, 5, 6] (by decide +kernel) rfl
  refine va_callv (va_runV (As := [.int 1]) (rest := []) ⟨hx, hb, hml, hown, hts⟩ (r_X4_tn_1 l dC dI cI cZ cL cJ H.size p0 hrs h v0 v1 v2 v3n_10 v5 hh ww kk b1 b2 b3 b4 b5 g1n_10 g2 g3 g4 g5 k0 (hr20) (hhb) (hww) (hkk)) (cwV 1 hts gX4_bestFor_X4_turn rfl rfl rfl (by decide +kernel) ⟨Nat.le_of_ble_eq_true rfl, Nat.le_of_ble_eq_true rfl⟩) (pvW 4 0 hK hP rfl rfl hc_11) rfl rfl hl.1 rfl (lv_room (Nat.le_of_ble_eq_true rfl)) dX4_bestFor_69 ⟨Nat.le_of_ble_eq_true rfl, Nat.le_of_ble_eq_true rfl⟩) hS (fun q _ h => hc_11.2.2 q h) hc_11.2.2 (fun u_11 t_11 H1 locs ht hvm h_11 hB hz1 hk1 hS => ?_)
  refine xl_1_3 hB (fun v3n_11 hP1 hD1 hF_11_0 => ?_)
  clear hB
  rw [ht] at hP1
  obtain ⟨hP, hD⟩ := va_join (wr := [(xo_3_iiiiiiiirrrrr k0 u0n_10 u1n_10 u2n_10 u3n_10 u4n_10 u5n_10 u6n_10 u7n_10 o1 o2 o3 o4 o5), (xI o1 cI 6 f1n_10), (xI o2 cI 6 f2n_10), (xI o3 cI 6 f3n_10), (xI o4 cI 6 f4n_10), (xI o5 cI 6 f5n_10)]) (w1 := [(xo_4_rri p0 h k0 (nI hrs)), (xo_3_iiiiiiiirrrrr h v0 v1 v2 v3n_11 (nI hh) v5 (nI ww) (nI kk) b1 b2 b3 b4 b5), (xI b1 cI 6 g1n_10), (xI b2 cI 6 g2), (xI b3 cI 6 g3), (xI b4 cI 6 g4), (xI b5 cI 6 g5)]) hP hD [0, 1, 2, 3, 4, 5, 6] [7, 8, 9, 10, 11, 12] rfl rfl (by decide +kernel) (by decide +kernel) hk1 hc_11.2.2 hP1 hD1
  generalize H1 = H at hP hS ⊢
  have hP : va_P (dC, dI) vwCl [(xo_3_iiiiiiiirrrrr k0 u0n_10 u1n_10 u2n_10 u3n_10 u4n_10 u5n_10 u6n_10 u7n_10 o1 o2 o3 o4 o5), (xI o1 cI 6 f1n_10), (xI o2 cI 6 f2n_10), (xI o3 cI 6 f3n_10), (xI o4 cI 6 f4n_10), (xI o5 cI 6 f5n_10), (xo_4_rri p0 h k0 (nI hrs)), (xo_3_iiiiiiiirrrrr h v0 v1 v2 v3n_11 (nI hh) v5 (nI ww) (nI kk) b1 b2 b3 b4 b5), (xI b1 cI 6 g1n_10), (xI b2 cI 6 g2), (xI b3 cI 6 g3), (xI b4 cI 6 g4), (xI b5 cI 6 g5)] H := hP
  have hD := dto hP hD
  refine lv_iload_n hx hb dX4_bestFor_72 rfl (lv_at hl 3 rfl) ?_
  refine lv_if_eq (tgt := 85) hx hb dX4_bestFor_73 (by decide) (fun c_ => absurd c_ (by decide)) (fun _ => ?_)
  refine lv_iload_n hx hb dX4_bestFor_76 rfl (lv_at hl 1 rfl) ?_
  refine lv_iload hx hb dX4_bestFor_77 (lv_at hl 0 rfl) ?_
  refine va_mmax hx hb (by rw [hml]; exact hl.1.symm) hown (hts _ mx_X4_bestFor_4) (hts _ mx_X4_bestFor_5) (hts _ mx_X4_bestFor_6) (hts _ mx_X4_bestFor_7) (Nat.le_of_ble_eq_true rfl) (Nat.le_of_ble_eq_true rfl) (Nat.zero_le _) (Nat.zero_le _) dX4_bestFor_79 ?_
  refine lv_topi (fun v_13 e_13 => ?_)
  refine lv_goto (tgt := 91) hx hb dX4_bestFor_82 (by decide) ?_
  have hX9 := cut2 (wc := [(xo_4_rri p0 h k0 (nI hrs)), (xo_3_iiiiiiiirrrrr h v0 v1 v2 v3n_11 (nI hh) v5 (nI ww) (nI kk) b1 b2 b3 b4 b5), (xI b1 cI 6 g1n_10), (xI b2 cI 6 g2), (xI b3 cI 6 g3), (xI b4 cI 6 g4), (xI b5 cI 6 g5), (xo_3_iiiiiiiirrrrr k0 u0n_10 u1n_10 u2n_10 u3n_10 u4n_10 u5n_10 u6n_10 u7n_10 o1 o2 o3 o4 o5), (xI o1 cI 6 f1n_10), (xI o2 cI 6 f2n_10), (xI o3 cI 6 f3n_10), (xI o4 cI 6 f4n_10), (xI o5 cI 6 f5n_10)]) hP hD [6, 7, 8, 9, 10, 11, 12, 0, 1, 2, 3, 4, 5] (by decide +kernel) rfl
  exact W.iret (v := v_13) hx hb hr (fun t ht hW => ⟨⟨v_13, (), rfl, (lf_X4_bf_1_1_4 hr20 hhb hww hkk hN hF_5_0 hF_5_1 h_5 hF_6_0 hR_9 hF_10_0 hF_10_1 h_10 hF_11_0 e_13), ⟨v3n_11, u0n_10, u1n_10, u2n_10, u3n_10, u4n_10, u5n_10, u6n_10, u7n_10, g1n_10, f1n_10, f2n_10, f3n_10, f4n_10, f5n_10, va_Ht ht hX9.1, hX9.2, (lf_X4_bf_1_1_2 hr20 hhb hww hkk hN hF_5_0 hF_5_1 h_5 hF_6_0 hR_9 hF_10_0 hF_10_1 h_10 hF_11_0 e_13), (lf_X4_bf_1_1_3 hr20 hhb hww hkk hN hF_5_0 hF_5_1 h_5 hF_6_0 hR_9 hF_10_0 hF_10_1 h_10 hF_11_0 e_13)⟩⟩, hS.F ht⟩) hS.2.2 dX4_bestFor_91
theorem lf_X4_bf_2_0_1 {hrs : Nat} {v0 : Int32} {v1 : Int32} {v2 : Int32} {v3 : Int32} {v5 : Int32} {hh : Nat} {ww : Nat} {kk : Nat} {g1 : Nat → Int32} {g2 : Nat → Int32} {g3 : Nat → Int32} {g4 : Nat → Int32} {g5 : Nat → Int32} {v3n_5 : Int32} {g1n_5 : Nat → Int32} {r_5 : Int32} {g1n_6 : Nat → Int32} (hr20 : hrs ≤ 20) (hhb : hh ≤ 999) (hww : ww ≤ 6) (hkk : kk ≤ 6) (hN : okN 999 (nrm v0 v1 v2 v3 hh v5 ww kk g1 g2 g3 g4 g5)) (hF_5_0 : v3n_5 = v3) (hF_5_1 : g1n_5 = g1) (h_5 : r_5 = (btV hrs 1 true (nrm v0 v1 v2 v3 hh v5 ww kk g1 g2 g3 g4 g5))) (hF_6_0 : g1n_6 = twX g1n_5 ww hh) : (nrm v0 v1 v2 v3n_5 hh v5 ww kk g1n_6 g2 g3 g4 g5) = tgP false (nrm v0 v1 v2 v3 hh v5 ww kk g1 g2 g3 g4 g5) := by
  exact pl_w hN hww hkk hhb hF_5_0 hF_5_1 hF_6_0
theorem lf_X4_bf_2_0_2 {hrs : Nat} {v0 : Int32} {v1 : Int32} {v2 : Int32} {v3 : Int32} {v5 : Int32} {hh : Nat} {ww : Nat} {kk : Nat} {g1 : Nat → Int32} {g2 : Nat → Int32} {g3 : Nat → Int32} {g4 : Nat → Int32} {g5 : Nat → Int32} {v3n_5 : Int32} {g1n_5 : Nat → Int32} {r_5 : Int32} {g1n_6 : Nat → Int32} {v3n_10 : Int32} {g1n_10 : Nat → Int32} {r_10 : Int32} {g1n_11 : Nat → Int32} {v_13 : Int32} (hr20 : hrs ≤ 20) (hhb : hh ≤ 999) (hww : ww ≤ 6) (hkk : kk ≤ 6) (hN : okN 999 (nrm v0 v1 v2 v3 hh v5 ww kk g1 g2 g3 g4 g5)) (hF_5_0 : v3n_5 = v3) (hF_5_1 : g1n_5 = g1) (h_5 : r_5 = (btV hrs 1 true (nrm v0 v1 v2 v3 hh v5 ww kk g1 g2 g3 g4 g5))) (hF_6_0 : g1n_6 = twX g1n_5 ww hh) (hR_9 : (nrm v0 v1 v2 v3n_5 hh v5 ww kk g1n_6 g2 g3 g4 g5) = tgP false (nrm v0 v1 v2 v3 hh v5 ww kk g1 g2 g3 g4 g5)) (hF_10_0 : v3n_10 = v3n_5) (hF_10_1 : g1n_10 = g1n_6) (h_10 : r_10 = (btV hrs 1 true (nrm v0 v1 v2 v3n_5 hh v5 ww kk g1n_6 g2 g3 g4 g5))) (hF_11_0 : g1n_11 = twX g1n_10 ww hh) (e_13 : v_13 = (if r_10 < r_5 then r_10 else r_5)) : v3n_10 = v3 := by
  first
  | exact pb_0 h_5 h_10 hR_9 e_13
  | exact hF_10_0.trans hF_5_0
  | exact pb_w hF_11_0 hF_10_1 hF_6_0 hF_5_1
theorem lf_X4_bf_2_0_3 {hrs : Nat} {v0 : Int32} {v1 : Int32} {v2 : Int32} {v3 : Int32} {v5 : Int32} {hh : Nat} {ww : Nat} {kk : Nat} {g1 : Nat → Int32} {g2 : Nat → Int32} {g3 : Nat → Int32} {g4 : Nat → Int32} {g5 : Nat → Int32} {v3n_5 : Int32} {g1n_5 : Nat → Int32} {r_5 : Int32} {g1n_6 : Nat → Int32} {v3n_10 : Int32} {g1n_10 : Nat → Int32} {r_10 : Int32} {g1n_11 : Nat → Int32} {v_13 : Int32} (hr20 : hrs ≤ 20) (hhb : hh ≤ 999) (hww : ww ≤ 6) (hkk : kk ≤ 6) (hN : okN 999 (nrm v0 v1 v2 v3 hh v5 ww kk g1 g2 g3 g4 g5)) (hF_5_0 : v3n_5 = v3) (hF_5_1 : g1n_5 = g1) (h_5 : r_5 = (btV hrs 1 true (nrm v0 v1 v2 v3 hh v5 ww kk g1 g2 g3 g4 g5))) (hF_6_0 : g1n_6 = twX g1n_5 ww hh) (hR_9 : (nrm v0 v1 v2 v3n_5 hh v5 ww kk g1n_6 g2 g3 g4 g5) = tgP false (nrm v0 v1 v2 v3 hh v5 ww kk g1 g2 g3 g4 g5)) (hF_10_0 : v3n_10 = v3n_5) (hF_10_1 : g1n_10 = g1n_6) (h_10 : r_10 = (btV hrs 1 true (nrm v0 v1 v2 v3n_5 hh v5 ww kk g1n_6 g2 g3 g4 g5))) (hF_11_0 : g1n_11 = twX g1n_10 ww hh) (e_13 : v_13 = (if r_10 < r_5 then r_10 else r_5)) : g1n_11 = g1 := by
  first
  | exact pb_0 h_5 h_10 hR_9 e_13
  | exact hF_10_0.trans hF_5_0
  | exact pb_w hF_11_0 hF_10_1 hF_6_0 hF_5_1
theorem lf_X4_bf_2_0_4 {hrs : Nat} {v0 : Int32} {v1 : Int32} {v2 : Int32} {v3 : Int32} {v5 : Int32} {hh : Nat} {ww : Nat} {kk : Nat} {g1 : Nat → Int32} {g2 : Nat → Int32} {g3 : Nat → Int32} {g4 : Nat → Int32} {g5 : Nat → Int32} {v3n_5 : Int32} {g1n_5 : Nat → Int32} {r_5 : Int32} {g1n_6 : Nat → Int32} {v3n_10 : Int32} {g1n_10 : Nat → Int32} {r_10 : Int32} {g1n_11 : Nat → Int32} {v_13 : Int32} (hr20 : hrs ≤ 20) (hhb : hh ≤ 999) (hww : ww ≤ 6) (hkk : kk ≤ 6) (hN : okN 999 (nrm v0 v1 v2 v3 hh v5 ww kk g1 g2 g3 g4 g5)) (hF_5_0 : v3n_5 = v3) (hF_5_1 : g1n_5 = g1) (h_5 : r_5 = (btV hrs 1 true (nrm v0 v1 v2 v3 hh v5 ww kk g1 g2 g3 g4 g5))) (hF_6_0 : g1n_6 = twX g1n_5 ww hh) (hR_9 : (nrm v0 v1 v2 v3n_5 hh v5 ww kk g1n_6 g2 g3 g4 g5) = tgP false (nrm v0 v1 v2 v3 hh v5 ww kk g1 g2 g3 g4 g5)) (hF_10_0 : v3n_10 = v3n_5) (hF_10_1 : g1n_10 = g1n_6) (h_10 : r_10 = (btV hrs 1 true (nrm v0 v1 v2 v3n_5 hh v5 ww kk g1n_6 g2 g3 g4 g5))) (hF_11_0 : g1n_11 = twX g1n_10 ww hh) (e_13 : v_13 = (if r_10 < r_5 then r_10 else r_5)) : v_13 = (btV hrs 2 false (nrm v0 v1 v2 v3 hh v5 ww kk g1 g2 g3 g4 g5)) := by
  first
  | exact pb_0 h_5 h_10 hR_9 e_13
  | exact hF_10_0.trans hF_5_0
  | exact pb_w hF_11_0 hF_10_1 hF_6_0 hF_5_1
set_option maxHeartbeats 4000000 in
set_option maxRecDepth 100000 in
theorem r_X4_bf_2_0 (l : Launch) (dC : Nat → ClassId) (dI : Nat → Nat → Nat) (cI cZ cL cJ : ClassId) (sz : Nat) (p0 : Nat) (hrs : Nat) (h : Nat) (v0 : Int32) (v1 : Int32) (v2 : Int32) (v3 : Int32) (v5 : Int32) (hh : Nat) (ww : Nat) (kk : Nat) (b1 : Nat) (b2 : Nat) (b3 : Nat) (b4 : Nat) (b5 : Nat) (g1 : Nat → Int32) (g2 : Nat → Int32) (g3 : Nat → Int32) (g4 : Nat → Int32) (g5 : Nat → Int32) (k0 : Nat) (u0 : Int32) (u1 : Int32) (u2 : Int32) (u3 : Int32) (u4 : Int32) (u5 : Int32) (u6 : Int32) (u7 : Int32) (o1 : Nat) (o2 : Nat) (o3 : Nat) (o4 : Nat) (o5 : Nat) (f1 : Nat → Int32) (f2 : Nat → Int32) (f3 : Nat → Int32) (f4 : Nat → Int32) (f5 : Nat → Int32) (hr20 : hrs ≤ 20) (hhb : hh ≤ 999) (hww : ww ≤ 6) (hkk : kk ≤ 6) (hN : okN 999 (nrm v0 v1 v2 v3 hh v5 ww kk g1 g2 g3 g4 g5)) : Met l yX4_bestFor wsX4_bestFor ({ frames := 7, cells := 0, slots := 0, locals := 158 }) (va_Pc [.ref p0, .int 0, .int 2] (fun U => U.heap.size = sz ∧ va_P (dC, dI) vwCl [(xo_4_rri p0 h k0 (nI hrs)), (xo_3_iiiiiiiirrrrr h v0 v1 v2 v3 (nI hh) v5 (nI ww) (nI kk) b1 b2 b3 b4 b5), (xI b1 cI 6 g1), (xI b2 cI 6 g2), (xI b3 cI 6 g3), (xI b4 cI 6 g4), (xI b5 cI 6 g5), (xo_3_iiiiiiiirrrrr k0 u0 u1 u2 u3 u4 u5 u6 u7 o1 o2 o3 o4 o5), (xI o1 cI 6 f1), (xI o2 cI 6 f2), (xI o3 cI 6 f3), (xI o4 cI 6 f4), (xI o5 cI 6 f5)] U.heap ∧ va_K (dC, dI) vwCl [(cI, .int), (cZ, .boolean), (cL, .object RX3), (cJ, .array .int)] U ∧ va_D (fun _ => True) [(xo_4_rri p0 h k0 (nI hrs)), (xo_3_iiiiiiiirrrrr h v0 v1 v2 v3 (nI hh) v5 (nI ww) (nI kk) b1 b2 b3 b4 b5), (xI b1 cI 6 g1), (xI b2 cI 6 g2), (xI b3 cI 6 g3), (xI b4 cI 6 g4), (xI b5 cI 6 g5), (xo_3_iiiiiiiirrrrr k0 u0 u1 u2 u3 u4 u5 u6 u7 o1 o2 o3 o4 o5), (xI o1 cI 6 f1), (xI o2 cI 6 f2), (xI o3 cI 6 f3), (xI o4 cI 6 f4), (xI o5 cI 6 f5)])) (va_Qi (fun r (_ : Unit) => r = (btV hrs 2 false (nrm v0 v1 v2 v3 hh v5 ww kk g1 g2 g3 g4 g5))) (fun (_ : Unit) t => ∃ (v3n : Int32) (u0n : Int32) (u1n : Int32) (u2n : Int32) (u3n : Int32) (u4n : Int32) (u5n : Int32) (u6n : Int32) (u7n : Int32) (g1n : Nat → Int32) (f1n : Nat → Int32) (f2n : Nat → Int32) (f3n : Nat → Int32) (f4n : Nat → Int32) (f5n : Nat → Int32), va_P (dC, dI) vwCl [(xo_4_rri p0 h k0 (nI hrs)), (xo_3_iiiiiiiirrrrr h v0 v1 v2 v3n (nI hh) v5 (nI ww) (nI kk) b1 b2 b3 b4 b5), (xI b1 cI 6 g1n), (xI b2 cI 6 g2), (xI b3 cI 6 g3), (xI b4 cI 6 g4), (xI b5 cI 6 g5), (xo_3_iiiiiiiirrrrr k0 u0n u1n u2n u3n u4n u5n u6n u7n o1 o2 o3 o4 o5), (xI o1 cI 6 f1n), (xI o2 cI 6 f2n), (xI o3 cI 6 f3n), (xI o4 cI 6 f4n), (xI o5 cI 6 f5n)] t.heap ∧ va_D (va_A [(xo_4_rri p0 h k0 (nI hrs)), (xo_3_iiiiiiiirrrrr h v0 v1 v2 v3 (nI hh) v5 (nI ww) (nI kk) b1 b2 b3 b4 b5), (xI b1 cI 6 g1), (xI b2 cI 6 g2), (xI b3 cI 6 g3), (xI b4 cI 6 g4), (xI b5 cI 6 g5), (xo_3_iiiiiiiirrrrr k0 u0 u1 u2 u3 u4 u5 u6 u7 o1 o2 o3 o4 o5), (xI o1 cI 6 f1), (xI o2 cI 6 f2), (xI o3 cI 6 f3), (xI o4 cI 6 f4), (xI o5 cI 6 f5)] sz) [(xo_4_rri p0 h k0 (nI hrs)), (xo_3_iiiiiiiirrrrr h v0 v1 v2 v3n (nI hh) v5 (nI ww) (nI kk) b1 b2 b3 b4 b5), (xI b1 cI 6 g1n), (xI b2 cI 6 g2), (xI b3 cI 6 g3), (xI b4 cI 6 g4), (xI b5 cI 6 g5), (xo_3_iiiiiiiirrrrr k0 u0n u1n u2n u3n u4n u5n u6n u7n o1 o2 o3 o4 o5), (xI o1 cI 6 f1n), (xI o2 cI 6 f2n), (xI o3 cI 6 f3n), (xI o4 cI 6 f4n), (xI o5 cI 6 f5n)] ∧ v3n = v3 ∧ g1n = g1) (va_A [(xo_4_rri p0 h k0 (nI hrs)), (xo_3_iiiiiiiirrrrr h v0 v1 v2 v3 (nI hh) v5 (nI ww) (nI kk) b1 b2 b3 b4 b5), (xI b1 cI 6 g1), (xI b2 cI 6 g2), (xI b3 cI 6 g3), (xI b4 cI 6 g4), (xI b5 cI 6 g5), (xo_3_iiiiiiiirrrrr k0 u0 u1 u2 u3 u4 u5 u6 u7 o1 o2 o3 o4 o5), (xI o1 cI 6 f1), (xI o2 cI 6 f2), (xI o3 cI 6 f3), (xI o4 cI 6 f4), (xI o5 cI 6 f5)] sz)) 0 0 (va_A [(xo_4_rri p0 h k0 (nI hrs)), (xo_3_iiiiiiiirrrrr h v0 v1 v2 v3 (nI hh) v5 (nI ww) (nI kk) b1 b2 b3 b4 b5), (xI b1 cI 6 g1), (xI b2 cI 6 g2), (xI b3 cI 6 g3), (xI b4 cI 6 g4), (xI b5 cI 6 g5), (xo_3_iiiiiiiirrrrr k0 u0 u1 u2 u3 u4 u5 u6 u7 o1 o2 o3 o4 o5), (xI o1 cI 6 f1), (xI o2 cI 6 f2), (xI o3 cI 6 f3), (xI o4 cI 6 f4), (xI o5 cI 6 f5)] sz) := by
  refine Met.ofW (cc := cX4_bestFor) (maxL := 5) (ret := (some .int)) (by decide) rfl ?_
  intro p e s m args below meth c s₁ B hml hv
  obtain ⟨rfl, hsz, hP, hK, hD0⟩ := hv
  have hx := B.exec
  have hb := B.bytes
  have hr := B.returns
  have hts := atoms_spec (ws := wsX4_bestFor) B.pre
  have hown : s.vm.findClass RX4 = some m.cls := findClass_of_methodNamed B.named
  have hlocks := B.notSynchronized
  subst hsz
  have hD := hD0.self (sz := s.heap.size)
  generalize hAe : va_A [(xo_4_rri p0 h k0 (nI hrs)), (xo_3_iiiiiiiirrrrr h v0 v1 v2 v3 (nI hh) v5 (nI ww) (nI kk) b1 b2 b3 b4 b5), (xI b1 cI 6 g1), (xI b2 cI 6 g2), (xI b3 cI 6 g3), (xI b4 cI 6 g4), (xI b5 cI 6 g5), (xo_3_iiiiiiiirrrrr k0 u0 u1 u2 u3 u4 u5 u6 u7 o1 o2 o3 o4 o5), (xI o1 cI 6 f1), (xI o2 cI 6 f2), (xI o3 cI 6 f3), (xI o4 cI 6 f4), (xI o5 cI 6 f5)] s.heap.size = A at hD ⊢
  have hA : ∀ q : Nat, s.heap.size ≤ q → A q := fun q h => by rw [← hAe]; exact Or.inr h
  have hS : va_S A s.heap s.heap [] := va_S.rf
  have hP : va_P (dC, dI) vwCl [(xo_4_rri p0 h k0 (nI hrs)), (xo_3_iiiiiiiirrrrr h v0 v1 v2 v3 (nI hh) v5 (nI ww) (nI kk) b1 b2 b3 b4 b5), (xI b1 cI 6 g1), (xI b2 cI 6 g2), (xI b3 cI 6 g3), (xI b4 cI 6 g4), (xI b5 cI 6 g5), (xo_3_iiiiiiiirrrrr k0 u0 u1 u2 u3 u4 u5 u6 u7 o1 o2 o3 o4 o5), (xI o1 cI 6 f1), (xI o2 cI 6 f2), (xI o3 cI 6 f3), (xI o4 cI 6 f4), (xI o5 cI 6 f5)] s.heap := hP
  have hl := lv_entry ([.ref p0, .int 0, .int 2]) (n := 5) (Nat.le_of_ble_eq_true rfl)
  rw [lg_entry_eq]
  generalize (lg_sl ([.ref p0, .int 0, .int 2]) ++ List.replicate (5 - (lg_sl ([.ref p0, .int 0, .int 2])).length) Slot.unset).toArray = ls at hl ⊢
  have hl : lv_has ls 5 [(0, .ref p0), (1, .int 0), (2, .int 2)] := hl
  refine lv_iload_n hx hb dX4_bestFor_0 rfl (lv_at hl 2 rfl) ?_
  refine lv_if_gt (tgt := 27) hx hb dX4_bestFor_1 (by decide) (fun _ => ?_) (fun c_ => absurd (by decide) c_)
  refine lv_aload_n hx hb dX4_bestFor_27 rfl (lv_at hl 0 rfl) ?_
  refine lv_iload_n hx hb dX4_bestFor_28 rfl (lv_at hl 1 rfl) ?_
  refine lv_if_ne (tgt := 36) hx hb dX4_bestFor_29 (by decide) (fun c_ => absurd (by decide) c_) (fun _ => ?_)
  refine lv_iconst (v := 1) hx hb dX4_bestFor_32 (by decide) ?_
  refine lv_goto (tgt := 37) hx hb dX4_bestFor_33 (by decide) ?_
  refine lv_iload_n hx hb dX4_bestFor_37 rfl (lv_at hl 2 rfl) ?_
  refine lv_iconst (v := 1) hx hb dX4_bestFor_38 (by decide) ?_
  refine lv_isub hx hb dX4_bestFor_39 ?_
  refine lv_topi (fun v_3 e_3 => ?_)
  obtain rfl : v_3 = 1 := (e_3).trans (by decide)
  have hc_5 := cutW (wc := [(xo_4_rri p0 h k0 (nI hrs)), (xo_3_iiiiiiiirrrrr h v0 v1 v2 v3 (nI hh) v5 (nI ww) (nI kk) b1 b2 b3 b4 b5), (xI b1 cI 6 g1), (xI b2 cI 6 g2), (xI b3 cI 6 g3), (xI b4 cI 6 g4), (xI b5 cI 6 g5), (xo_3_iiiiiiiirrrrr k0 u0 u1 u2 u3 u4 u5 u6 u7 o1 o2 o3 o4 o5), (xI o1 cI 6 f1), (xI o2 cI 6 f2), (xI o3 cI 6 f3), (xI o4 cI 6 f4), (xI o5 cI 6 f5)]) hP hD hS hA [0, 1, 2, 3, 4, 5, 6, 7, 8, 9, 10, 11, 12] (by decide +kernel) rfl
  refine va_calli (va_runV (As := [.int 1, .int 1]) (rest := []) ⟨hx, hb, hml, hown, hts⟩ (r_X4_bf_1_1 l dC dI cI cZ cL cJ s.heap.size p0 hrs h v0 v1 v2 v3 v5 hh ww kk b1 b2 b3 b4 b5 g1 g2 g3 g4 g5 k0 u0 u1 u2 u3 u4 u5 u6 u7 o1 o2 o3 o4 o5 f1 f2 f3 f4 f5 (hr20) (hhb) (hww) (hkk) (hN)) (cwV 2 hts gX4_bestFor_X4_bestFor rfl rfl rfl (by decide +kernel) ⟨Nat.le_of_ble_eq_true rfl, Nat.le_of_ble_eq_true rfl⟩) (pvW 4 0 hK hP rfl rfl hc_5) rfl rfl hl.1 rfl (lv_room (Nat.le_of_ble_eq_true rfl)) dX4_bestFor_40 ⟨Nat.le_of_ble_eq_true rfl, Nat.le_of_ble_eq_true rfl⟩) hS (fun q _ h => hc_5.2.2 q h) hc_5.2.2 (fun r_5 u_5 t_5 H1 locs ht hvm h_5 hB hz1 hk1 hS => ?_)
  refine xl_15_4 hB (fun v3n_5 u0n_5 u1n_5 u2n_5 u3n_5 u4n_5 u5n_5 u6n_5 u7n_5 g1n_5 f1n_5 f2n_5 f3n_5 f4n_5 f5n_5 hP1 hD1 hF_5_0 hF_5_1 => ?_)
  clear hB
  rw [ht] at hP1
  obtain ⟨hP, hD⟩ := va_join (wr := []) (w1 := [(xo_4_rri p0 h k0 (nI hrs)), (xo_3_iiiiiiiirrrrr h v0 v1 v2 v3n_5 (nI hh) v5 (nI ww) (nI kk) b1 b2 b3 b4 b5), (xI b1 cI 6 g1n_5), (xI b2 cI 6 g2), (xI b3 cI 6 g3), (xI b4 cI 6 g4), (xI b5 cI 6 g5), (xo_3_iiiiiiiirrrrr k0 u0n_5 u1n_5 u2n_5 u3n_5 u4n_5 u5n_5 u6n_5 u7n_5 o1 o2 o3 o4 o5), (xI o1 cI 6 f1n_5), (xI o2 cI 6 f2n_5), (xI o3 cI 6 f3n_5), (xI o4 cI 6 f4n_5), (xI o5 cI 6 f5n_5)]) hP hD [0, 1, 2, 3, 4, 5, 6, 7, 8, 9, 10, 11, 12] [] rfl rfl (by decide +kernel) (by decide +kernel) hk1 hc_5.2.2 hP1 hD1
  generalize H1 = H at hP hS ⊢
  have hP : va_P (dC, dI) vwCl [(xo_4_rri p0 h k0 (nI hrs)), (xo_3_iiiiiiiirrrrr h v0 v1 v2 v3n_5 (nI hh) v5 (nI ww) (nI kk) b1 b2 b3 b4 b5), (xI b1 cI 6 g1n_5), (xI b2 cI 6 g2), (xI b3 cI 6 g3), (xI b4 cI 6 g4), (xI b5 cI 6 g5), (xo_3_iiiiiiiirrrrr k0 u0n_5 u1n_5 u2n_5 u3n_5 u4n_5 u5n_5 u6n_5 u7n_5 o1 o2 o3 o4 o5), (xI o1 cI 6 f1n_5), (xI o2 cI 6 f2n_5), (xI o3 cI 6 f3n_5), (xI o4 cI 6 f4n_5), (xI o5 cI 6 f5n_5)] H := hP
  have hD := dto hP hD
  refine lv_istore_n (lv' := [(3, .int r_5), (0, .ref p0), (1, .int 0), (2, .int 2)]) hx hb dX4_bestFor_43 rfl hl (by decide) rfl (fun ls hl => ?_)
  refine lv_aload_n hx hb dX4_bestFor_44 rfl (lv_at hl 1 rfl) ?_
  refine lv_iload_n hx hb dX4_bestFor_45 rfl (lv_at hl 2 rfl) ?_
  have hc_6 := cutW (wc := [(xo_4_rri p0 h k0 (nI hrs)), (xo_3_iiiiiiiirrrrr h v0 v1 v2 v3n_5 (nI hh) v5 (nI ww) (nI kk) b1 b2 b3 b4 b5), (xI b1 cI 6 g1n_5), (xI b2 cI 6 g2), (xI b3 cI 6 g3), (xI b4 cI 6 g4), (xI b5 cI 6 g5)]) hP hD hS hA [0, 1, 2, 3, 4, 5, 6] (by decide +kernel) rfl
  refine va_callv (va_runV (As := [.int 0]) (rest := []) ⟨hx, hb, hml, hown, hts⟩ (r_X4_tn_0 l dC dI cI cZ cL cJ H.size p0 hrs h v0 v1 v2 v3n_5 v5 hh ww kk b1 b2 b3 b4 b5 g1n_5 g2 g3 g4 g5 k0 (hr20) (hhb) (hww) (hkk)) (cwV 1 hts gX4_bestFor_X4_turn rfl rfl rfl (by decide +kernel) ⟨Nat.le_of_ble_eq_true rfl, Nat.le_of_ble_eq_true rfl⟩) (pvW 4 0 hK hP rfl rfl hc_6) rfl rfl hl.1 rfl (lv_room (Nat.le_of_ble_eq_true rfl)) dX4_bestFor_46 ⟨Nat.le_of_ble_eq_true rfl, Nat.le_of_ble_eq_true rfl⟩) hS (fun q _ h => hc_6.2.2 q h) hc_6.2.2 (fun u_6 t_6 H1 locs ht hvm h_6 hB hz1 hk1 hS => ?_)
  refine xl_1_3 hB (fun g1n_6 hP1 hD1 hF_6_0 => ?_)
  clear hB
  rw [ht] at hP1
  obtain ⟨hP, hD⟩ := va_join (wr := [(xo_3_iiiiiiiirrrrr k0 u0n_5 u1n_5 u2n_5 u3n_5 u4n_5 u5n_5 u6n_5 u7n_5 o1 o2 o3 o4 o5), (xI o1 cI 6 f1n_5), (xI o2 cI 6 f2n_5), (xI o3 cI 6 f3n_5), (xI o4 cI 6 f4n_5), (xI o5 cI 6 f5n_5)]) (w1 := [(xo_4_rri p0 h k0 (nI hrs)), (xo_3_iiiiiiiirrrrr h v0 v1 v2 v3n_5 (nI hh) v5 (nI ww) (nI kk) b1 b2 b3 b4 b5), (xI b1 cI 6 g1n_6), (xI b2 cI 6 g2), (xI b3 cI 6 g3), (xI b4 cI 6 g4), (xI b5 cI 6 g5)]) hP hD [0, 1, 2, 3, 4, 5, 6] [7, 8, 9, 10, 11, 12] rfl rfl (by decide +kernel) (by decide +kernel) hk1 hc_6.2.2 hP1 hD1
  generalize H1 = H at hP hS ⊢
  have hP : va_P (dC, dI) vwCl [(xo_3_iiiiiiiirrrrr k0 u0n_5 u1n_5 u2n_5 u3n_5 u4n_5 u5n_5 u6n_5 u7n_5 o1 o2 o3 o4 o5), (xI o1 cI 6 f1n_5), (xI o2 cI 6 f2n_5), (xI o3 cI 6 f3n_5), (xI o4 cI 6 f4n_5), (xI o5 cI 6 f5n_5), (xo_4_rri p0 h k0 (nI hrs)), (xo_3_iiiiiiiirrrrr h v0 v1 v2 v3n_5 (nI hh) v5 (nI ww) (nI kk) b1 b2 b3 b4 b5), (xI b1 cI 6 g1n_6), (xI b2 cI 6 g2), (xI b3 cI 6 g3), (xI b4 cI 6 g4), (xI b5 cI 6 g5)] H := hP
  have hD := dto hP hD
  refine lv_aload_n hx hb dX4_bestFor_49 rfl (lv_at hl 1 rfl) ?_
  refine lv_iload_n hx hb dX4_bestFor_50 rfl (lv_at hl 2 rfl) ?_
  refine lv_if_ne (tgt := 58) hx hb dX4_bestFor_51 (by decide) (fun c_ => absurd (by decide) c_) (fun _ => ?_)
  refine lv_iconst (v := 1) hx hb dX4_bestFor_54 (by decide) ?_
  refine lv_goto (tgt := 59) hx hb dX4_bestFor_55 (by decide) ?_
  refine lv_iload_n hx hb dX4_bestFor_59 rfl (lv_at hl 3 rfl) ?_
  refine lv_iconst (v := 1) hx hb dX4_bestFor_60 (by decide) ?_
  refine lv_isub hx hb dX4_bestFor_61 ?_
  refine lv_topi (fun v_8 e_8 => ?_)
  obtain rfl : v_8 = 1 := (e_8).trans (by decide)
  have hR_9 : (nrm v0 v1 v2 v3n_5 hh v5 ww kk g1n_6 g2 g3 g4 g5) = tgP false (nrm v0 v1 v2 v3 hh v5 ww kk g1 g2 g3 g4 g5) := (lf_X4_bf_2_0_1 hr20 hhb hww hkk hN hF_5_0 hF_5_1 h_5 hF_6_0)
  have hRN_9 : okN 999 (nrm v0 v1 v2 v3n_5 hh v5 ww kk g1n_6 g2 g3 g4 g5) := by rw [hR_9]; exact tgP_ok _ hN
  have hc_10 := cutW (wc := [(xo_4_rri p0 h k0 (nI hrs)), (xo_3_iiiiiiiirrrrr h v0 v1 v2 v3n_5 (nI hh) v5 (nI ww) (nI kk) b1 b2 b3 b4 b5), (xI b1 cI 6 g1n_6), (xI b2 cI 6 g2), (xI b3 cI 6 g3), (xI b4 cI 6 g4), (xI b5 cI 6 g5), (xo_3_iiiiiiiirrrrr k0 u0n_5 u1n_5 u2n_5 u3n_5 u4n_5 u5n_5 u6n_5 u7n_5 o1 o2 o3 o4 o5), (xI o1 cI 6 f1n_5), (xI o2 cI 6 f2n_5), (xI o3 cI 6 f3n_5), (xI o4 cI 6 f4n_5), (xI o5 cI 6 f5n_5)]) hP hD hS hA [6, 7, 8, 9, 10, 11, 12, 0, 1, 2, 3, 4, 5] (by decide +kernel) rfl
  refine va_calli (va_runV (As := [.int 1, .int 1]) (rest := []) ⟨hx, hb, hml, hown, hts⟩ (r_X4_bf_1_1 l dC dI cI cZ cL cJ H.size p0 hrs h v0 v1 v2 v3n_5 v5 hh ww kk b1 b2 b3 b4 b5 g1n_6 g2 g3 g4 g5 k0 u0n_5 u1n_5 u2n_5 u3n_5 u4n_5 u5n_5 u6n_5 u7n_5 o1 o2 o3 o4 o5 f1n_5 f2n_5 f3n_5 f4n_5 f5n_5 (hr20) (hhb) (hww) (hkk) (hRN_9)) (cwV 2 hts gX4_bestFor_X4_bestFor rfl rfl rfl (by decide +kernel) ⟨Nat.le_of_ble_eq_true rfl, Nat.le_of_ble_eq_true rfl⟩) (pvW 4 6 hK hP rfl rfl hc_10) rfl rfl hl.1 rfl (lv_room (Nat.le_of_ble_eq_true rfl)) dX4_bestFor_62 ⟨Nat.le_of_ble_eq_true rfl, Nat.le_of_ble_eq_true rfl⟩) hS (fun q _ h => hc_10.2.2 q h) hc_10.2.2 (fun r_10 u_10 t_10 H1 locs ht hvm h_10 hB hz1 hk1 hS => ?_)
  refine xl_15_4 hB (fun v3n_10 u0n_10 u1n_10 u2n_10 u3n_10 u4n_10 u5n_10 u6n_10 u7n_10 g1n_10 f1n_10 f2n_10 f3n_10 f4n_10 f5n_10 hP1 hD1 hF_10_0 hF_10_1 => ?_)
  clear hB
  rw [ht] at hP1
  obtain ⟨hP, hD⟩ := va_join (wr := []) (w1 := [(xo_4_rri p0 h k0 (nI hrs)), (xo_3_iiiiiiiirrrrr h v0 v1 v2 v3n_10 (nI hh) v5 (nI ww) (nI kk) b1 b2 b3 b4 b5), (xI b1 cI 6 g1n_10), (xI b2 cI 6 g2), (xI b3 cI 6 g3), (xI b4 cI 6 g4), (xI b5 cI 6 g5), (xo_3_iiiiiiiirrrrr k0 u0n_10 u1n_10 u2n_10 u3n_10 u4n_10 u5n_10 u6n_10 u7n_10 o1 o2 o3 o4 o5), (xI o1 cI 6 f1n_10), (xI o2 cI 6 f2n_10), (xI o3 cI 6 f3n_10), (xI o4 cI 6 f4n_10), (xI o5 cI 6 f5n_10)]) hP hD [6, 7, 8, 9, 10, 11, 12, 0, 1, 2, 3, 4, 5] [] rfl rfl (by decide +kernel) (by decide +kernel) hk1 hc_10.2.2 hP1 hD1
  generalize H1 = H at hP hS ⊢
  have hP : va_P (dC, dI) vwCl [(xo_4_rri p0 h k0 (nI hrs)), (xo_3_iiiiiiiirrrrr h v0 v1 v2 v3n_10 (nI hh) v5 (nI ww) (nI kk) b1 b2 b3 b4 b5), (xI b1 cI 6 g1n_10), (xI b2 cI 6 g2), (xI b3 cI 6 g3), (xI b4 cI 6 g4), (xI b5 cI 6 g5), (xo_3_iiiiiiiirrrrr k0 u0n_10 u1n_10 u2n_10 u3n_10 u4n_10 u5n_10 u6n_10 u7n_10 o1 o2 o3 o4 o5), (xI o1 cI 6 f1n_10), (xI o2 cI 6 f2n_10), (xI o3 cI 6 f3n_10), (xI o4 cI 6 f4n_10), (xI o5 cI 6 f5n_10)] H := hP
  have hD := dto hP hD
  refine lv_istore (lv' := [(4, .int r_10), (3, .int r_5), (0, .ref p0), (1, .int 0), (2, .int 2)]) hx hb dX4_bestFor_65 hl (by decide) rfl (fun ls hl => ?_)
  refine lv_aload_n hx hb dX4_bestFor_67 rfl (lv_at hl 2 rfl) ?_
  refine lv_iload_n hx hb dX4_bestFor_68 rfl (lv_at hl 3 rfl) ?_
  have hc_11 := cutW (wc := [(xo_4_rri p0 h k0 (nI hrs)), (xo_3_iiiiiiiirrrrr h v0 v1 v2 v3n_10 (nI hh) v5 (nI ww) (nI kk) b1 b2 b3 b4 b5), (xI b1 cI 6 g1n_10), (xI b2 cI 6 g2), (xI b3 cI 6 g3), (xI b4 cI 6 g4), (xI b5 cI 6 g5)]) hP hD hS hA [0, 1, 2, 3, 4, 5, 6] (by decide +kernel) rfl
  refine va_callv (va_runV (As := [.int 0]) (rest := []) ⟨hx, hb, hml, hown, hts⟩ (r_X4_tn_0 l dC dI cI cZ cL cJ H.size p0 hrs h v0 v1 v2 v3n_10 v5 hh ww kk b1 b2 b3 b4 b5 g1n_10 g2 g3 g4 g5 k0 (hr20) (hhb) (hww) (hkk)) (cwV 1 hts gX4_bestFor_X4_turn rfl rfl rfl (by decide +kernel) ⟨Nat.le_of_ble_eq_true rfl, Nat.le_of_ble_eq_true rfl⟩) (pvW 4 0 hK hP rfl rfl hc_11) rfl rfl hl.1 rfl (lv_room (Nat.le_of_ble_eq_true rfl)) dX4_bestFor_69 ⟨Nat.le_of_ble_eq_true rfl, Nat.le_of_ble_eq_true rfl⟩) hS (fun q _ h => hc_11.2.2 q h) hc_11.2.2 (fun u_11 t_11 H1 locs ht hvm h_11 hB hz1 hk1 hS => ?_)
  refine xl_1_3 hB (fun g1n_11 hP1 hD1 hF_11_0 => ?_)
  clear hB
  rw [ht] at hP1
  obtain ⟨hP, hD⟩ := va_join (wr := [(xo_3_iiiiiiiirrrrr k0 u0n_10 u1n_10 u2n_10 u3n_10 u4n_10 u5n_10 u6n_10 u7n_10 o1 o2 o3 o4 o5), (xI o1 cI 6 f1n_10), (xI o2 cI 6 f2n_10), (xI o3 cI 6 f3n_10), (xI o4 cI 6 f4n_10), (xI o5 cI 6 f5n_10)]) (w1 := [(xo_4_rri p0 h k0 (nI hrs)), (xo_3_iiiiiiiirrrrr h v0 v1 v2 v3n_10 (nI hh) v5 (nI ww) (nI kk) b1 b2 b3 b4 b5), (xI b1 cI 6 g1n_11), (xI b2 cI 6 g2), (xI b3 cI 6 g3), (xI b4 cI 6 g4), (xI b5 cI 6 g5)]) hP hD [0, 1, 2, 3, 4, 5, 6] [7, 8, 9, 10, 11, 12] rfl rfl (by decide +kernel) (by decide +kernel) hk1 hc_11.2.2 hP1 hD1
  generalize H1 = H at hP hS ⊢
  have hP : va_P (dC, dI) vwCl [(xo_3_iiiiiiiirrrrr k0 u0n_10 u1n_10 u2n_10 u3n_10 u4n_10 u5n_10 u6n_10 u7n_10 o1 o2 o3 o4 o5), (xI o1 cI 6 f1n_10), (xI o2 cI 6 f2n_10), (xI o3 cI 6 f3n_10), (xI o4 cI 6 f4n_10), (xI o5 cI 6 f5n_10), (xo_4_rri p0 h k0 (nI hrs)), (xo_3_iiiiiiiirrrrr h v0 v1 v2 v3n_10 (nI hh) v5 (nI ww) (nI kk) b1 b2 b3 b4 b5), (xI b1 cI 6 g1n_11), (xI b2 cI 6 g2), (xI b3 cI 6 g3), (xI b4 cI 6 g4), (xI b5 cI 6 g5)] H := hP
  have hD := dto hP hD
  refine lv_iload_n hx hb dX4_bestFor_72 rfl (lv_at hl 3 rfl) ?_
  refine lv_if_eq (tgt := 85) hx hb dX4_bestFor_73 (by decide) (fun _ => ?_) (fun c_ => absurd (by decide) c_)
  refine lv_iload_n hx hb dX4_bestFor_85 rfl (lv_at hl 1 rfl) ?_
  refine lv_iload hx hb dX4_bestFor_86 (lv_at hl 0 rfl) ?_
  refine va_mmin hx hb (by rw [hml]; exact hl.1.symm) hown (hts _ mx_X4_bestFor_8) (hts _ mx_X4_bestFor_9) (hts _ mx_X4_bestFor_6) (hts _ mx_X4_bestFor_10) (Nat.le_of_ble_eq_true rfl) (Nat.le_of_ble_eq_true rfl) (Nat.zero_le _) (Nat.zero_le _) dX4_bestFor_88 ?_
  refine lv_topi (fun v_13 e_13 => ?_)
  have hX9 := cut2 (wc := [(xo_4_rri p0 h k0 (nI hrs)), (xo_3_iiiiiiiirrrrr h v0 v1 v2 v3n_10 (nI hh) v5 (nI ww) (nI kk) b1 b2 b3 b4 b5), (xI b1 cI 6 g1n_11), (xI b2 cI 6 g2), (xI b3 cI 6 g3), (xI b4 cI 6 g4), (xI b5 cI 6 g5), (xo_3_iiiiiiiirrrrr k0 u0n_10 u1n_10 u2n_10 u3n_10 u4n_10 u5n_10 u6n_10 u7n_10 o1 o2 o3 o4 o5), (xI o1 cI 6 f1n_10), (xI o2 cI 6 f2n_10), (xI o3 cI 6 f3n_10), (xI o4 cI 6 f4n_10), (xI o5 cI 6 f5n_10)]) hP hD [6, 7, 8, 9, 10, 11, 12, 0, 1, 2, 3, 4, 5] (by decide +kernel) rfl
  exact W.iret (v := v_13) hx hb hr (fun t ht hW => ⟨⟨v_13, (), rfl, (lf_X4_bf_2_0_4 hr20 hhb hww hkk hN hF_5_0 hF_5_1 h_5 hF_6_0 hR_9 hF_10_0 hF_10_1 h_10 hF_11_0 e_13), ⟨v3n_10, u0n_10, u1n_10, u2n_10, u3n_10, u4n_10, u5n_10, u6n_10, u7n_10, g1n_11, f1n_10, f2n_10, f3n_10, f4n_10, f5n_10, va_Ht ht hX9.1, hX9.2, (lf_X4_bf_2_0_2 hr20 hhb hww hkk hN hF_5_0 hF_5_1 h_5 hF_6_0 hR_9 hF_10_0 hF_10_1 h_10 hF_11_0 e_13), (lf_X4_bf_2_0_3 hr20 hhb hww hkk hN hF_5_0 hF_5_1 h_5 hF_6_0 hR_9 hF_10_0 hF_10_1 h_10 hF_11_0 e_13)⟩⟩, hS.F ht⟩) hS.2.2 dX4_bestFor_91
theorem lf_X4_bf_2_1_1 {hrs : Nat} {v0 : Int32} {v1 : Int32} {v2 : Int32} {v3 : Int32} {v5 : Int32} {hh : Nat} {ww : Nat} {kk : Nat} {g1 : Nat → Int32} {g2 : Nat → Int32} {g3 : Nat → Int32} {g4 : Nat → Int32} {g5 : Nat → Int32} {v3n_5 : Int32} {g1n_5 : Nat → Int32} {r_5 : Int32} {v3n_6 : Int32} (hr20 : hrs ≤ 20) (hhb : hh ≤ 999) (hww : ww ≤ 6) (hkk : kk ≤ 6) (hN : okN 999 (nrm v0 v1 v2 v3 hh v5 ww kk g1 g2 g3 g4 g5)) (hF_5_0 : v3n_5 = v3) (hF_5_1 : g1n_5 = g1) (h_5 : r_5 = (btV hrs 1 false (nrm v0 v1 v2 v3 hh v5 ww kk g1 g2 g3 g4 g5))) (hF_6_0 : v3n_6 = 1 - v3n_5) : (nrm v0 v1 v2 v3n_6 hh v5 ww kk g1n_5 g2 g3 g4 g5) = tgP true (nrm v0 v1 v2 v3 hh v5 ww kk g1 g2 g3 g4 g5) := by
  exact pl_c hN hF_5_0 hF_5_1 hF_6_0
theorem lf_X4_bf_2_1_2 {hrs : Nat} {v0 : Int32} {v1 : Int32} {v2 : Int32} {v3 : Int32} {v5 : Int32} {hh : Nat} {ww : Nat} {kk : Nat} {g1 : Nat → Int32} {g2 : Nat → Int32} {g3 : Nat → Int32} {g4 : Nat → Int32} {g5 : Nat → Int32} {v3n_5 : Int32} {g1n_5 : Nat → Int32} {r_5 : Int32} {v3n_6 : Int32} {v3n_10 : Int32} {g1n_10 : Nat → Int32} {r_10 : Int32} {v3n_11 : Int32} {v_13 : Int32} (hr20 : hrs ≤ 20) (hhb : hh ≤ 999) (hww : ww ≤ 6) (hkk : kk ≤ 6) (hN : okN 999 (nrm v0 v1 v2 v3 hh v5 ww kk g1 g2 g3 g4 g5)) (hF_5_0 : v3n_5 = v3) (hF_5_1 : g1n_5 = g1) (h_5 : r_5 = (btV hrs 1 false (nrm v0 v1 v2 v3 hh v5 ww kk g1 g2 g3 g4 g5))) (hF_6_0 : v3n_6 = 1 - v3n_5) (hR_9 : (nrm v0 v1 v2 v3n_6 hh v5 ww kk g1n_5 g2 g3 g4 g5) = tgP true (nrm v0 v1 v2 v3 hh v5 ww kk g1 g2 g3 g4 g5)) (hF_10_0 : v3n_10 = v3n_6) (hF_10_1 : g1n_10 = g1n_5) (h_10 : r_10 = (btV hrs 1 false (nrm v0 v1 v2 v3n_6 hh v5 ww kk g1n_5 g2 g3 g4 g5))) (hF_11_0 : v3n_11 = 1 - v3n_10) (e_13 : v_13 = (if r_5 < r_10 then r_10 else r_5)) : v3n_11 = v3 := by
  first
  | exact pb_1 h_5 h_10 hR_9 e_13
  | exact pb_c hF_11_0 hF_10_0 hF_6_0 hF_5_0
  | exact hF_10_1.trans hF_5_1
theorem lf_X4_bf_2_1_3 {hrs : Nat} {v0 : Int32} {v1 : Int32} {v2 : Int32} {v3 : Int32} {v5 : Int32} {hh : Nat} {ww : Nat} {kk : Nat} {g1 : Nat → Int32} {g2 : Nat → Int32} {g3 : Nat → Int32} {g4 : Nat → Int32} {g5 : Nat → Int32} {v3n_5 : Int32} {g1n_5 : Nat → Int32} {r_5 : Int32} {v3n_6 : Int32} {v3n_10 : Int32} {g1n_10 : Nat → Int32} {r_10 : Int32} {v3n_11 : Int32} {v_13 : Int32} (hr20 : hrs ≤ 20) (hhb : hh ≤ 999) (hww : ww ≤ 6) (hkk : kk ≤ 6) (hN : okN 999 (nrm v0 v1 v2 v3 hh v5 ww kk g1 g2 g3 g4 g5)) (hF_5_0 : v3n_5 = v3) (hF_5_1 : g1n_5 = g1) (h_5 : r_5 = (btV hrs 1 false (nrm v0 v1 v2 v3 hh v5 ww kk g1 g2 g3 g4 g5))) (hF_6_0 : v3n_6 = 1 - v3n_5) (hR_9 : (nrm v0 v1 v2 v3n_6 hh v5 ww kk g1n_5 g2 g3 g4 g5) = tgP true (nrm v0 v1 v2 v3 hh v5 ww kk g1 g2 g3 g4 g5)) (hF_10_0 : v3n_10 = v3n_6) (hF_10_1 : g1n_10 = g1n_5) (h_10 : r_10 = (btV hrs 1 false (nrm v0 v1 v2 v3n_6 hh v5 ww kk g1n_5 g2 g3 g4 g5))) (hF_11_0 : v3n_11 = 1 - v3n_10) (e_13 : v_13 = (if r_5 < r_10 then r_10 else r_5)) : g1n_10 = g1 := by
  first
  | exact pb_1 h_5 h_10 hR_9 e_13
  | exact pb_c hF_11_0 hF_10_0 hF_6_0 hF_5_0
  | exact hF_10_1.trans hF_5_1
theorem lf_X4_bf_2_1_4 {hrs : Nat} {v0 : Int32} {v1 : Int32} {v2 : Int32} {v3 : Int32} {v5 : Int32} {hh : Nat} {ww : Nat} {kk : Nat} {g1 : Nat → Int32} {g2 : Nat → Int32} {g3 : Nat → Int32} {g4 : Nat → Int32} {g5 : Nat → Int32} {v3n_5 : Int32} {g1n_5 : Nat → Int32} {r_5 : Int32} {v3n_6 : Int32} {v3n_10 : Int32} {g1n_10 : Nat → Int32} {r_10 : Int32} {v3n_11 : Int32} {v_13 : Int32} (hr20 : hrs ≤ 20) (hhb : hh ≤ 999) (hww : ww ≤ 6) (hkk : kk ≤ 6) (hN : okN 999 (nrm v0 v1 v2 v3 hh v5 ww kk g1 g2 g3 g4 g5)) (hF_5_0 : v3n_5 = v3) (hF_5_1 : g1n_5 = g1) (h_5 : r_5 = (btV hrs 1 false (nrm v0 v1 v2 v3 hh v5 ww kk g1 g2 g3 g4 g5))) (hF_6_0 : v3n_6 = 1 - v3n_5) (hR_9 : (nrm v0 v1 v2 v3n_6 hh v5 ww kk g1n_5 g2 g3 g4 g5) = tgP true (nrm v0 v1 v2 v3 hh v5 ww kk g1 g2 g3 g4 g5)) (hF_10_0 : v3n_10 = v3n_6) (hF_10_1 : g1n_10 = g1n_5) (h_10 : r_10 = (btV hrs 1 false (nrm v0 v1 v2 v3n_6 hh v5 ww kk g1n_5 g2 g3 g4 g5))) (hF_11_0 : v3n_11 = 1 - v3n_10) (e_13 : v_13 = (if r_5 < r_10 then r_10 else r_5)) : v_13 = (btV hrs 2 true (nrm v0 v1 v2 v3 hh v5 ww kk g1 g2 g3 g4 g5)) := by
  first
  | exact pb_1 h_5 h_10 hR_9 e_13
  | exact pb_c hF_11_0 hF_10_0 hF_6_0 hF_5_0
  | exact hF_10_1.trans hF_5_1
set_option maxHeartbeats 4000000 in
set_option maxRecDepth 100000 in
theorem r_X4_bf_2_1 (l : Launch) (dC : Nat → ClassId) (dI : Nat → Nat → Nat) (cI cZ cL cJ : ClassId) (sz : Nat) (p0 : Nat) (hrs : Nat) (h : Nat) (v0 : Int32) (v1 : Int32) (v2 : Int32) (v3 : Int32) (v5 : Int32) (hh : Nat) (ww : Nat) (kk : Nat) (b1 : Nat) (b2 : Nat) (b3 : Nat) (b4 : Nat) (b5 : Nat) (g1 : Nat → Int32) (g2 : Nat → Int32) (g3 : Nat → Int32) (g4 : Nat → Int32) (g5 : Nat → Int32) (k0 : Nat) (u0 : Int32) (u1 : Int32) (u2 : Int32) (u3 : Int32) (u4 : Int32) (u5 : Int32) (u6 : Int32) (u7 : Int32) (o1 : Nat) (o2 : Nat) (o3 : Nat) (o4 : Nat) (o5 : Nat) (f1 : Nat → Int32) (f2 : Nat → Int32) (f3 : Nat → Int32) (f4 : Nat → Int32) (f5 : Nat → Int32) (hr20 : hrs ≤ 20) (hhb : hh ≤ 999) (hww : ww ≤ 6) (hkk : kk ≤ 6) (hN : okN 999 (nrm v0 v1 v2 v3 hh v5 ww kk g1 g2 g3 g4 g5)) : Met l yX4_bestFor wsX4_bestFor ({ frames := 7, cells := 0, slots := 0, locals := 158 }) (va_Pc [.ref p0, .int 1, .int 2] (fun U => U.heap.size = sz ∧ va_P (dC, dI) vwCl [(xo_4_rri p0 h k0 (nI hrs)), (xo_3_iiiiiiiirrrrr h v0 v1 v2 v3 (nI hh) v5 (nI ww) (nI kk) b1 b2 b3 b4 b5), (xI b1 cI 6 g1), (xI b2 cI 6 g2), (xI b3 cI 6 g3), (xI b4 cI 6 g4), (xI b5 cI 6 g5), (xo_3_iiiiiiiirrrrr k0 u0 u1 u2 u3 u4 u5 u6 u7 o1 o2 o3 o4 o5), (xI o1 cI 6 f1), (xI o2 cI 6 f2), (xI o3 cI 6 f3), (xI o4 cI 6 f4), (xI o5 cI 6 f5)] U.heap ∧ va_K (dC, dI) vwCl [(cI, .int), (cZ, .boolean), (cL, .object RX3), (cJ, .array .int)] U ∧ va_D (fun _ => True) [(xo_4_rri p0 h k0 (nI hrs)), (xo_3_iiiiiiiirrrrr h v0 v1 v2 v3 (nI hh) v5 (nI ww) (nI kk) b1 b2 b3 b4 b5), (xI b1 cI 6 g1), (xI b2 cI 6 g2), (xI b3 cI 6 g3), (xI b4 cI 6 g4), (xI b5 cI 6 g5), (xo_3_iiiiiiiirrrrr k0 u0 u1 u2 u3 u4 u5 u6 u7 o1 o2 o3 o4 o5), (xI o1 cI 6 f1), (xI o2 cI 6 f2), (xI o3 cI 6 f3), (xI o4 cI 6 f4), (xI o5 cI 6 f5)])) (va_Qi (fun r (_ : Unit) => r = (btV hrs 2 true (nrm v0 v1 v2 v3 hh v5 ww kk g1 g2 g3 g4 g5))) (fun (_ : Unit) t => ∃ (v3n : Int32) (u0n : Int32) (u1n : Int32) (u2n : Int32) (u3n : Int32) (u4n : Int32) (u5n : Int32) (u6n : Int32) (u7n : Int32) (g1n : Nat → Int32) (f1n : Nat → Int32) (f2n : Nat → Int32) (f3n : Nat → Int32) (f4n : Nat → Int32) (f5n : Nat → Int32), va_P (dC, dI) vwCl [(xo_4_rri p0 h k0 (nI hrs)), (xo_3_iiiiiiiirrrrr h v0 v1 v2 v3n (nI hh) v5 (nI ww) (nI kk) b1 b2 b3 b4 b5), (xI b1 cI 6 g1n), (xI b2 cI 6 g2), (xI b3 cI 6 g3), (xI b4 cI 6 g4), (xI b5 cI 6 g5), (xo_3_iiiiiiiirrrrr k0 u0n u1n u2n u3n u4n u5n u6n u7n o1 o2 o3 o4 o5), (xI o1 cI 6 f1n), (xI o2 cI 6 f2n), (xI o3 cI 6 f3n), (xI o4 cI 6 f4n), (xI o5 cI 6 f5n)] t.heap ∧ va_D (va_A [(xo_4_rri p0 h k0 (nI hrs)), (xo_3_iiiiiiiirrrrr h v0 v1 v2 v3 (nI hh) v5 (nI ww) (nI kk) b1 b2 b3 b4 b5), (xI b1 cI 6 g1), (xI b2 cI 6 g2), (xI b3 cI 6 g3), (xI b4 cI 6 g4), (xI b5 cI 6 g5), (xo_3_iiiiiiiirrrrr k0 u0 u1 u2 u3 u4 u5 u6 u7 o1 o2 o3 o4 o5), (xI o1 cI 6 f1), (xI o2 cI 6 f2), (xI o3 cI 6 f3), (xI o4 cI 6 f4), (xI o5 cI 6 f5)] sz) [(xo_4_rri p0 h k0 (nI hrs)), (xo_3_iiiiiiiirrrrr h v0 v1 v2 v3n (nI hh) v5 (nI ww) (nI kk) b1 b2 b3 b4 b5), (xI b1 cI 6 g1n), (xI b2 cI 6 g2), (xI b3 cI 6 g3), (xI b4 cI 6 g4), (xI b5 cI 6 g5), (xo_3_iiiiiiiirrrrr k0 u0n u1n u2n u3n u4n u5n u6n u7n o1 o2 o3 o4 o5), (xI o1 cI 6 f1n), (xI o2 cI 6 f2n), (xI o3 cI 6 f3n), (xI o4 cI 6 f4n), (xI o5 cI 6 f5n)] ∧ v3n = v3 ∧ g1n = g1) (va_A [(xo_4_rri p0 h k0 (nI hrs)), (xo_3_iiiiiiiirrrrr h v0 v1 v2 v3 (nI hh) v5 (nI ww) (nI kk) b1 b2 b3 b4 b5), (xI b1 cI 6 g1), (xI b2 cI 6 g2), (xI b3 cI 6 g3), (xI b4 cI 6 g4), (xI b5 cI 6 g5), (xo_3_iiiiiiiirrrrr k0 u0 u1 u2 u3 u4 u5 u6 u7 o1 o2 o3 o4 o5), (xI o1 cI 6 f1), (xI o2 cI 6 f2), (xI o3 cI 6 f3), (xI o4 cI 6 f4), (xI o5 cI 6 f5)] sz)) 0 0 (va_A [(xo_4_rri p0 h k0 (nI hrs)), (xo_3_iiiiiiiirrrrr h v0 v1 v2 v3 (nI hh) v5 (nI ww) (nI kk) b1 b2 b3 b4 b5), (xI b1 cI 6 g1), (xI b2 cI 6 g2), (xI b3 cI 6 g3), (xI b4 cI 6 g4), (xI b5 cI 6 g5), (xo_3_iiiiiiiirrrrr k0 u0 u1 u2 u3 u4 u5 u6 u7 o1 o2 o3 o4 o5), (xI o1 cI 6 f1), (xI o2 cI 6 f2), (xI o3 cI 6 f3), (xI o4 cI 6 f4), (xI o5 cI 6 f5)] sz) := by
  refine Met.ofW (cc := cX4_bestFor) (maxL := 5) (ret := (some .int)) (by decide) rfl ?_
  intro p e s m args below meth c s₁ B hml hv
  obtain ⟨rfl, hsz, hP, hK, hD0⟩ := hv
  have hx := B.exec
  have hb := B.bytes
  have hr := B.returns
  have hts := atoms_spec (ws := wsX4_bestFor) B.pre
  have hown : s.vm.findClass RX4 = some m.cls := findClass_of_methodNamed B.named
  have hlocks := B.notSynchronized
  subst hsz
  have hD := hD0.self (sz := s.heap.size)
  generalize hAe : va_A [(xo_4_rri p0 h k0 (nI hrs)), (xo_3_iiiiiiiirrrrr h v0 v1 v2 v3 (nI hh) v5 (nI ww) (nI kk) b1 b2 b3 b4 b5), (xI b1 cI 6 g1), (xI b2 cI 6 g2), (xI b3 cI 6 g3), (xI b4 cI 6 g4), (xI b5 cI 6 g5), (xo_3_iiiiiiiirrrrr k0 u0 u1 u2 u3 u4 u5 u6 u7 o1 o2 o3 o4 o5), (xI o1 cI 6 f1), (xI o2 cI 6 f2), (xI o3 cI 6 f3), (xI o4 cI 6 f4), (xI o5 cI 6 f5)] s.heap.size = A at hD ⊢
  have hA : ∀ q : Nat, s.heap.size ≤ q → A q := fun q h => by rw [← hAe]; exact Or.inr h
  have hS : va_S A s.heap s.heap [] := va_S.rf
  have hP : va_P (dC, dI) vwCl [(xo_4_rri p0 h k0 (nI hrs)), (xo_3_iiiiiiiirrrrr h v0 v1 v2 v3 (nI hh) v5 (nI ww) (nI kk) b1 b2 b3 b4 b5), (xI b1 cI 6 g1), (xI b2 cI 6 g2), (xI b3 cI 6 g3), (xI b4 cI 6 g4), (xI b5 cI 6 g5), (xo_3_iiiiiiiirrrrr k0 u0 u1 u2 u3 u4 u5 u6 u7 o1 o2 o3 o4 o5), (xI o1 cI 6 f1), (xI o2 cI 6 f2), (xI o3 cI 6 f3), (xI o4 cI 6 f4), (xI o5 cI 6 f5)] s.heap := hP
  have hl := lv_entry ([.ref p0, .int 1, .int 2]) (n := 5) (Nat.le_of_ble_eq_true rfl)
  rw [lg_entry_eq]
  generalize (lg_sl ([.ref p0, .int 1, .int 2]) ++ List.replicate (5 - (lg_sl ([.ref p0, .int 1, .int 2])).length) Slot.unset).toArray = ls at hl ⊢
  have hl : lv_has ls 5 [(0, .ref p0), (1, .int 1), (2, .int 2)] := hl
  refine lv_iload_n hx hb dX4_bestFor_0 rfl (lv_at hl 2 rfl) ?_
  refine lv_if_gt (tgt := 27) hx hb dX4_bestFor_1 (by decide) (fun _ => ?_) (fun c_ => absurd (by decide) c_)
  refine lv_aload_n hx hb dX4_bestFor_27 rfl (lv_at hl 0 rfl) ?_
  refine lv_iload_n hx hb dX4_bestFor_28 rfl (lv_at hl 1 rfl) ?_
  refine lv_if_ne (tgt := 36) hx hb dX4_bestFor_29 (by decide) (fun _ => ?_) (fun c_ => absurd c_ (by decide))
  refine lv_iconst (v := 0) hx hb dX4_bestFor_36 (by decide) ?_
  refine lv_iload_n hx hb dX4_bestFor_37 rfl (lv_at hl 2 rfl) ?_
  refine lv_iconst (v := 1) hx hb dX4_bestFor_38 (by decide) ?_
  refine lv_isub hx hb dX4_bestFor_39 ?_
  refine lv_topi (fun v_3 e_3 => ?_)
  obtain rfl : v_3 = 1 := (e_3).trans (by decide)
  have hc_5 := cutW (wc := [(xo_4_rri p0 h k0 (nI hrs)), (xo_3_iiiiiiiirrrrr h v0 v1 v2 v3 (nI hh) v5 (nI ww) (nI kk) b1 b2 b3 b4 b5), (xI b1 cI 6 g1), (xI b2 cI 6 g2), (xI b3 cI 6 g3), (xI b4 cI 6 g4), (xI b5 cI 6 g5), (xo_3_iiiiiiiirrrrr k0 u0 u1 u2 u3 u4 u5 u6 u7 o1 o2 o3 o4 o5), (xI o1 cI 6 f1), (xI o2 cI 6 f2), (xI o3 cI 6 f3), (xI o4 cI 6 f4), (xI o5 cI 6 f5)]) hP hD hS hA [0, 1, 2, 3, 4, 5, 6, 7, 8, 9, 10, 11, 12] (by decide +kernel) rfl
  refine va_calli (va_runV (As := [.int 0, .int 1]) (rest := []) ⟨hx, hb, hml, hown, hts⟩ (r_X4_bf_1_0 l dC dI cI cZ cL cJ s.heap.size p0 hrs h v0 v1 v2 v3 v5 hh ww kk b1 b2 b3 b4 b5 g1 g2 g3 g4 g5 k0 u0 u1 u2 u3 u4 u5 u6 u7 o1 o2 o3 o4 o5 f1 f2 f3 f4 f5 (hr20) (hhb) (hww) (hkk) (hN)) (cwV 2 hts gX4_bestFor_X4_bestFor rfl rfl rfl (by decide +kernel) ⟨Nat.le_of_ble_eq_true rfl, Nat.le_of_ble_eq_true rfl⟩) (pvW 4 0 hK hP rfl rfl hc_5) rfl rfl hl.1 rfl (lv_room (Nat.le_of_ble_eq_true rfl)) dX4_bestFor_40 ⟨Nat.le_of_ble_eq_true rfl, Nat.le_of_ble_eq_true rfl⟩) hS (fun q _ h => hc_5.2.2 q h) hc_5.2.2 (fun r_5 u_5 t_5 H1 locs ht hvm h_5 hB hz1 hk1 hS => ?_)
  refine xl_15_4 hB (fun v3n_5 u0n_5 u1n_5 u2n_5 u3n_5 u4n_5 u5n_5 u6n_5 u7n_5 g1n_5 f1n_5 f2n_5 f3n_5 f4n_5 f5n_5 hP1 hD1 hF_5_0 hF_5_1 => ?_)
  clear hB
  rw [ht] at hP1
  obtain ⟨hP, hD⟩ := va_join (wr := []) (w1 := [(xo_4_rri p0 h k0 (nI hrs)), (xo_3_iiiiiiiirrrrr h v0 v1 v2 v3n_5 (nI hh) v5 (nI ww) (nI kk) b1 b2 b3 b4 b5), (xI b1 cI 6 g1n_5), (xI b2 cI 6 g2), (xI b3 cI 6 g3), (xI b4 cI 6 g4), (xI b5 cI 6 g5), (xo_3_iiiiiiiirrrrr k0 u0n_5 u1n_5 u2n_5 u3n_5 u4n_5 u5n_5 u6n_5 u7n_5 o1 o2 o3 o4 o5), (xI o1 cI 6 f1n_5), (xI o2 cI 6 f2n_5), (xI o3 cI 6 f3n_5), (xI o4 cI 6 f4n_5), (xI o5 cI 6 f5n_5)]) hP hD [0, 1, 2, 3, 4, 5, 6, 7, 8, 9, 10, 11, 12] [] rfl rfl (by decide +kernel) (by decide +kernel) hk1 hc_5.2.2 hP1 hD1
  generalize H1 = H at hP hS ⊢
  have hP : va_P (dC, dI) vwCl [(xo_4_rri p0 h k0 (nI hrs)), (xo_3_iiiiiiiirrrrr h v0 v1 v2 v3n_5 (nI hh) v5 (nI ww) (nI kk) b1 b2 b3 b4 b5), (xI b1 cI 6 g1n_5), (xI b2 cI 6 g2), (xI b3 cI 6 g3), (xI b4 cI 6 g4), (xI b5 cI 6 g5), (xo_3_iiiiiiiirrrrr k0 u0n_5 u1n_5 u2n_5 u3n_5 u4n_5 u5n_5 u6n_5 u7n_5 o1 o2 o3 o4 o5), (xI o1 cI 6 f1n_5), (xI o2 cI 6 f2n_5), (xI o3 cI 6 f3n_5), (xI o4 cI 6 f4n_5), (xI o5 cI 6 f5n_5)] H := hP
  have hD := dto hP hD
  refine lv_istore_n (lv' := [(3, .int r_5), (0, .ref p0), (1, .int 1), (2, .int 2)]) hx hb dX4_bestFor_43 rfl hl (by decide) rfl (fun ls hl => ?_)
  refine lv_aload_n hx hb dX4_bestFor_44 rfl (lv_at hl 1 rfl) ?_
  refine lv_iload_n hx hb dX4_bestFor_45 rfl (lv_at hl 2 rfl) ?_
  have hc_6 := cutW (wc := [(xo_4_rri p0 h k0 (nI hrs)), (xo_3_iiiiiiiirrrrr h v0 v1 v2 v3n_5 (nI hh) v5 (nI ww) (nI kk) b1 b2 b3 b4 b5), (xI b1 cI 6 g1n_5), (xI b2 cI 6 g2), (xI b3 cI 6 g3), (xI b4 cI 6 g4), (xI b5 cI 6 g5)]) hP hD hS hA [0, 1, 2, 3, 4, 5, 6] (by decide +kernel) rfl
  refine va_callv (va_runV (As := [.int 1]) (rest := []) ⟨hx, hb, hml, hown, hts⟩ (r_X4_tn_1 l dC dI cI cZ cL cJ H.size p0 hrs h v0 v1 v2 v3n_5 v5 hh ww kk b1 b2 b3 b4 b5 g1n_5 g2 g3 g4 g5 k0 (hr20) (hhb) (hww) (hkk)) (cwV 1 hts gX4_bestFor_X4_turn rfl rfl rfl (by decide +kernel) ⟨Nat.le_of_ble_eq_true rfl, Nat.le_of_ble_eq_true rfl⟩) (pvW 4 0 hK hP rfl rfl hc_6) rfl rfl hl.1 rfl (lv_room (Nat.le_of_ble_eq_true rfl)) dX4_bestFor_46 ⟨Nat.le_of_ble_eq_true rfl, Nat.le_of_ble_eq_true rfl⟩) hS (fun q _ h => hc_6.2.2 q h) hc_6.2.2 (fun u_6 t_6 H1 locs ht hvm h_6 hB hz1 hk1 hS => ?_)
  refine xl_1_3 hB (fun v3n_6 hP1 hD1 hF_6_0 => ?_)
  clear hB
  rw [ht] at hP1
  obtain ⟨hP, hD⟩ := va_join (wr := [(xo_3_iiiiiiiirrrrr k0 u0n_5 u1n_5 u2n_5 u3n_5 u4n_5 u5n_5 u6n_5 u7n_5 o1 o2 o3 o4 o5), (xI o1 cI 6 f1n_5), (xI o2 cI 6 f2n_5), (xI o3 cI 6 f3n_5), (xI o4 cI 6 f4n_5), (xI o5 cI 6 f5n_5)]) (w1 := [(xo_4_rri p0 h k0 (nI hrs)), (xo_3_iiiiiiiirrrrr h v0 v1 v2 v3n_6 (nI hh) v5 (nI ww) (nI kk) b1 b2 b3 b4 b5), (xI b1 cI 6 g1n_5), (xI b2 cI 6 g2), (xI b3 cI 6 g3), (xI b4 cI 6 g4), (xI b5 cI 6 g5)]) hP hD [0, 1, 2, 3, 4, 5, 6] [7, 8, 9, 10, 11, 12] rfl rfl (by decide +kernel) (by decide +kernel) hk1 hc_6.2.2 hP1 hD1
  generalize H1 = H at hP hS ⊢
  have hP : va_P (dC, dI) vwCl [(xo_3_iiiiiiiirrrrr k0 u0n_5 u1n_5 u2n_5 u3n_5 u4n_5 u5n_5 u6n_5 u7n_5 o1 o2 o3 o4 o5), (xI o1 cI 6 f1n_5), (xI o2 cI 6 f2n_5), (xI o3 cI 6 f3n_5), (xI o4 cI 6 f4n_5), (xI o5 cI 6 f5n_5), (xo_4_rri p0 h k0 (nI hrs)), (xo_3_iiiiiiiirrrrr h v0 v1 v2 v3n_6 (nI hh) v5 (nI ww) (nI kk) b1 b2 b3 b4 b5), (xI b1 cI 6 g1n_5), (xI b2 cI 6 g2), (xI b3 cI 6 g3), (xI b4 cI 6 g4), (xI b5 cI 6 g5)] H := hP
  have hD := dto hP hD
  refine lv_aload_n hx hb dX4_bestFor_49 rfl (lv_at hl 1 rfl) ?_
  refine lv_iload_n hx hb dX4_bestFor_50 rfl (lv_at hl 2 rfl) ?_
  refine lv_if_ne (tgt := 58) hx hb dX4_bestFor_51 (by decide) (fun _ => ?_) (fun c_ => absurd c_ (by decide))
  refine lv_iconst (v := 0) hx hb dX4_bestFor_58 (by decide) ?_
  refine lv_iload_n hx hb dX4_bestFor_59 rfl (lv_at hl 3 rfl) ?_
  refine lv_iconst (v := 1) hx hb dX4_bestFor_60 (by decide) ?_
  refine lv_isub hx hb dX4_bestFor_61 ?_
  refine lv_topi (fun v_8 e_8 => ?_)
  obtain rfl : v_8 = 1 := (e_8).trans (by decide)
  have hR_9 : (nrm v0 v1 v2 v3n_6 hh v5 ww kk g1n_5 g2 g3 g4 g5) = tgP true (nrm v0 v1 v2 v3 hh v5 ww kk g1 g2 g3 g4 g5) := (lf_X4_bf_2_1_1 hr20 hhb hww hkk hN hF_5_0 hF_5_1 h_5 hF_6_0)
  have hRN_9 : okN 999 (nrm v0 v1 v2 v3n_6 hh v5 ww kk g1n_5 g2 g3 g4 g5) := by rw [hR_9]; exact tgP_ok _ hN
  have hc_10 := cutW (wc := [(xo_4_rri p0 h k0 (nI hrs)), (xo_3_iiiiiiiirrrrr h v0 v1 v2 v3n_6 (nI hh) v5 (nI ww) (nI kk) b1 b2 b3 b4 b5), (xI b1 cI 6 g1n_5), (xI b2 cI 6 g2), (xI b3 cI 6 g3), (xI b4 cI 6 g4), (xI b5 cI 6 g5), (xo_3_iiiiiiiirrrrr k0 u0n_5 u1n_5 u2n_5 u3n_5 u4n_5 u5n_5 u6n_5 u7n_5 o1 o2 o3 o4 o5), (xI o1 cI 6 f1n_5), (xI o2 cI 6 f2n_5), (xI o3 cI 6 f3n_5), (xI o4 cI 6 f4n_5), (xI o5 cI 6 f5n_5)]) hP hD hS hA [6, 7, 8, 9, 10, 11, 12, 0, 1, 2, 3, 4, 5] (by decide +kernel) rfl
  refine va_calli (va_runV (As := [.int 0, .int 1]) (rest := []) ⟨hx, hb, hml, hown, hts⟩ (r_X4_bf_1_0 l dC dI cI cZ cL cJ H.size p0 hrs h v0 v1 v2 v3n_6 v5 hh ww kk b1 b2 b3 b4 b5 g1n_5 g2 g3 g4 g5 k0 u0n_5 u1n_5 u2n_5 u3n_5 u4n_5 u5n_5 u6n_5 u7n_5 o1 o2 o3 o4 o5 f1n_5 f2n_5 f3n_5 f4n_5 f5n_5 (hr20) (hhb) (hww) (hkk) (hRN_9)) (cwV 2 hts gX4_bestFor_X4_bestFor rfl rfl rfl (by decide +kernel) ⟨Nat.le_of_ble_eq_true rfl, Nat.le_of_ble_eq_true rfl⟩) (pvW 4 6 hK hP rfl rfl hc_10) rfl rfl hl.1 rfl (lv_room (Nat.le_of_ble_eq_true rfl)) dX4_bestFor_62 ⟨Nat.le_of_ble_eq_true rfl, Nat.le_of_ble_eq_true rfl⟩) hS (fun q _ h => hc_10.2.2 q h) hc_10.2.2 (fun r_10 u_10 t_10 H1 locs ht hvm h_10 hB hz1 hk1 hS => ?_)
  refine xl_15_4 hB (fun v3n_10 u0n_10 u1n_10 u2n_10 u3n_10 u4n_10 u5n_10 u6n_10 u7n_10 g1n_10 f1n_10 f2n_10 f3n_10 f4n_10 f5n_10 hP1 hD1 hF_10_0 hF_10_1 => ?_)
  clear hB
  rw [ht] at hP1
  obtain ⟨hP, hD⟩ := va_join (wr := []) (w1 := [(xo_4_rri p0 h k0 (nI hrs)), (xo_3_iiiiiiiirrrrr h v0 v1 v2 v3n_10 (nI hh) v5 (nI ww) (nI kk) b1 b2 b3 b4 b5), (xI b1 cI 6 g1n_10), (xI b2 cI 6 g2), (xI b3 cI 6 g3), (xI b4 cI 6 g4), (xI b5 cI 6 g5), (xo_3_iiiiiiiirrrrr k0 u0n_10 u1n_10 u2n_10 u3n_10 u4n_10 u5n_10 u6n_10 u7n_10 o1 o2 o3 o4 o5), (xI o1 cI 6 f1n_10), (xI o2 cI 6 f2n_10), (xI o3 cI 6 f3n_10), (xI o4 cI 6 f4n_10), (xI o5 cI 6 f5n_10)]) hP hD [6, 7, 8, 9, 10, 11, 12, 0, 1, 2, 3, 4, 5] [] rfl rfl (by decide +kernel) (by decide +kernel) hk1 hc_10.2.2 hP1 hD1
  generalize H1 = H at hP hS ⊢
  have hP : va_P (dC, dI) vwCl [(xo_4_rri p0 h k0 (nI hrs)), (xo_3_iiiiiiiirrrrr h v0 v1 v2 v3n_10 (nI hh) v5 (nI ww) (nI kk) b1 b2 b3 b4 b5), (xI b1 cI 6 g1n_10), (xI b2 cI 6 g2), (xI b3 cI 6 g3), (xI b4 cI 6 g4), (xI b5 cI 6 g5), (xo_3_iiiiiiiirrrrr k0 u0n_10 u1n_10 u2n_10 u3n_10 u4n_10 u5n_10 u6n_10 u7n_10 o1 o2 o3 o4 o5), (xI o1 cI 6 f1n_10), (xI o2 cI 6 f2n_10), (xI o3 cI 6 f3n_10), (xI o4 cI 6 f4n_10), (xI o5 cI 6 f5n_10)] H := hP
  have hD := dto hP hD
  refine lv_istore (lv' := [(4, .int r_10), (3, .int r_5), (0, .ref p0), (1, .int 1), (2, .int 2)]) hx hb dX4_bestFor_65 hl (by decide) rfl (fun ls hl => ?_)
  refine lv_aload_n hx hb dX4_bestFor_67 rfl (lv_at hl 2 rfl) ?_
  refine lv_iload_n hx hb dX4_bestFor_68 rfl (lv_at hl 3 rfl) ?_
  have hc_11 := cutW (wc := [(xo_4_rri p0 h k0 (nI hrs)), (xo_3_iiiiiiiirrrrr h v0 v1 v2 v3n_10 (nI hh) v5 (nI ww) (nI kk) b1 b2 b3 b4 b5), (xI b1 cI 6 g1n_10), (xI b2 cI 6 g2), (xI b3 cI 6 g3), (xI b4 cI 6 g4), (xI b5 cI 6 g5)]) hP hD hS hA [0, 1, 2, 3, 4, 5, 6] (by decide +kernel) rfl
  refine va_callv (va_runV (As := [.int 1]) (rest := []) ⟨hx, hb, hml, hown, hts⟩ (r_X4_tn_1 l dC dI cI cZ cL cJ H.size p0 hrs h v0 v1 v2 v3n_10 v5 hh ww kk b1 b2 b3 b4 b5 g1n_10 g2 g3 g4 g5 k0 (hr20) (hhb) (hww) (hkk)) (cwV 1 hts gX4_bestFor_X4_turn rfl rfl rfl (by decide +kernel) ⟨Nat.le_of_ble_eq_true rfl, Nat.le_of_ble_eq_true rfl⟩) (pvW 4 0 hK hP rfl rfl hc_11) rfl rfl hl.1 rfl (lv_room (Nat.le_of_ble_eq_true rfl)) dX4_bestFor_69 ⟨Nat.le_of_ble_eq_true rfl, Nat.le_of_ble_eq_true rfl⟩) hS (fun q _ h => hc_11.2.2 q h) hc_11.2.2 (fun u_11 t_11 H1 locs ht hvm h_11 hB hz1 hk1 hS => ?_)
  refine xl_1_3 hB (fun v3n_11 hP1 hD1 hF_11_0 => ?_)
  clear hB
  rw [ht] at hP1
  obtain ⟨hP, hD⟩ := va_join (wr := [(xo_3_iiiiiiiirrrrr k0 u0n_10 u1n_10 u2n_10 u3n_10 u4n_10 u5n_10 u6n_10 u7n_10 o1 o2 o3 o4 o5), (xI o1 cI 6 f1n_10), (xI o2 cI 6 f2n_10), (xI o3 cI 6 f3n_10), (xI o4 cI 6 f4n_10), (xI o5 cI 6 f5n_10)]) (w1 := [(xo_4_rri p0 h k0 (nI hrs)), (xo_3_iiiiiiiirrrrr h v0 v1 v2 v3n_11 (nI hh) v5 (nI ww) (nI kk) b1 b2 b3 b4 b5), (xI b1 cI 6 g1n_10), (xI b2 cI 6 g2), (xI b3 cI 6 g3), (xI b4 cI 6 g4), (xI b5 cI 6 g5)]) hP hD [0, 1, 2, 3, 4, 5, 6] [7, 8, 9, 10, 11, 12] rfl rfl (by decide +kernel) (by decide +kernel) hk1 hc_11.2.2 hP1 hD1
  generalize H1 = H at hP hS ⊢
  have hP : va_P (dC, dI) vwCl [(xo_3_iiiiiiiirrrrr k0 u0n_10 u1n_10 u2n_10 u3n_10 u4n_10 u5n_10 u6n_10 u7n_10 o1 o2 o3 o4 o5), (xI o1 cI 6 f1n_10), (xI o2 cI 6 f2n_10), (xI o3 cI 6 f3n_10), (xI o4 cI 6 f4n_10), (xI o5 cI 6 f5n_10), (xo_4_rri p0 h k0 (nI hrs)), (xo_3_iiiiiiiirrrrr h v0 v1 v2 v3n_11 (nI hh) v5 (nI ww) (nI kk) b1 b2 b3 b4 b5), (xI b1 cI 6 g1n_10), (xI b2 cI 6 g2), (xI b3 cI 6 g3), (xI b4 cI 6 g4), (xI b5 cI 6 g5)] H := hP
  have hD := dto hP hD
  refine lv_iload_n hx hb dX4_bestFor_72 rfl (lv_at hl 3 rfl) ?_
  refine lv_if_eq (tgt := 85) hx hb dX4_bestFor_73 (by decide) (fun c_ => absurd c_ (by decide)) (fun _ => ?_)
  refine lv_iload_n hx hb dX4_bestFor_76 rfl (lv_at hl 1 rfl) ?_
  refine lv_iload hx hb dX4_bestFor_77 (lv_at hl 0 rfl) ?_
  refine va_mmax hx hb (by rw [hml]; exact hl.1.symm) hown (hts _ mx_X4_bestFor_4) (hts _ mx_X4_bestFor_5) (hts _ mx_X4_bestFor_6) (hts _ mx_X4_bestFor_7) (Nat.le_of_ble_eq_true rfl) (Nat.le_of_ble_eq_true rfl) (Nat.zero_le _) (Nat.zero_le _) dX4_bestFor_79 ?_
  refine lv_topi (fun v_13 e_13 => ?_)
  refine lv_goto (tgt := 91) hx hb dX4_bestFor_82 (by decide) ?_
  have hX9 := cut2 (wc := [(xo_4_rri p0 h k0 (nI hrs)), (xo_3_iiiiiiiirrrrr h v0 v1 v2 v3n_11 (nI hh) v5 (nI ww) (nI kk) b1 b2 b3 b4 b5), (xI b1 cI 6 g1n_10), (xI b2 cI 6 g2), (xI b3 cI 6 g3), (xI b4 cI 6 g4), (xI b5 cI 6 g5), (xo_3_iiiiiiiirrrrr k0 u0n_10 u1n_10 u2n_10 u3n_10 u4n_10 u5n_10 u6n_10 u7n_10 o1 o2 o3 o4 o5), (xI o1 cI 6 f1n_10), (xI o2 cI 6 f2n_10), (xI o3 cI 6 f3n_10), (xI o4 cI 6 f4n_10), (xI o5 cI 6 f5n_10)]) hP hD [6, 7, 8, 9, 10, 11, 12, 0, 1, 2, 3, 4, 5] (by decide +kernel) rfl
  exact W.iret (v := v_13) hx hb hr (fun t ht hW => ⟨⟨v_13, (), rfl, (lf_X4_bf_2_1_4 hr20 hhb hww hkk hN hF_5_0 hF_5_1 h_5 hF_6_0 hR_9 hF_10_0 hF_10_1 h_10 hF_11_0 e_13), ⟨v3n_11, u0n_10, u1n_10, u2n_10, u3n_10, u4n_10, u5n_10, u6n_10, u7n_10, g1n_10, f1n_10, f2n_10, f3n_10, f4n_10, f5n_10, va_Ht ht hX9.1, hX9.2, (lf_X4_bf_2_1_2 hr20 hhb hww hkk hN hF_5_0 hF_5_1 h_5 hF_6_0 hR_9 hF_10_0 hF_10_1 h_10 hF_11_0 e_13), (lf_X4_bf_2_1_3 hr20 hhb hww hkk hN hF_5_0 hF_5_1 h_5 hF_6_0 hR_9 hF_10_0 hF_10_1 h_10 hF_11_0 e_13)⟩⟩, hS.F ht⟩) hS.2.2 dX4_bestFor_91
theorem lf_X4_bf_3_0_1 {hrs : Nat} {v0 : Int32} {v1 : Int32} {v2 : Int32} {v3 : Int32} {v5 : Int32} {hh : Nat} {ww : Nat} {kk : Nat} {g1 : Nat → Int32} {g2 : Nat → Int32} {g3 : Nat → Int32} {g4 : Nat → Int32} {g5 : Nat → Int32} {v3n_5 : Int32} {g1n_5 : Nat → Int32} {r_5 : Int32} {g1n_6 : Nat → Int32} (hr20 : hrs ≤ 20) (hhb : hh ≤ 999) (hww : ww ≤ 6) (hkk : kk ≤ 6) (hN : okN 999 (nrm v0 v1 v2 v3 hh v5 ww kk g1 g2 g3 g4 g5)) (hF_5_0 : v3n_5 = v3) (hF_5_1 : g1n_5 = g1) (h_5 : r_5 = (btV hrs 2 true (nrm v0 v1 v2 v3 hh v5 ww kk g1 g2 g3 g4 g5))) (hF_6_0 : g1n_6 = twX g1n_5 ww hh) : (nrm v0 v1 v2 v3n_5 hh v5 ww kk g1n_6 g2 g3 g4 g5) = tgP false (nrm v0 v1 v2 v3 hh v5 ww kk g1 g2 g3 g4 g5) := by
  exact pl_w hN hww hkk hhb hF_5_0 hF_5_1 hF_6_0
theorem lf_X4_bf_3_0_2 {hrs : Nat} {v0 : Int32} {v1 : Int32} {v2 : Int32} {v3 : Int32} {v5 : Int32} {hh : Nat} {ww : Nat} {kk : Nat} {g1 : Nat → Int32} {g2 : Nat → Int32} {g3 : Nat → Int32} {g4 : Nat → Int32} {g5 : Nat → Int32} {v3n_5 : Int32} {g1n_5 : Nat → Int32} {r_5 : Int32} {g1n_6 : Nat → Int32} {v3n_10 : Int32} {g1n_10 : Nat → Int32} {r_10 : Int32} {g1n_11 : Nat → Int32} {v_13 : Int32} (hr20 : hrs ≤ 20) (hhb : hh ≤ 999) (hww : ww ≤ 6) (hkk : kk ≤ 6) (hN : okN 999 (nrm v0 v1 v2 v3 hh v5 ww kk g1 g2 g3 g4 g5)) (hF_5_0 : v3n_5 = v3) (hF_5_1 : g1n_5 = g1) (h_5 : r_5 = (btV hrs 2 true (nrm v0 v1 v2 v3 hh v5 ww kk g1 g2 g3 g4 g5))) (hF_6_0 : g1n_6 = twX g1n_5 ww hh) (hR_9 : (nrm v0 v1 v2 v3n_5 hh v5 ww kk g1n_6 g2 g3 g4 g5) = tgP false (nrm v0 v1 v2 v3 hh v5 ww kk g1 g2 g3 g4 g5)) (hF_10_0 : v3n_10 = v3n_5) (hF_10_1 : g1n_10 = g1n_6) (h_10 : r_10 = (btV hrs 2 true (nrm v0 v1 v2 v3n_5 hh v5 ww kk g1n_6 g2 g3 g4 g5))) (hF_11_0 : g1n_11 = twX g1n_10 ww hh) (e_13 : v_13 = (if r_10 < r_5 then r_10 else r_5)) : v3n_10 = v3 := by
  first
  | exact pb_0 h_5 h_10 hR_9 e_13
  | exact hF_10_0.trans hF_5_0
  | exact pb_w hF_11_0 hF_10_1 hF_6_0 hF_5_1
theorem lf_X4_bf_3_0_3 {hrs : Nat} {v0 : Int32} {v1 : Int32} {v2 : Int32} {v3 : Int32} {v5 : Int32} {hh : Nat} {ww : Nat} {kk : Nat} {g1 : Nat → Int32} {g2 : Nat → Int32} {g3 : Nat → Int32} {g4 : Nat → Int32} {g5 : Nat → Int32} {v3n_5 : Int32} {g1n_5 : Nat → Int32} {r_5 : Int32} {g1n_6 : Nat → Int32} {v3n_10 : Int32} {g1n_10 : Nat → Int32} {r_10 : Int32} {g1n_11 : Nat → Int32} {v_13 : Int32} (hr20 : hrs ≤ 20) (hhb : hh ≤ 999) (hww : ww ≤ 6) (hkk : kk ≤ 6) (hN : okN 999 (nrm v0 v1 v2 v3 hh v5 ww kk g1 g2 g3 g4 g5)) (hF_5_0 : v3n_5 = v3) (hF_5_1 : g1n_5 = g1) (h_5 : r_5 = (btV hrs 2 true (nrm v0 v1 v2 v3 hh v5 ww kk g1 g2 g3 g4 g5))) (hF_6_0 : g1n_6 = twX g1n_5 ww hh) (hR_9 : (nrm v0 v1 v2 v3n_5 hh v5 ww kk g1n_6 g2 g3 g4 g5) = tgP false (nrm v0 v1 v2 v3 hh v5 ww kk g1 g2 g3 g4 g5)) (hF_10_0 : v3n_10 = v3n_5) (hF_10_1 : g1n_10 = g1n_6) (h_10 : r_10 = (btV hrs 2 true (nrm v0 v1 v2 v3n_5 hh v5 ww kk g1n_6 g2 g3 g4 g5))) (hF_11_0 : g1n_11 = twX g1n_10 ww hh) (e_13 : v_13 = (if r_10 < r_5 then r_10 else r_5)) : g1n_11 = g1 := by
  first
  | exact pb_0 h_5 h_10 hR_9 e_13
  | exact hF_10_0.trans hF_5_0
  | exact pb_w hF_11_0 hF_10_1 hF_6_0 hF_5_1
theorem lf_X4_bf_3_0_4 {hrs : Nat} {v0 : Int32} {v1 : Int32} {v2 : Int32} {v3 : Int32} {v5 : Int32} {hh : Nat} {ww : Nat} {kk : Nat} {g1 : Nat → Int32} {g2 : Nat → Int32} {g3 : Nat → Int32} {g4 : Nat → Int32} {g5 : Nat → Int32} {v3n_5 : Int32} {g1n_5 : Nat → Int32} {r_5 : Int32} {g1n_6 : Nat → Int32} {v3n_10 : Int32} {g1n_10 : Nat → Int32} {r_10 : Int32} {g1n_11 : Nat → Int32} {v_13 : Int32} (hr20 : hrs ≤ 20) (hhb : hh ≤ 999) (hww : ww ≤ 6) (hkk : kk ≤ 6) (hN : okN 999 (nrm v0 v1 v2 v3 hh v5 ww kk g1 g2 g3 g4 g5)) (hF_5_0 : v3n_5 = v3) (hF_5_1 : g1n_5 = g1) (h_5 : r_5 = (btV hrs 2 true (nrm v0 v1 v2 v3 hh v5 ww kk g1 g2 g3 g4 g5))) (hF_6_0 : g1n_6 = twX g1n_5 ww hh) (hR_9 : (nrm v0 v1 v2 v3n_5 hh v5 ww kk g1n_6 g2 g3 g4 g5) = tgP false (nrm v0 v1 v2 v3 hh v5 ww kk g1 g2 g3 g4 g5)) (hF_10_0 : v3n_10 = v3n_5) (hF_10_1 : g1n_10 = g1n_6) (h_10 : r_10 = (btV hrs 2 true (nrm v0 v1 v2 v3n_5 hh v5 ww kk g1n_6 g2 g3 g4 g5))) (hF_11_0 : g1n_11 = twX g1n_10 ww hh) (e_13 : v_13 = (if r_10 < r_5 then r_10 else r_5)) : v_13 = (btV hrs 3 false (nrm v0 v1 v2 v3 hh v5 ww kk g1 g2 g3 g4 g5)) := by
  first
  | exact pb_0 h_5 h_10 hR_9 e_13
  | exact hF_10_0.trans hF_5_0
  | exact pb_w hF_11_0 hF_10_1 hF_6_0 hF_5_1
set_option maxHeartbeats 4000000 in
set_option maxRecDepth 100000 in
theorem r_X4_bf_3_0 (l : Launch) (dC : Nat → ClassId) (dI : Nat → Nat → Nat) (cI cZ cL cJ : ClassId) (sz : Nat) (p0 : Nat) (hrs : Nat) (h : Nat) (v0 : Int32) (v1 : Int32) (v2 : Int32) (v3 : Int32) (v5 : Int32) (hh : Nat) (ww : Nat) (kk : Nat) (b1 : Nat) (b2 : Nat) (b3 : Nat) (b4 : Nat) (b5 : Nat) (g1 : Nat → Int32) (g2 : Nat → Int32) (g3 : Nat → Int32) (g4 : Nat → Int32) (g5 : Nat → Int32) (k0 : Nat) (u0 : Int32) (u1 : Int32) (u2 : Int32) (u3 : Int32) (u4 : Int32) (u5 : Int32) (u6 : Int32) (u7 : Int32) (o1 : Nat) (o2 : Nat) (o3 : Nat) (o4 : Nat) (o5 : Nat) (f1 : Nat → Int32) (f2 : Nat → Int32) (f3 : Nat → Int32) (f4 : Nat → Int32) (f5 : Nat → Int32) (hr20 : hrs ≤ 20) (hhb : hh ≤ 999) (hww : ww ≤ 6) (hkk : kk ≤ 6) (hN : okN 999 (nrm v0 v1 v2 v3 hh v5 ww kk g1 g2 g3 g4 g5)) : Met l yX4_bestFor wsX4_bestFor ({ frames := 8, cells := 0, slots := 0, locals := 182 }) (va_Pc [.ref p0, .int 0, .int 3] (fun U => U.heap.size = sz ∧ va_P (dC, dI) vwCl [(xo_4_rri p0 h k0 (nI hrs)), (xo_3_iiiiiiiirrrrr h v0 v1 v2 v3 (nI hh) v5 (nI ww) (nI kk) b1 b2 b3 b4 b5), (xI b1 cI 6 g1), (xI b2 cI 6 g2), (xI b3 cI 6 g3), (xI b4 cI 6 g4), (xI b5 cI 6 g5), (xo_3_iiiiiiiirrrrr k0 u0 u1 u2 u3 u4 u5 u6 u7 o1 o2 o3 o4 o5), (xI o1 cI 6 f1), (xI o2 cI 6 f2), (xI o3 cI 6 f3), (xI o4 cI 6 f4), (xI o5 cI 6 f5)] U.heap ∧ va_K (dC, dI) vwCl [(cI, .int), (cZ, .boolean), (cL, .object RX3), (cJ, .array .int)] U ∧ va_D (fun _ => True) [(xo_4_rri p0 h k0 (nI hrs)), (xo_3_iiiiiiiirrrrr h v0 v1 v2 v3 (nI hh) v5 (nI ww) (nI kk) b1 b2 b3 b4 b5), (xI b1 cI 6 g1), (xI b2 cI 6 g2), (xI b3 cI 6 g3), (xI b4 cI 6 g4), (xI b5 cI 6 g5), (xo_3_iiiiiiiirrrrr k0 u0 u1 u2 u3 u4 u5 u6 u7 o1 o2 o3 o4 o5), (xI o1 cI 6 f1), (xI o2 cI 6 f2), (xI o3 cI 6 f3), (xI o4 cI 6 f4), (xI o5 cI 6 f5)])) (va_Qi (fun r (_ : Unit) => r = (btV hrs 3 false (nrm v0 v1 v2 v3 hh v5 ww kk g1 g2 g3 g4 g5))) (fun (_ : Unit) t => ∃ (v3n : Int32) (u0n : Int32) (u1n : Int32) (u2n : Int32) (u3n : Int32) (u4n : Int32) (u5n : Int32) (u6n : Int32) (u7n : Int32) (g1n : Nat → Int32) (f1n : Nat → Int32) (f2n : Nat → Int32) (f3n : Nat → Int32) (f4n : Nat → Int32) (f5n : Nat → Int32), va_P (dC, dI) vwCl [(xo_4_rri p0 h k0 (nI hrs)), (xo_3_iiiiiiiirrrrr h v0 v1 v2 v3n (nI hh) v5 (nI ww) (nI kk) b1 b2 b3 b4 b5), (xI b1 cI 6 g1n), (xI b2 cI 6 g2), (xI b3 cI 6 g3), (xI b4 cI 6 g4), (xI b5 cI 6 g5), (xo_3_iiiiiiiirrrrr k0 u0n u1n u2n u3n u4n u5n u6n u7n o1 o2 o3 o4 o5), (xI o1 cI 6 f1n), (xI o2 cI 6 f2n), (xI o3 cI 6 f3n), (xI o4 cI 6 f4n), (xI o5 cI 6 f5n)] t.heap ∧ va_D (va_A [(xo_4_rri p0 h k0 (nI hrs)), (xo_3_iiiiiiiirrrrr h v0 v1 v2 v3 (nI hh) v5 (nI ww) (nI kk) b1 b2 b3 b4 b5), (xI b1 cI 6 g1), (xI b2 cI 6 g2), (xI b3 cI 6 g3), (xI b4 cI 6 g4), (xI b5 cI 6 g5), (xo_3_iiiiiiiirrrrr k0 u0 u1 u2 u3 u4 u5 u6 u7 o1 o2 o3 o4 o5), (xI o1 cI 6 f1), (xI o2 cI 6 f2), (xI o3 cI 6 f3), (xI o4 cI 6 f4), (xI o5 cI 6 f5)] sz) [(xo_4_rri p0 h k0 (nI hrs)), (xo_3_iiiiiiiirrrrr h v0 v1 v2 v3n (nI hh) v5 (nI ww) (nI kk) b1 b2 b3 b4 b5), (xI b1 cI 6 g1n), (xI b2 cI 6 g2), (xI b3 cI 6 g3), (xI b4 cI 6 g4), (xI b5 cI 6 g5), (xo_3_iiiiiiiirrrrr k0 u0n u1n u2n u3n u4n u5n u6n u7n o1 o2 o3 o4 o5), (xI o1 cI 6 f1n), (xI o2 cI 6 f2n), (xI o3 cI 6 f3n), (xI o4 cI 6 f4n), (xI o5 cI 6 f5n)] ∧ v3n = v3 ∧ g1n = g1) (va_A [(xo_4_rri p0 h k0 (nI hrs)), (xo_3_iiiiiiiirrrrr h v0 v1 v2 v3 (nI hh) v5 (nI ww) (nI kk) b1 b2 b3 b4 b5), (xI b1 cI 6 g1), (xI b2 cI 6 g2), (xI b3 cI 6 g3), (xI b4 cI 6 g4), (xI b5 cI 6 g5), (xo_3_iiiiiiiirrrrr k0 u0 u1 u2 u3 u4 u5 u6 u7 o1 o2 o3 o4 o5), (xI o1 cI 6 f1), (xI o2 cI 6 f2), (xI o3 cI 6 f3), (xI o4 cI 6 f4), (xI o5 cI 6 f5)] sz)) 0 0 (va_A [(xo_4_rri p0 h k0 (nI hrs)), (xo_3_iiiiiiiirrrrr h v0 v1 v2 v3 (nI hh) v5 (nI ww) (nI kk) b1 b2 b3 b4 b5), (xI b1 cI 6 g1), (xI b2 cI 6 g2), (xI b3 cI 6 g3), (xI b4 cI 6 g4), (xI b5 cI 6 g5), (xo_3_iiiiiiiirrrrr k0 u0 u1 u2 u3 u4 u5 u6 u7 o1 o2 o3 o4 o5), (xI o1 cI 6 f1), (xI o2 cI 6 f2), (xI o3 cI 6 f3), (xI o4 cI 6 f4), (xI o5 cI 6 f5)] sz) := by
  refine Met.ofW (cc := cX4_bestFor) (maxL := 5) (ret := (some .int)) (by decide) rfl ?_
  intro p e s m args below meth c s₁ B hml hv
  obtain ⟨rfl, hsz, hP, hK, hD0⟩ := hv
  have hx := B.exec
  have hb := B.bytes
  have hr := B.returns
  have hts := atoms_spec (ws := wsX4_bestFor) B.pre
  have hown : s.vm.findClass RX4 = some m.cls := findClass_of_methodNamed B.named
  have hlocks := B.notSynchronized
  subst hsz
  have hD := hD0.self (sz := s.heap.size)
  generalize hAe : va_A [(xo_4_rri p0 h k0 (nI hrs)), (xo_3_iiiiiiiirrrrr h v0 v1 v2 v3 (nI hh) v5 (nI ww) (nI kk) b1 b2 b3 b4 b5), (xI b1 cI 6 g1), (xI b2 cI 6 g2), (xI b3 cI 6 g3), (xI b4 cI 6 g4), (xI b5 cI 6 g5), (xo_3_iiiiiiiirrrrr k0 u0 u1 u2 u3 u4 u5 u6 u7 o1 o2 o3 o4 o5), (xI o1 cI 6 f1), (xI o2 cI 6 f2), (xI o3 cI 6 f3), (xI o4 cI 6 f4), (xI o5 cI 6 f5)] s.heap.size = A at hD ⊢
  have hA : ∀ q : Nat, s.heap.size ≤ q → A q := fun q h => by rw [← hAe]; exact Or.inr h
  have hS : va_S A s.heap s.heap [] := va_S.rf
  have hP : va_P (dC, dI) vwCl [(xo_4_rri p0 h k0 (nI hrs)), (xo_3_iiiiiiiirrrrr h v0 v1 v2 v3 (nI hh) v5 (nI ww) (nI kk) b1 b2 b3 b4 b5), (xI b1 cI 6 g1), (xI b2 cI 6 g2), (xI b3 cI 6 g3), (xI b4 cI 6 g4), (xI b5 cI 6 g5), (xo_3_iiiiiiiirrrrr k0 u0 u1 u2 u3 u4 u5 u6 u7 o1 o2 o3 o4 o5), (xI o1 cI 6 f1), (xI o2 cI 6 f2), (xI o3 cI 6 f3), (xI o4 cI 6 f4), (xI o5 cI 6 f5)] s.heap := hP
  have hl := lv_entry ([.ref p0, .int 0, .int 3]) (n := 5) (Nat.le_of_ble_eq_true rfl)
  rw [lg_entry_eq]
  generalize (lg_sl ([.ref p0, .int 0, .int 3]) ++ List.replicate (5 - (lg_sl ([.ref p0, .int 0, .int 3])).length) Slot.unset).toArray = ls at hl ⊢
  have hl : lv_has ls 5 [(0, .ref p0), (1, .int 0), (2, .int 3)] := hl
  refine lv_iload_n hx hb dX4_bestFor_0 rfl (lv_at hl 2 rfl) ?_
  refine lv_if_gt (tgt := 27) hx hb dX4_bestFor_1 (by decide) (fun _ => ?_) (fun c_ => absurd (by decide) c_)
  refine lv_aload_n hx hb dX4_bestFor_27 rfl (lv_at hl 0 rfl) ?_
  refine lv_iload_n hx hb dX4_bestFor_28 rfl (lv_at hl 1 rfl) ?_
  refine lv_if_ne (tgt := 36) hx hb dX4_bestFor_29 (by decide) (fun c_ => absurd (by decide) c_) (fun _ => ?_)
  refine lv_iconst (v := 1) hx hb dX4_bestFor_32 (by decide) ?_
  refine lv_goto (tgt := 37) hx hb dX4_bestFor_33 (by decide) ?_
  refine lv_iload_n hx hb dX4_bestFor_37 rfl (lv_at hl 2 rfl) ?_
  refine lv_iconst (v := 1) hx hb dX4_bestFor_38 (by decide) ?_
  refine lv_isub hx hb dX4_bestFor_39 ?_
  refine lv_topi (fun v_3 e_3 => ?_)
  obtain rfl : v_3 = 2 := (e_3).trans (by decide)
  have hc_5 := cutW (wc := [(xo_4_rri p0 h k0 (nI hrs)), (xo_3_iiiiiiiirrrrr h v0 v1 v2 v3 (nI hh) v5 (nI ww) (nI kk) b1 b2 b3 b4 b5), (xI b1 cI 6 g1), (xI b2 cI 6 g2), (xI b3 cI 6 g3), (xI b4 cI 6 g4), (xI b5 cI 6 g5), (xo_3_iiiiiiiirrrrr k0 u0 u1 u2 u3 u4 u5 u6 u7 o1 o2 o3 o4 o5), (xI o1 cI 6 f1), (xI o2 cI 6 f2), (xI o3 cI 6 f3), (xI o4 cI 6 f4), (xI o5 cI 6 f5)]) hP hD hS hA [0, 1, 2, 3, 4, 5, 6, 7, 8, 9, 10, 11, 12] (by decide +kernel) rfl
  refine va_calli (va_runV (As := [.int 1, .int 2]) (rest := []) ⟨hx, hb, hml, hown, hts⟩ (r_X4_bf_2_1 l dC dI cI cZ cL cJ s.heap.size p0 hrs h v0 v1 v2 v3 v5 hh ww kk b1 b2 b3 b4 b5 g1 g2 g3 g4 g5 k0 u0 u1 u2 u3 u4 u5 u6 u7 o1 o2 o3 o4 o5 f1 f2 f3 f4 f5 (hr20) (hhb) (hww) (hkk) (hN)) (cwV 2 hts gX4_bestFor_X4_bestFor rfl rfl rfl (by decide +kernel) ⟨Nat.le_of_ble_eq_true rfl, Nat.le_of_ble_eq_true rfl⟩) (pvW 4 0 hK hP rfl rfl hc_5) rfl rfl hl.1 rfl (lv_room (Nat.le_of_ble_eq_true rfl)) dX4_bestFor_40 ⟨Nat.le_of_ble_eq_true rfl, Nat.le_of_ble_eq_true rfl⟩) hS (fun q _ h => hc_5.2.2 q h) hc_5.2.2 (fun r_5 u_5 t_5 H1 locs ht hvm h_5 hB hz1 hk1 hS => ?_)
  refine xl_15_4 hB (fun v3n_5 u0n_5 u1n_5 u2n_5 u3n_5 u4n_5 u5n_5 u6n_5 u7n_5 g1n_5 f1n_5 f2n_5 f3n_5 f4n_5 f5n_5 hP1 hD1 hF_5_0 hF_5_1 => ?_)
  clear hB
  rw [ht] at hP1
  obtain ⟨hP, hD⟩ := va_join (wr := []) (w1 := [(xo_4_rri p0 h k0 (nI hrs)), (xo_3_iiiiiiiirrrrr h v0 v1 v2 v3n_5 (nI hh) v5 (nI ww) (nI kk) b1 b2 b3 b4 b5), (xI b1 cI 6 g1n_5), (xI b2 cI 6 g2), (xI b3 cI 6 g3), (xI b4 cI 6 g4), (xI b5 cI 6 g5), (xo_3_iiiiiiiirrrrr k0 u0n_5 u1n_5 u2n_5 u3n_5 u4n_5 u5n_5 u6n_5 u7n_5 o1 o2 o3 o4 o5), (xI o1 cI 6 f1n_5), (xI o2 cI 6 f2n_5), (xI o3 cI 6 f3n_5), (xI o4 cI 6 f4n_5), (xI o5 cI 6 f5n_5)]) hP hD [0, 1, 2, 3, 4, 5, 6, 7, 8, 9, 10, 11, 12] [] rfl rfl (by decide +kernel) (by decide +kernel) hk1 hc_5.2.2 hP1 hD1
  generalize H1 = H at hP hS ⊢
  have hP : va_P (dC, dI) vwCl [(xo_4_rri p0 h k0 (nI hrs)), (xo_3_iiiiiiiirrrrr h v0 v1 v2 v3n_5 (nI hh) v5 (nI ww) (nI kk) b1 b2 b3 b4 b5), (xI b1 cI 6 g1n_5), (xI b2 cI 6 g2), (xI b3 cI 6 g3), (xI b4 cI 6 g4), (xI b5 cI 6 g5), (xo_3_iiiiiiiirrrrr k0 u0n_5 u1n_5 u2n_5 u3n_5 u4n_5 u5n_5 u6n_5 u7n_5 o1 o2 o3 o4 o5), (xI o1 cI 6 f1n_5), (xI o2 cI 6 f2n_5), (xI o3 cI 6 f3n_5), (xI o4 cI 6 f4n_5), (xI o5 cI 6 f5n_5)] H := hP
  have hD := dto hP hD
  refine lv_istore_n (lv' := [(3, .int r_5), (0, .ref p0), (1, .int 0), (2, .int 3)]) hx hb dX4_bestFor_43 rfl hl (by decide) rfl (fun ls hl => ?_)
  refine lv_aload_n hx hb dX4_bestFor_44 rfl (lv_at hl 1 rfl) ?_
  refine lv_iload_n hx hb dX4_bestFor_45 rfl (lv_at hl 2 rfl) ?_
  have hc_6 := cutW (wc := [(xo_4_rri p0 h k0 (nI hrs)), (xo_3_iiiiiiiirrrrr h v0 v1 v2 v3n_5 (nI hh) v5 (nI ww) (nI kk) b1 b2 b3 b4 b5), (xI b1 cI 6 g1n_5), (xI b2 cI 6 g2), (xI b3 cI 6 g3), (xI b4 cI 6 g4), (xI b5 cI 6 g5)]) hP hD hS hA [0, 1, 2, 3, 4, 5, 6] (by decide +kernel) rfl
  refine va_callv (va_runV (As := [.int 0]) (rest := []) ⟨hx, hb, hml, hown, hts⟩ (r_X4_tn_0 l dC dI cI cZ cL cJ H.size p0 hrs h v0 v1 v2 v3n_5 v5 hh ww kk b1 b2 b3 b4 b5 g1n_5 g2 g3 g4 g5 k0 (hr20) (hhb) (hww) (hkk)) (cwV 1 hts gX4_bestFor_X4_turn rfl rfl rfl (by decide +kernel) ⟨Nat.le_of_ble_eq_true rfl, Nat.le_of_ble_eq_true rfl⟩) (pvW 4 0 hK hP rfl rfl hc_6) rfl rfl hl.1 rfl (lv_room (Nat.le_of_ble_eq_true rfl)) dX4_bestFor_46 ⟨Nat.le_of_ble_eq_true rfl, Nat.le_of_ble_eq_true rfl⟩) hS (fun q _ h => hc_6.2.2 q h) hc_6.2.2 (fun u_6 t_6 H1 locs ht hvm h_6 hB hz1 hk1 hS => ?_)
  refine xl_1_3 hB (fun g1n_6 hP1 hD1 hF_6_0 => ?_)
  clear hB
  rw [ht] at hP1
  obtain ⟨hP, hD⟩ := va_join (wr := [(xo_3_iiiiiiiirrrrr k0 u0n_5 u1n_5 u2n_5 u3n_5 u4n_5 u5n_5 u6n_5 u7n_5 o1 o2 o3 o4 o5), (xI o1 cI 6 f1n_5), (xI o2 cI 6 f2n_5), (xI o3 cI 6 f3n_5), (xI o4 cI 6 f4n_5), (xI o5 cI 6 f5n_5)]) (w1 := [(xo_4_rri p0 h k0 (nI hrs)), (xo_3_iiiiiiiirrrrr h v0 v1 v2 v3n_5 (nI hh) v5 (nI ww) (nI kk) b1 b2 b3 b4 b5), (xI b1 cI 6 g1n_6), (xI b2 cI 6 g2), (xI b3 cI 6 g3), (xI b4 cI 6 g4), (xI b5 cI 6 g5)]) hP hD [0, 1, 2, 3, 4, 5, 6] [7, 8, 9, 10, 11, 12] rfl rfl (by decide +kernel) (by decide +kernel) hk1 hc_6.2.2 hP1 hD1
  generalize H1 = H at hP hS ⊢
  have hP : va_P (dC, dI) vwCl [(xo_3_iiiiiiiirrrrr k0 u0n_5 u1n_5 u2n_5 u3n_5 u4n_5 u5n_5 u6n_5 u7n_5 o1 o2 o3 o4 o5), (xI o1 cI 6 f1n_5), (xI o2 cI 6 f2n_5), (xI o3 cI 6 f3n_5), (xI o4 cI 6 f4n_5), (xI o5 cI 6 f5n_5), (xo_4_rri p0 h k0 (nI hrs)), (xo_3_iiiiiiiirrrrr h v0 v1 v2 v3n_5 (nI hh) v5 (nI ww) (nI kk) b1 b2 b3 b4 b5), (xI b1 cI 6 g1n_6), (xI b2 cI 6 g2), (xI b3 cI 6 g3), (xI b4 cI 6 g4), (xI b5 cI 6 g5)] H := hP
  have hD := dto hP hD
  refine lv_aload_n hx hb dX4_bestFor_49 rfl (lv_at hl 1 rfl) ?_
  refine lv_iload_n hx hb dX4_bestFor_50 rfl (lv_at hl 2 rfl) ?_
  refine lv_if_ne (tgt := 58) hx hb dX4_bestFor_51 (by decide) (fun c_ => absurd (by decide) c_) (fun _ => ?_)
  refine lv_iconst (v := 1) hx hb dX4_bestFor_54 (by decide) ?_
  refine lv_goto (tgt := 59) hx hb dX4_bestFor_55 (by decide) ?_
  refine lv_iload_n hx hb dX4_bestFor_59 rfl (lv_at hl 3 rfl) ?_
  refine lv_iconst (v := 1) hx hb dX4_bestFor_60 (by decide) ?_
  refine lv_isub hx hb dX4_bestFor_61 ?_
  refine lv_topi (fun v_8 e_8 => ?_)
  obtain rfl : v_8 = 2 := (e_8).trans (by decide)
  have hR_9 : (nrm v0 v1 v2 v3n_5 hh v5 ww kk g1n_6 g2 g3 g4 g5) = tgP false (nrm v0 v1 v2 v3 hh v5 ww kk g1 g2 g3 g4 g5) := (lf_X4_bf_3_0_1 hr20 hhb hww hkk hN hF_5_0 hF_5_1 h_5 hF_6_0)
  have hRN_9 : okN 999 (nrm v0 v1 v2 v3n_5 hh v5 ww kk g1n_6 g2 g3 g4 g5) := by rw [hR_9]; exact tgP_ok _ hN
  have hc_10 := cutW (wc := [(xo_4_rri p0 h k0 (nI hrs)), (xo_3_iiiiiiiirrrrr h v0 v1 v2 v3n_5 (nI hh) v5 (nI ww) (nI kk) b1 b2 b3 b4 b5), (xI b1 cI 6 g1n_6), (xI b2 cI 6 g2), (xI b3 cI 6 g3), (xI b4 cI 6 g4), (xI b5 cI 6 g5), (xo_3_iiiiiiiirrrrr k0 u0n_5 u1n_5 u2n_5 u3n_5 u4n_5 u5n_5 u6n_5 u7n_5 o1 o2 o3 o4 o5), (xI o1 cI 6 f1n_5), (xI o2 cI 6 f2n_5), (xI o3 cI 6 f3n_5), (xI o4 cI 6 f4n_5), (xI o5 cI 6 f5n_5)]) hP hD hS hA [6, 7, 8, 9, 10, 11, 12, 0, 1, 2, 3, 4, 5] (by decide +kernel) rfl
  refine va_calli (va_runV (As := [.int 1, .int 2]) (rest := []) ⟨hx, hb, hml, hown, hts⟩ (r_X4_bf_2_1 l dC dI cI cZ cL cJ H.size p0 hrs h v0 v1 v2 v3n_5 v5 hh ww kk b1 b2 b3 b4 b5 g1n_6 g2 g3 g4 g5 k0 u0n_5 u1n_5 u2n_5 u3n_5 u4n_5 u5n_5 u6n_5 u7n_5 o1 o2 o3 o4 o5 f1n_5 f2n_5 f3n_5 f4n_5 f5n_5 (hr20) (hhb) (hww) (hkk) (hRN_9)) (cwV 2 hts gX4_bestFor_X4_bestFor rfl rfl rfl (by decide +kernel) ⟨Nat.le_of_ble_eq_true rfl, Nat.le_of_ble_eq_true rfl⟩) (pvW 4 6 hK hP rfl rfl hc_10) rfl rfl hl.1 rfl (lv_room (Nat.le_of_ble_eq_true rfl)) dX4_bestFor_62 ⟨Nat.le_of_ble_eq_true rfl, Nat.le_of_ble_eq_true rfl⟩) hS (fun q _ h => hc_10.2.2 q h) hc_10.2.2 (fun r_10 u_10 t_10 H1 locs ht hvm h_10 hB hz1 hk1 hS => ?_)
  refine xl_15_4 hB (fun v3n_10 u0n_10 u1n_10 u2n_10 u3n_10 u4n_10 u5n_10 u6n_10 u7n_10 g1n_10 f1n_10 f2n_10 f3n_10 f4n_10 f5n_10 hP1 hD1 hF_10_0 hF_10_1 => ?_)
  clear hB
  rw [ht] at hP1
  obtain ⟨hP, hD⟩ := va_join (wr := []) (w1 := [(xo_4_rri p0 h k0 (nI hrs)), (xo_3_iiiiiiiirrrrr h v0 v1 v2 v3n_10 (nI hh) v5 (nI ww) (nI kk) b1 b2 b3 b4 b5), (xI b1 cI 6 g1n_10), (xI b2 cI 6 g2), (xI b3 cI 6 g3), (xI b4 cI 6 g4), (xI b5 cI 6 g5), (xo_3_iiiiiiiirrrrr k0 u0n_10 u1n_10 u2n_10 u3n_10 u4n_10 u5n_10 u6n_10 u7n_10 o1 o2 o3 o4 o5), (xI o1 cI 6 f1n_10), (xI o2 cI 6 f2n_10), (xI o3 cI 6 f3n_10), (xI o4 cI 6 f4n_10), (xI o5 cI 6 f5n_10)]) hP hD [6, 7, 8, 9, 10, 11, 12, 0, 1, 2, 3, 4, 5] [] rfl rfl (by decide +kernel) (by decide +kernel) hk1 hc_10.2.2 hP1 hD1
  generalize H1 = H at hP hS ⊢
  have hP : va_P (dC, dI) vwCl [(xo_4_rri p0 h k0 (nI hrs)), (xo_3_iiiiiiiirrrrr h v0 v1 v2 v3n_10 (nI hh) v5 (nI ww) (nI kk) b1 b2 b3 b4 b5), (xI b1 cI 6 g1n_10), (xI b2 cI 6 g2), (xI b3 cI 6 g3), (xI b4 cI 6 g4), (xI b5 cI 6 g5), (xo_3_iiiiiiiirrrrr k0 u0n_10 u1n_10 u2n_10 u3n_10 u4n_10 u5n_10 u6n_10 u7n_10 o1 o2 o3 o4 o5), (xI o1 cI 6 f1n_10), (xI o2 cI 6 f2n_10), (xI o3 cI 6 f3n_10), (xI o4 cI 6 f4n_10), (xI o5 cI 6 f5n_10)] H := hP
  have hD := dto hP hD
  refine lv_istore (lv' := [(4, .int r_10), (3, .int r_5), (0, .ref p0), (1, .int 0), (2, .int 3)]) hx hb dX4_bestFor_65 hl (by decide) rfl (fun ls hl => ?_)
  refine lv_aload_n hx hb dX4_bestFor_67 rfl (lv_at hl 2 rfl) ?_
  refine lv_iload_n hx hb dX4_bestFor_68 rfl (lv_at hl 3 rfl) ?_
  have hc_11 := cutW (wc := [(xo_4_rri p0 h k0 (nI hrs)), (xo_3_iiiiiiiirrrrr h v0 v1 v2 v3n_10 (nI hh) v5 (nI ww) (nI kk) b1 b2 b3 b4 b5), (xI b1 cI 6 g1n_10), (xI b2 cI 6 g2), (xI b3 cI 6 g3), (xI b4 cI 6 g4), (xI b5 cI 6 g5)]) hP hD hS hA [0, 1, 2, 3, 4, 5, 6] (by decide +kernel) rfl
  refine va_callv (va_runV (As := [.int 0]) (rest := []) ⟨hx, hb, hml, hown, hts⟩ (r_X4_tn_0 l dC dI cI cZ cL cJ H.size p0 hrs h v0 v1 v2 v3n_10 v5 hh ww kk b1 b2 b3 b4 b5 g1n_10 g2 g3 g4 g5 k0 (hr20) (hhb) (hww) (hkk)) (cwV 1 hts gX4_bestFor_X4_turn rfl rfl rfl (by decide +kernel) ⟨Nat.le_of_ble_eq_true rfl, Nat.le_of_ble_eq_true rfl⟩) (pvW 4 0 hK hP rfl rfl hc_11) rfl rfl hl.1 rfl (lv_room (Nat.le_of_ble_eq_true rfl)) dX4_bestFor_69 ⟨Nat.le_of_ble_eq_true rfl, Nat.le_of_ble_eq_true rfl⟩) hS (fun q _ h => hc_11.2.2 q h) hc_11.2.2 (fun u_11 t_11 H1 locs ht hvm h_11 hB hz1 hk1 hS => ?_)
  refine xl_1_3 hB (fun g1n_11 hP1 hD1 hF_11_0 => ?_)
  clear hB
  rw [ht] at hP1
  obtain ⟨hP, hD⟩ := va_join (wr := [(xo_3_iiiiiiiirrrrr k0 u0n_10 u1n_10 u2n_10 u3n_10 u4n_10 u5n_10 u6n_10 u7n_10 o1 o2 o3 o4 o5), (xI o1 cI 6 f1n_10), (xI o2 cI 6 f2n_10), (xI o3 cI 6 f3n_10), (xI o4 cI 6 f4n_10), (xI o5 cI 6 f5n_10)]) (w1 := [(xo_4_rri p0 h k0 (nI hrs)), (xo_3_iiiiiiiirrrrr h v0 v1 v2 v3n_10 (nI hh) v5 (nI ww) (nI kk) b1 b2 b3 b4 b5), (xI b1 cI 6 g1n_11), (xI b2 cI 6 g2), (xI b3 cI 6 g3), (xI b4 cI 6 g4), (xI b5 cI 6 g5)]) hP hD [0, 1, 2, 3, 4, 5, 6] [7, 8, 9, 10, 11, 12] rfl rfl (by decide +kernel) (by decide +kernel) hk1 hc_11.2.2 hP1 hD1
  generalize H1 = H at hP hS ⊢
  have hP : va_P (dC, dI) vwCl [(xo_3_iiiiiiiirrrrr k0 u0n_10 u1n_10 u2n_10 u3n_10 u4n_10 u5n_10 u6n_10 u7n_10 o1 o2 o3 o4 o5), (xI o1 cI 6 f1n_10), (xI o2 cI 6 f2n_10), (xI o3 cI 6 f3n_10), (xI o4 cI 6 f4n_10), (xI o5 cI 6 f5n_10), (xo_4_rri p0 h k0 (nI hrs)), (xo_3_iiiiiiiirrrrr h v0 v1 v2 v3n_10 (nI hh) v5 (nI ww) (nI kk) b1 b2 b3 b4 b5), (xI b1 cI 6 g1n_11), (xI b2 cI 6 g2), (xI b3 cI 6 g3), (xI b4 cI 6 g4), (xI b5 cI 6 g5)] H := hP
  have hD := dto hP hD
  refine lv_iload_n hx hb dX4_bestFor_72 rfl (lv_at hl 3 rfl) ?_
  refine lv_if_eq (tgt := 85) hx hb dX4_bestFor_73 (by decide) (fun _ => ?_) (fun c_ => absurd (by decide) c_)
  refine lv_iload_n hx hb dX4_bestFor_85 rfl (lv_at hl 1 rfl) ?_
  refine lv_iload hx hb dX4_bestFor_86 (lv_at hl 0 rfl) ?_
  refine va_mmin hx hb (by rw [hml]; exact hl.1.symm) hown (hts _ mx_X4_bestFor_8) (hts _ mx_X4_bestFor_9) (hts _ mx_X4_bestFor_6) (hts _ mx_X4_bestFor_10) (Nat.le_of_ble_eq_true rfl) (Nat.le_of_ble_eq_true rfl) (Nat.zero_le _) (Nat.zero_le _) dX4_bestFor_88 ?_
  refine lv_topi (fun v_13 e_13 => ?_)
  have hX9 := cut2 (wc := [(xo_4_rri p0 h k0 (nI hrs)), (xo_3_iiiiiiiirrrrr h v0 v1 v2 v3n_10 (nI hh) v5 (nI ww) (nI kk) b1 b2 b3 b4 b5), (xI b1 cI 6 g1n_11), (xI b2 cI 6 g2), (xI b3 cI 6 g3), (xI b4 cI 6 g4), (xI b5 cI 6 g5), (xo_3_iiiiiiiirrrrr k0 u0n_10 u1n_10 u2n_10 u3n_10 u4n_10 u5n_10 u6n_10 u7n_10 o1 o2 o3 o4 o5), (xI o1 cI 6 f1n_10), (xI o2 cI 6 f2n_10), (xI o3 cI 6 f3n_10), (xI o4 cI 6 f4n_10), (xI o5 cI 6 f5n_10)]) hP hD [6, 7, 8, 9, 10, 11, 12, 0, 1, 2, 3, 4, 5] (by decide +kernel) rfl
  exact W.iret (v := v_13) hx hb hr (fun t ht hW => ⟨⟨v_13, (), rfl, (lf_X4_bf_3_0_4 hr20 hhb hww hkk hN hF_5_0 hF_5_1 h_5 hF_6_0 hR_9 hF_10_0 hF_10_1 h_10 hF_11_0 e_13), ⟨v3n_10, u0n_10, u1n_10, u2n_10, u3n_10, u4n_10, u5n_10, u6n_10, u7n_10, g1n_11, f1n_10, f2n_10, f3n_10, f4n_10, f5n_10, va_Ht ht hX9.1, hX9.2, (lf_X4_bf_3_0_2 hr20 hhb hww hkk hN hF_5_0 hF_5_1 h_5 hF_6_0 hR_9 hF_10_0 hF_10_1 h_10 hF_11_0 e_13), (lf_X4_bf_3_0_3 hr20 hhb hww hkk hN hF_5_0 hF_5_1 h_5 hF_6_0 hR_9 hF_10_0 hF_10_1 h_10 hF_11_0 e_13)⟩⟩, hS.F ht⟩) hS.2.2 dX4_bestFor_91
theorem lf_X4_bf_3_1_1 {hrs : Nat} {v0 : Int32} {v1 : Int32} {v2 : Int32} {v3 : Int32} {v5 : Int32} {hh : Nat} {ww : Nat} {kk : Nat} {g1 : Nat → Int32} {g2 : Nat → Int32} {g3 : Nat → Int32} {g4 : Nat → Int32} {g5 : Nat → Int32} {v3n_5 : Int32} {g1n_5 : Nat → Int32} {r_5 : Int32} {v3n_6 : Int32} (hr20 : hrs ≤ 20) (hhb : hh ≤ 999) (hww : ww ≤ 6) (hkk : kk ≤ 6) (hN : okN 999 (nrm v0 v1 v2 v3 hh v5 ww kk g1 g2 g3 g4 g5)) (hF_5_0 : v3n_5 = v3) (hF_5_1 : g1n_5 = g1) (h_5 : r_5 = (btV hrs 2 false (nrm v0 v1 v2 v3 hh v5 ww kk g1 g2 g3 g4 g5))) (hF_6_0 : v3n_6 = 1 - v3n_5) : (nrm v0 v1 v2 v3n_6 hh v5 ww kk g1n_5 g2 g3 g4 g5) = tgP true (nrm v0 v1 v2 v3 hh v5 ww kk g1 g2 g3 g4 g5) := by
  exact pl_c hN hF_5_0 hF_5_1 hF_6_0
theorem lf_X4_bf_3_1_2 {hrs : Nat} {v0 : Int32} {v1 : Int32} {v2 : Int32} {v3 : Int32} {v5 : Int32} {hh : Nat} {ww : Nat} {kk : Nat} {g1 : Nat → Int32} {g2 : Nat → Int32} {g3 : Nat → Int32} {g4 : Nat → Int32} {g5 : Nat → Int32} {v3n_5 : Int32} {g1n_5 : Nat → Int32} {r_5 : Int32} {v3n_6 : Int32} {v3n_10 : Int32} {g1n_10 : Nat → Int32} {r_10 : Int32} {v3n_11 : Int32} {v_13 : Int32} (hr20 : hrs ≤ 20) (hhb : hh ≤ 999) (hww : ww ≤ 6) (hkk : kk ≤ 6) (hN : okN 999 (nrm v0 v1 v2 v3 hh v5 ww kk g1 g2 g3 g4 g5)) (hF_5_0 : v3n_5 = v3) (hF_5_1 : g1n_5 = g1) (h_5 : r_5 = (btV hrs 2 false (nrm v0 v1 v2 v3 hh v5 ww kk g1 g2 g3 g4 g5))) (hF_6_0 : v3n_6 = 1 - v3n_5) (hR_9 : (nrm v0 v1 v2 v3n_6 hh v5 ww kk g1n_5 g2 g3 g4 g5) = tgP true (nrm v0 v1 v2 v3 hh v5 ww kk g1 g2 g3 g4 g5)) (hF_10_0 : v3n_10 = v3n_6) (hF_10_1 : g1n_10 = g1n_5) (h_10 : r_10 = (btV hrs 2 false (nrm v0 v1 v2 v3n_6 hh v5 ww kk g1n_5 g2 g3 g4 g5))) (hF_11_0 : v3n_11 = 1 - v3n_10) (e_13 : v_13 = (if r_5 < r_10 then r_10 else r_5)) : v3n_11 = v3 := by
  first
  | exact pb_1 h_5 h_10 hR_9 e_13
  | exact pb_c hF_11_0 hF_10_0 hF_6_0 hF_5_0
  | exact hF_10_1.trans hF_5_1
theorem lf_X4_bf_3_1_3 {hrs : Nat} {v0 : Int32} {v1 : Int32} {v2 : Int32} {v3 : Int32} {v5 : Int32} {hh : Nat} {ww : Nat} {kk : Nat} {g1 : Nat → Int32} {g2 : Nat → Int32} {g3 : Nat → Int32} {g4 : Nat → Int32} {g5 : Nat → Int32} {v3n_5 : Int32} {g1n_5 : Nat → Int32} {r_5 : Int32} {v3n_6 : Int32} {v3n_10 : Int32} {g1n_10 : Nat → Int32} {r_10 : Int32} {v3n_11 : Int32} {v_13 : Int32} (hr20 : hrs ≤ 20) (hhb : hh ≤ 999) (hww : ww ≤ 6) (hkk : kk ≤ 6) (hN : okN 999 (nrm v0 v1 v2 v3 hh v5 ww kk g1 g2 g3 g4 g5)) (hF_5_0 : v3n_5 = v3) (hF_5_1 : g1n_5 = g1) (h_5 : r_5 = (btV hrs 2 false (nrm v0 v1 v2 v3 hh v5 ww kk g1 g2 g3 g4 g5))) (hF_6_0 : v3n_6 = 1 - v3n_5) (hR_9 : (nrm v0 v1 v2 v3n_6 hh v5 ww kk g1n_5 g2 g3 g4 g5) = tgP true (nrm v0 v1 v2 v3 hh v5 ww kk g1 g2 g3 g4 g5)) (hF_10_0 : v3n_10 = v3n_6) (hF_10_1 : g1n_10 = g1n_5) (h_10 : r_10 = (btV hrs 2 false (nrm v0 v1 v2 v3n_6 hh v5 ww kk g1n_5 g2 g3 g4 g5))) (hF_11_0 : v3n_11 = 1 - v3n_10) (e_13 : v_13 = (if r_5 < r_10 then r_10 else r_5)) : g1n_10 = g1 := by
  first
  | exact pb_1 h_5 h_10 hR_9 e_13
  | exact pb_c hF_11_0 hF_10_0 hF_6_0 hF_5_0
  | exact hF_10_1.trans hF_5_1
theorem lf_X4_bf_3_1_4 {hrs : Nat} {v0 : Int32} {v1 : Int32} {v2 : Int32} {v3 : Int32} {v5 : Int32} {hh : Nat} {ww : Nat} {kk : Nat} {g1 : Nat → Int32} {g2 : Nat → Int32} {g3 : Nat → Int32} {g4 : Nat → Int32} {g5 : Nat → Int32} {v3n_5 : Int32} {g1n_5 : Nat → Int32} {r_5 : Int32} {v3n_6 : Int32} {v3n_10 : Int32} {g1n_10 : Nat → Int32} {r_10 : Int32} {v3n_11 : Int32} {v_13 : Int32} (hr20 : hrs ≤ 20) (hhb : hh ≤ 999) (hww : ww ≤ 6) (hkk : kk ≤ 6) (hN : okN 999 (nrm v0 v1 v2 v3 hh v5 ww kk g1 g2 g3 g4 g5)) (hF_5_0 : v3n_5 = v3) (hF_5_1 : g1n_5 = g1) (h_5 : r_5 = (btV hrs 2 false (nrm v0 v1 v2 v3 hh v5 ww kk g1 g2 g3 g4 g5))) (hF_6_0 : v3n_6 = 1 - v3n_5) (hR_9 : (nrm v0 v1 v2 v3n_6 hh v5 ww kk g1n_5 g2 g3 g4 g5) = tgP true (nrm v0 v1 v2 v3 hh v5 ww kk g1 g2 g3 g4 g5)) (hF_10_0 : v3n_10 = v3n_6) (hF_10_1 : g1n_10 = g1n_5) (h_10 : r_10 = (btV hrs 2 false (nrm v0 v1 v2 v3n_6 hh v5 ww kk g1n_5 g2 g3 g4 g5))) (hF_11_0 : v3n_11 = 1 - v3n_10) (e_13 : v_13 = (if r_5 < r_10 then r_10 else r_5)) : v_13 = (btV hrs 3 true (nrm v0 v1 v2 v3 hh v5 ww kk g1 g2 g3 g4 g5)) := by
  first
  | exact pb_1 h_5 h_10 hR_9 e_13
  | exact pb_c hF_11_0 hF_10_0 hF_6_0 hF_5_0
  | exact hF_10_1.trans hF_5_1
set_option maxHeartbeats 4000000 in
set_option maxRecDepth 100000 in
theorem r_X4_bf_3_1 (l : Launch) (dC : Nat → ClassId) (dI : Nat → Nat → Nat) (cI cZ cL cJ : ClassId) (sz : Nat) (p0 : Nat) (hrs : Nat) (h : Nat) (v0 : Int32) (v1 : Int32) (v2 : Int32) (v3 : Int32) (v5 : Int32) (hh : Nat) (ww : Nat) (kk : Nat) (b1 : Nat) (b2 : Nat) (b3 : Nat) (b4 : Nat) (b5 : Nat) (g1 : Nat → Int32) (g2 : Nat → Int32) (g3 : Nat → Int32) (g4 : Nat → Int32) (g5 : Nat → Int32) (k0 : Nat) (u0 : Int32) (u1 : Int32) (u2 : Int32) (u3 : Int32) (u4 : Int32) (u5 : Int32) (u6 : Int32) (u7 : Int32) (o1 : Nat) (o2 : Nat) (o3 : Nat) (o4 : Nat) (o5 : Nat) (f1 : Nat → Int32) (f2 : Nat → Int32) (f3 : Nat → Int32) (f4 : Nat → Int32) (f5 : Nat → Int32) (hr20 : hrs ≤ 20) (hhb : hh ≤ 999) (hww : ww ≤ 6) (hkk : kk ≤ 6) (hN : okN 999 (nrm v0 v1 v2 v3 hh v5 ww kk g1 g2 g3 g4 g5)) : Met l yX4_bestFor wsX4_bestFor ({ frames := 8, cells := 0, slots := 0, locals := 182 }) (va_Pc [.ref p0, .int 1, .int 3] (fun U => U.heap.size = sz ∧ va_P (dC, dI) vwCl [(xo_4_rri p0 h k0 (nI hrs)), (xo_3_iiiiiiiirrrrr h v0 v1 v2 v3 (nI hh) v5 (nI ww) (nI kk) b1 b2 b3 b4 b5), (xI b1 cI 6 g1), (xI b2 cI 6 g2), (xI b3 cI 6 g3), (xI b4 cI 6 g4), (xI b5 cI 6 g5), (xo_3_iiiiiiiirrrrr k0 u0 u1 u2 u3 u4 u5 u6 u7 o1 o2 o3 o4 o5), (xI o1 cI 6 f1), (xI o2 cI 6 f2), (xI o3 cI 6 f3), (xI o4 cI 6 f4), (xI o5 cI 6 f5)] U.heap ∧ va_K (dC, dI) vwCl [(cI, .int), (cZ, .boolean), (cL, .object RX3), (cJ, .array .int)] U ∧ va_D (fun _ => True) [(xo_4_rri p0 h k0 (nI hrs)), (xo_3_iiiiiiiirrrrr h v0 v1 v2 v3 (nI hh) v5 (nI ww) (nI kk) b1 b2 b3 b4 b5), (xI b1 cI 6 g1), (xI b2 cI 6 g2), (xI b3 cI 6 g3), (xI b4 cI 6 g4), (xI b5 cI 6 g5), (xo_3_iiiiiiiirrrrr k0 u0 u1 u2 u3 u4 u5 u6 u7 o1 o2 o3 o4 o5), (xI o1 cI 6 f1), (xI o2 cI 6 f2), (xI o3 cI 6 f3), (xI o4 cI 6 f4), (xI o5 cI 6 f5)])) (va_Qi (fun r (_ : Unit) => r = (btV hrs 3 true (nrm v0 v1 v2 v3 hh v5 ww kk g1 g2 g3 g4 g5))) (fun (_ : Unit) t => ∃ (v3n : Int32) (u0n : Int32) (u1n : Int32) (u2n : Int32) (u3n : Int32) (u4n : Int32) (u5n : Int32) (u6n : Int32) (u7n : Int32) (g1n : Nat → Int32) (f1n : Nat → Int32) (f2n : Nat → Int32) (f3n : Nat → Int32) (f4n : Nat → Int32) (f5n : Nat → Int32), va_P (dC, dI) vwCl [(xo_4_rri p0 h k0 (nI hrs)), (xo_3_iiiiiiiirrrrr h v0 v1 v2 v3n (nI hh) v5 (nI ww) (nI kk) b1 b2 b3 b4 b5), (xI b1 cI 6 g1n), (xI b2 cI 6 g2), (xI b3 cI 6 g3), (xI b4 cI 6 g4), (xI b5 cI 6 g5), (xo_3_iiiiiiiirrrrr k0 u0n u1n u2n u3n u4n u5n u6n u7n o1 o2 o3 o4 o5), (xI o1 cI 6 f1n), (xI o2 cI 6 f2n), (xI o3 cI 6 f3n), (xI o4 cI 6 f4n), (xI o5 cI 6 f5n)] t.heap ∧ va_D (va_A [(xo_4_rri p0 h k0 (nI hrs)), (xo_3_iiiiiiiirrrrr h v0 v1 v2 v3 (nI hh) v5 (nI ww) (nI kk) b1 b2 b3 b4 b5), (xI b1 cI 6 g1), (xI b2 cI 6 g2), (xI b3 cI 6 g3), (xI b4 cI 6 g4), (xI b5 cI 6 g5), (xo_3_iiiiiiiirrrrr k0 u0 u1 u2 u3 u4 u5 u6 u7 o1 o2 o3 o4 o5), (xI o1 cI 6 f1), (xI o2 cI 6 f2), (xI o3 cI 6 f3), (xI o4 cI 6 f4), (xI o5 cI 6 f5)] sz) [(xo_4_rri p0 h k0 (nI hrs)), (xo_3_iiiiiiiirrrrr h v0 v1 v2 v3n (nI hh) v5 (nI ww) (nI kk) b1 b2 b3 b4 b5), (xI b1 cI 6 g1n), (xI b2 cI 6 g2), (xI b3 cI 6 g3), (xI b4 cI 6 g4), (xI b5 cI 6 g5), (xo_3_iiiiiiiirrrrr k0 u0n u1n u2n u3n u4n u5n u6n u7n o1 o2 o3 o4 o5), (xI o1 cI 6 f1n), (xI o2 cI 6 f2n), (xI o3 cI 6 f3n), (xI o4 cI 6 f4n), (xI o5 cI 6 f5n)] ∧ v3n = v3 ∧ g1n = g1) (va_A [(xo_4_rri p0 h k0 (nI hrs)), (xo_3_iiiiiiiirrrrr h v0 v1 v2 v3 (nI hh) v5 (nI ww) (nI kk) b1 b2 b3 b4 b5), (xI b1 cI 6 g1), (xI b2 cI 6 g2), (xI b3 cI 6 g3), (xI b4 cI 6 g4), (xI b5 cI 6 g5), (xo_3_iiiiiiiirrrrr k0 u0 u1 u2 u3 u4 u5 u6 u7 o1 o2 o3 o4 o5), (xI o1 cI 6 f1), (xI o2 cI 6 f2), (xI o3 cI 6 f3), (xI o4 cI 6 f4), (xI o5 cI 6 f5)] sz)) 0 0 (va_A [(xo_4_rri p0 h k0 (nI hrs)), (xo_3_iiiiiiiirrrrr h v0 v1 v2 v3 (nI hh) v5 (nI ww) (nI kk) b1 b2 b3 b4 b5), (xI b1 cI 6 g1), (xI b2 cI 6 g2), (xI b3 cI 6 g3), (xI b4 cI 6 g4), (xI b5 cI 6 g5), (xo_3_iiiiiiiirrrrr k0 u0 u1 u2 u3 u4 u5 u6 u7 o1 o2 o3 o4 o5), (xI o1 cI 6 f1), (xI o2 cI 6 f2), (xI o3 cI 6 f3), (xI o4 cI 6 f4), (xI o5 cI 6 f5)] sz) := by
  refine Met.ofW (cc := cX4_bestFor) (maxL := 5) (ret := (some .int)) (by decide) rfl ?_
  intro p e s m args below meth c s₁ B hml hv
  obtain ⟨rfl, hsz, hP, hK, hD0⟩ := hv
  have hx := B.exec
  have hb := B.bytes
  have hr := B.returns
  have hts := atoms_spec (ws := wsX4_bestFor) B.pre
  have hown : s.vm.findClass RX4 = some m.cls := findClass_of_methodNamed B.named
  have hlocks := B.notSynchronized
  subst hsz
  have hD := hD0.self (sz := s.heap.size)
  generalize hAe : va_A [(xo_4_rri p0 h k0 (nI hrs)), (xo_3_iiiiiiiirrrrr h v0 v1 v2 v3 (nI hh) v5 (nI ww) (nI kk) b1 b2 b3 b4 b5), (xI b1 cI 6 g1), (xI b2 cI 6 g2), (xI b3 cI 6 g3), (xI b4 cI 6 g4), (xI b5 cI 6 g5), (xo_3_iiiiiiiirrrrr k0 u0 u1 u2 u3 u4 u5 u6 u7 o1 o2 o3 o4 o5), (xI o1 cI 6 f1), (xI o2 cI 6 f2), (xI o3 cI 6 f3), (xI o4 cI 6 f4), (xI o5 cI 6 f5)] s.heap.size = A at hD ⊢
  have hA : ∀ q : Nat, s.heap.size ≤ q → A q := fun q h => by rw [← hAe]; exact Or.inr h
  have hS : va_S A s.heap s.heap [] := va_S.rf
  have hP : va_P (dC, dI) vwCl [(xo_4_rri p0 h k0 (nI hrs)), (xo_3_iiiiiiiirrrrr h v0 v1 v2 v3 (nI hh) v5 (nI ww) (nI kk) b1 b2 b3 b4 b5), (xI b1 cI 6 g1), (xI b2 cI 6 g2), (xI b3 cI 6 g3), (xI b4 cI 6 g4), (xI b5 cI 6 g5), (xo_3_iiiiiiiirrrrr k0 u0 u1 u2 u3 u4 u5 u6 u7 o1 o2 o3 o4 o5), (xI o1 cI 6 f1), (xI o2 cI 6 f2), (xI o3 cI 6 f3), (xI o4 cI 6 f4), (xI o5 cI 6 f5)] s.heap := hP
  have hl := lv_entry ([.ref p0, .int 1, .int 3]) (n := 5) (Nat.le_of_ble_eq_true rfl)
  rw [lg_entry_eq]
  generalize (lg_sl ([.ref p0, .int 1, .int 3]) ++ List.replicate (5 - (lg_sl ([.ref p0, .int 1, .int 3])).length) Slot.unset).toArray = ls at hl ⊢
  have hl : lv_has ls 5 [(0, .ref p0), (1, .int 1), (2, .int 3)] := hl
  refine lv_iload_n hx hb dX4_bestFor_0 rfl (lv_at hl 2 rfl) ?_
  refine lv_if_gt (tgt := 27) hx hb dX4_bestFor_1 (by decide) (fun _ => ?_) (fun c_ => absurd (by decide) c_)
  refine lv_aload_n hx hb dX4_bestFor_27 rfl (lv_at hl 0 rfl) ?_
  refine lv_iload_n hx hb dX4_bestFor_28 rfl (lv_at hl 1 rfl) ?_
  refine lv_if_ne (tgt := 36) hx hb dX4_bestFor_29 (by decide) (fun _ => ?_) (fun c_ => absurd c_ (by decide))
  refine lv_iconst (v := 0) hx hb dX4_bestFor_36 (by decide) ?_
  refine lv_iload_n hx hb dX4_bestFor_37 rfl (lv_at hl 2 rfl) ?_
  refine lv_iconst (v := 1) hx hb dX4_bestFor_38 (by decide) ?_
  refine lv_isub hx hb dX4_bestFor_39 ?_
  refine lv_topi (fun v_3 e_3 => ?_)
  obtain rfl : v_3 = 2 := (e_3).trans (by decide)
  have hc_5 := cutW (wc := [(xo_4_rri p0 h k0 (nI hrs)), (xo_3_iiiiiiiirrrrr h v0 v1 v2 v3 (nI hh) v5 (nI ww) (nI kk) b1 b2 b3 b4 b5), (xI b1 cI 6 g1), (xI b2 cI 6 g2), (xI b3 cI 6 g3), (xI b4 cI 6 g4), (xI b5 cI 6 g5), (xo_3_iiiiiiiirrrrr k0 u0 u1 u2 u3 u4 u5 u6 u7 o1 o2 o3 o4 o5), (xI o1 cI 6 f1), (xI o2 cI 6 f2), (xI o3 cI 6 f3), (xI o4 cI 6 f4), (xI o5 cI 6 f5)]) hP hD hS hA [0, 1, 2, 3, 4, 5, 6, 7, 8, 9, 10, 11, 12] (by decide +kernel) rfl
  refine va_calli (va_runV (As := [.int 0, .int 2]) (rest := []) ⟨hx, hb, hml, hown, hts⟩ (r_X4_bf_2_0 l dC dI cI cZ cL cJ s.heap.size p0 hrs h v0 v1 v2 v3 v5 hh ww kk b1 b2 b3 b4 b5 g1 g2 g3 g4 g5 k0 u0 u1 u2 u3 u4 u5 u6 u7 o1 o2 o3 o4 o5 f1 f2 f3 f4 f5 (hr20) (hhb) (hww) (hkk) (hN)) (cwV 2 hts gX4_bestFor_X4_bestFor rfl rfl rfl (by decide +kernel) ⟨Nat.le_of_ble_eq_true rfl, Nat.le_of_ble_eq_true rfl⟩) (pvW 4 0 hK hP rfl rfl hc_5) rfl rfl hl.1 rfl (lv_room (Nat.le_of_ble_eq_true rfl)) dX4_bestFor_40 ⟨Nat.le_of_ble_eq_true rfl, Nat.le_of_ble_eq_true rfl⟩) hS (fun q _ h => hc_5.2.2 q h) hc_5.2.2 (fun r_5 u_5 t_5 H1 locs ht hvm h_5 hB hz1 hk1 hS => ?_)
  refine xl_15_4 hB (fun v3n_5 u0n_5 u1n_5 u2n_5 u3n_5 u4n_5 u5n_5 u6n_5 u7n_5 g1n_5 f1n_5 f2n_5 f3n_5 f4n_5 f5n_5 hP1 hD1 hF_5_0 hF_5_1 => ?_)
  clear hB
  rw [ht] at hP1
  obtain ⟨hP, hD⟩ := va_join (wr := []) (w1 := [(xo_4_rri p0 h k0 (nI hrs)), (xo_3_iiiiiiiirrrrr h v0 v1 v2 v3n_5 (nI hh) v5 (nI ww) (nI kk) b1 b2 b3 b4 b5), (xI b1 cI 6 g1n_5), (xI b2 cI 6 g2), (xI b3 cI 6 g3), (xI b4 cI 6 g4), (xI b5 cI 6 g5), (xo_3_iiiiiiiirrrrr k0 u0n_5 u1n_5 u2n_5 u3n_5 u4n_5 u5n_5 u6n_5 u7n_5 o1 o2 o3 o4 o5), (xI o1 cI 6 f1n_5), (xI o2 cI 6 f2n_5), (xI o3 cI 6 f3n_5), (xI o4 cI 6 f4n_5), (xI o5 cI 6 f5n_5)]) hP hD [0, 1, 2, 3, 4, 5, 6, 7, 8, 9, 10, 11, 12] [] rfl rfl (by decide +kernel) (by decide +kernel) hk1 hc_5.2.2 hP1 hD1
  generalize H1 = H at hP hS ⊢
  have hP : va_P (dC, dI) vwCl [(xo_4_rri p0 h k0 (nI hrs)), (xo_3_iiiiiiiirrrrr h v0 v1 v2 v3n_5 (nI hh) v5 (nI ww) (nI kk) b1 b2 b3 b4 b5), (xI b1 cI 6 g1n_5), (xI b2 cI 6 g2), (xI b3 cI 6 g3), (xI b4 cI 6 g4), (xI b5 cI 6 g5), (xo_3_iiiiiiiirrrrr k0 u0n_5 u1n_5 u2n_5 u3n_5 u4n_5 u5n_5 u6n_5 u7n_5 o1 o2 o3 o4 o5), (xI o1 cI 6 f1n_5), (xI o2 cI 6 f2n_5), (xI o3 cI 6 f3n_5), (xI o4 cI 6 f4n_5), (xI o5 cI 6 f5n_5)] H := hP
  have hD := dto hP hD
  refine lv_istore_n (lv' := [(3, .int r_5), (0, .ref p0), (1, .int 1), (2, .int 3)]) hx hb dX4_bestFor_43 rfl hl (by decide) rfl (fun ls hl => ?_)
  refine lv_aload_n hx hb dX4_bestFor_44 rfl (lv_at hl 1 rfl) ?_
  refine lv_iload_n hx hb dX4_bestFor_45 rfl (lv_at hl 2 rfl) ?_
  have hc_6 := cutW (wc := [(xo_4_rri p0 h k0 (nI hrs)), (xo_3_iiiiiiiirrrrr h v0 v1 v2 v3n_5 (nI hh) v5 (nI ww) (nI kk) b1 b2 b3 b4 b5), (xI b1 cI 6 g1n_5), (xI b2 cI 6 g2), (xI b3 cI 6 g3), (xI b4 cI 6 g4), (xI b5 cI 6 g5)]) hP hD hS hA [0, 1, 2, 3, 4, 5, 6] (by decide +kernel) rfl
  refine va_callv (va_runV (As := [.int 1]) (rest := []) ⟨hx, hb, hml, hown, hts⟩ (r_X4_tn_1 l dC dI cI cZ cL cJ H.size p0 hrs h v0 v1 v2 v3n_5 v5 hh ww kk b1 b2 b3 b4 b5 g1n_5 g2 g3 g4 g5 k0 (hr20) (hhb) (hww) (hkk)) (cwV 1 hts gX4_bestFor_X4_turn rfl rfl rfl (by decide +kernel) ⟨Nat.le_of_ble_eq_true rfl, Nat.le_of_ble_eq_true rfl⟩) (pvW 4 0 hK hP rfl rfl hc_6) rfl rfl hl.1 rfl (lv_room (Nat.le_of_ble_eq_true rfl)) dX4_bestFor_46 ⟨Nat.le_of_ble_eq_true rfl, Nat.le_of_ble_eq_true rfl⟩) hS (fun q _ h => hc_6.2.2 q h) hc_6.2.2 (fun u_6 t_6 H1 locs ht hvm h_6 hB hz1 hk1 hS => ?_)
  refine xl_1_3 hB (fun v3n_6 hP1 hD1 hF_6_0 => ?_)
  clear hB
  rw [ht] at hP1
  obtain ⟨hP, hD⟩ := va_join (wr := [(xo_3_iiiiiiiirrrrr k0 u0n_5 u1n_5 u2n_5 u3n_5 u4n_5 u5n_5 u6n_5 u7n_5 o1 o2 o3 o4 o5), (xI o1 cI 6 f1n_5), (xI o2 cI 6 f2n_5), (xI o3 cI 6 f3n_5), (xI o4 cI 6 f4n_5), (xI o5 cI 6 f5n_5)]) (w1 := [(xo_4_rri p0 h k0 (nI hrs)), (xo_3_iiiiiiiirrrrr h v0 v1 v2 v3n_6 (nI hh) v5 (nI ww) (nI kk) b1 b2 b3 b4 b5), (xI b1 cI 6 g1n_5), (xI b2 cI 6 g2), (xI b3 cI 6 g3), (xI b4 cI 6 g4), (xI b5 cI 6 g5)]) hP hD [0, 1, 2, 3, 4, 5, 6] [7, 8, 9, 10, 11, 12] rfl rfl (by decide +kernel) (by decide +kernel) hk1 hc_6.2.2 hP1 hD1
  generalize H1 = H at hP hS ⊢
  have hP : va_P (dC, dI) vwCl [(xo_3_iiiiiiiirrrrr k0 u0n_5 u1n_5 u2n_5 u3n_5 u4n_5 u5n_5 u6n_5 u7n_5 o1 o2 o3 o4 o5), (xI o1 cI 6 f1n_5), (xI o2 cI 6 f2n_5), (xI o3 cI 6 f3n_5), (xI o4 cI 6 f4n_5), (xI o5 cI 6 f5n_5), (xo_4_rri p0 h k0 (nI hrs)), (xo_3_iiiiiiiirrrrr h v0 v1 v2 v3n_6 (nI hh) v5 (nI ww) (nI kk) b1 b2 b3 b4 b5), (xI b1 cI 6 g1n_5), (xI b2 cI 6 g2), (xI b3 cI 6 g3), (xI b4 cI 6 g4), (xI b5 cI 6 g5)] H := hP
  have hD := dto hP hD
  refine lv_aload_n hx hb dX4_bestFor_49 rfl (lv_at hl 1 rfl) ?_
  refine lv_iload_n hx hb dX4_bestFor_50 rfl (lv_at hl 2 rfl) ?_
  refine lv_if_ne (tgt := 58) hx hb dX4_bestFor_51 (by decide) (fun _ => ?_) (fun c_ => absurd c_ (by decide))
  refine lv_iconst (v := 0) hx hb dX4_bestFor_58 (by decide) ?_
  refine lv_iload_n hx hb dX4_bestFor_59 rfl (lv_at hl 3 rfl) ?_
  refine lv_iconst (v := 1) hx hb dX4_bestFor_60 (by decide) ?_
  refine lv_isub hx hb dX4_bestFor_61 ?_
  refine lv_topi (fun v_8 e_8 => ?_)
  obtain rfl : v_8 = 2 := (e_8).trans (by decide)
  have hR_9 : (nrm v0 v1 v2 v3n_6 hh v5 ww kk g1n_5 g2 g3 g4 g5) = tgP true (nrm v0 v1 v2 v3 hh v5 ww kk g1 g2 g3 g4 g5) := (lf_X4_bf_3_1_1 hr20 hhb hww hkk hN hF_5_0 hF_5_1 h_5 hF_6_0)
  have hRN_9 : okN 999 (nrm v0 v1 v2 v3n_6 hh v5 ww kk g1n_5 g2 g3 g4 g5) := by rw [hR_9]; exact tgP_ok _ hN
  have hc_10 := cutW (wc := [(xo_4_rri p0 h k0 (nI hrs)), (xo_3_iiiiiiiirrrrr h v0 v1 v2 v3n_6 (nI hh) v5 (nI ww) (nI kk) b1 b2 b3 b4 b5), (xI b1 cI 6 g1n_5), (xI b2 cI 6 g2), (xI b3 cI 6 g3), (xI b4 cI 6 g4), (xI b5 cI 6 g5), (xo_3_iiiiiiiirrrrr k0 u0n_5 u1n_5 u2n_5 u3n_5 u4n_5 u5n_5 u6n_5 u7n_5 o1 o2 o3 o4 o5), (xI o1 cI 6 f1n_5), (xI o2 cI 6 f2n_5), (xI o3 cI 6 f3n_5), (xI o4 cI 6 f4n_5), (xI o5 cI 6 f5n_5)]) hP hD hS hA [6, 7, 8, 9, 10, 11, 12, 0, 1, 2, 3, 4, 5] (by decide +kernel) rfl
  refine va_calli (va_runV (As := [.int 0, .int 2]) (rest := []) ⟨hx, hb, hml, hown, hts⟩ (r_X4_bf_2_0 l dC dI cI cZ cL cJ H.size p0 hrs h v0 v1 v2 v3n_6 v5 hh ww kk b1 b2 b3 b4 b5 g1n_5 g2 g3 g4 g5 k0 u0n_5 u1n_5 u2n_5 u3n_5 u4n_5 u5n_5 u6n_5 u7n_5 o1 o2 o3 o4 o5 f1n_5 f2n_5 f3n_5 f4n_5 f5n_5 (hr20) (hhb) (hww) (hkk) (hRN_9)) (cwV 2 hts gX4_bestFor_X4_bestFor rfl rfl rfl (by decide +kernel) ⟨Nat.le_of_ble_eq_true rfl, Nat.le_of_ble_eq_true rfl⟩) (pvW 4 6 hK hP rfl rfl hc_10) rfl rfl hl.1 rfl (lv_room (Nat.le_of_ble_eq_true rfl)) dX4_bestFor_62 ⟨Nat.le_of_ble_eq_true rfl, Nat.le_of_ble_eq_true rfl⟩) hS (fun q _ h => hc_10.2.2 q h) hc_10.2.2 (fun r_10 u_10 t_10 H1 locs ht hvm h_10 hB hz1 hk1 hS => ?_)
  refine xl_15_4 hB (fun v3n_10 u0n_10 u1n_10 u2n_10 u3n_10 u4n_10 u5n_10 u6n_10 u7n_10 g1n_10 f1n_10 f2n_10 f3n_10 f4n_10 f5n_10 hP1 hD1 hF_10_0 hF_10_1 => ?_)
  clear hB
  rw [ht] at hP1
  obtain ⟨hP, hD⟩ := va_join (wr := []) (w1 := [(xo_4_rri p0 h k0 (nI hrs)), (xo_3_iiiiiiiirrrrr h v0 v1 v2 v3n_10 (nI hh) v5 (nI ww) (nI kk) b1 b2 b3 b4 b5), (xI b1 cI 6 g1n_10), (xI b2 cI 6 g2), (xI b3 cI 6 g3), (xI b4 cI 6 g4), (xI b5 cI 6 g5), (xo_3_iiiiiiiirrrrr k0 u0n_10 u1n_10 u2n_10 u3n_10 u4n_10 u5n_10 u6n_10 u7n_10 o1 o2 o3 o4 o5), (xI o1 cI 6 f1n_10), (xI o2 cI 6 f2n_10), (xI o3 cI 6 f3n_10), (xI o4 cI 6 f4n_10), (xI o5 cI 6 f5n_10)]) hP hD [6, 7, 8, 9, 10, 11, 12, 0, 1, 2, 3, 4, 5] [] rfl rfl (by decide +kernel) (by decide +kernel) hk1 hc_10.2.2 hP1 hD1
  generalize H1 = H at hP hS ⊢
  have hP : va_P (dC, dI) vwCl [(xo_4_rri p0 h k0 (nI hrs)), (xo_3_iiiiiiiirrrrr h v0 v1 v2 v3n_10 (nI hh) v5 (nI ww) (nI kk) b1 b2 b3 b4 b5), (xI b1 cI 6 g1n_10), (xI b2 cI 6 g2), (xI b3 cI 6 g3), (xI b4 cI 6 g4), (xI b5 cI 6 g5), (xo_3_iiiiiiiirrrrr k0 u0n_10 u1n_10 u2n_10 u3n_10 u4n_10 u5n_10 u6n_10 u7n_10 o1 o2 o3 o4 o5), (xI o1 cI 6 f1n_10), (xI o2 cI 6 f2n_10), (xI o3 cI 6 f3n_10), (xI o4 cI 6 f4n_10), (xI o5 cI 6 f5n_10)] H := hP
  have hD := dto hP hD
  refine lv_istore (lv' := [(4, .int r_10), (3, .int r_5), (0, .ref p0), (1, .int 1), (2, .int 3)]) hx hb dX4_bestFor_65 hl (by decide) rfl (fun ls hl => ?_)
  refine lv_aload_n hx hb dX4_bestFor_67 rfl (lv_at hl 2 rfl) ?_
  refine lv_iload_n hx hb dX4_bestFor_68 rfl (lv_at hl 3 rfl) ?_
  have hc_11 := cutW (wc := [(xo_4_rri p0 h k0 (nI hrs)), (xo_3_iiiiiiiirrrrr h v0 v1 v2 v3n_10 (nI hh) v5 (nI ww) (nI kk) b1 b2 b3 b4 b5), (xI b1 cI 6 g1n_10), (xI b2 cI 6 g2), (xI b3 cI 6 g3), (xI b4 cI 6 g4), (xI b5 cI 6 g5)]) hP hD hS hA [0, 1, 2, 3, 4, 5, 6] (by decide +kernel) rfl
  refine va_callv (va_runV (As := [.int 1]) (rest := []) ⟨hx, hb, hml, hown, hts⟩ (r_X4_tn_1 l dC dI cI cZ cL cJ H.size p0 hrs h v0 v1 v2 v3n_10 v5 hh ww kk b1 b2 b3 b4 b5 g1n_10 g2 g3 g4 g5 k0 (hr20) (hhb) (hww) (hkk)) (cwV 1 hts gX4_bestFor_X4_turn rfl rfl rfl (by decide +kernel) ⟨Nat.le_of_ble_eq_true rfl, Nat.le_of_ble_eq_true rfl⟩) (pvW 4 0 hK hP rfl rfl hc_11) rfl rfl hl.1 rfl (lv_room (Nat.le_of_ble_eq_true rfl)) dX4_bestFor_69 ⟨Nat.le_of_ble_eq_true rfl, Nat.le_of_ble_eq_true rfl⟩) hS (fun q _ h => hc_11.2.2 q h) hc_11.2.2 (fun u_11 t_11 H1 locs ht hvm h_11 hB hz1 hk1 hS => ?_)
  refine xl_1_3 hB (fun v3n_11 hP1 hD1 hF_11_0 => ?_)
  clear hB
  rw [ht] at hP1
  obtain ⟨hP, hD⟩ := va_join (wr := [(xo_3_iiiiiiiirrrrr k0 u0n_10 u1n_10 u2n_10 u3n_10 u4n_10 u5n_10 u6n_10 u7n_10 o1 o2 o3 o4 o5), (xI o1 cI 6 f1n_10), (xI o2 cI 6 f2n_10), (xI o3 cI 6 f3n_10), (xI o4 cI 6 f4n_10), (xI o5 cI 6 f5n_10)]) (w1 := [(xo_4_rri p0 h k0 (nI hrs)), (xo_3_iiiiiiiirrrrr h v0 v1 v2 v3n_11 (nI hh) v5 (nI ww) (nI kk) b1 b2 b3 b4 b5), (xI b1 cI 6 g1n_10), (xI b2 cI 6 g2), (xI b3 cI 6 g3), (xI b4 cI 6 g4), (xI b5 cI 6 g5)]) hP hD [0, 1, 2, 3, 4, 5, 6] [7, 8, 9, 10, 11, 12] rfl rfl (by decide +kernel) (by decide +kernel) hk1 hc_11.2.2 hP1 hD1
  generalize H1 = H at hP hS ⊢
  have hP : va_P (dC, dI) vwCl [(xo_3_iiiiiiiirrrrr k0 u0n_10 u1n_10 u2n_10 u3n_10 u4n_10 u5n_10 u6n_10 u7n_10 o1 o2 o3 o4 o5), (xI o1 cI 6 f1n_10), (xI o2 cI 6 f2n_10), (xI o3 cI 6 f3n_10), (xI o4 cI 6 f4n_10), (xI o5 cI 6 f5n_10), (xo_4_rri p0 h k0 (nI hrs)), (xo_3_iiiiiiiirrrrr h v0 v1 v2 v3n_11 (nI hh) v5 (nI ww) (nI kk) b1 b2 b3 b4 b5), (xI b1 cI 6 g1n_10), (xI b2 cI 6 g2), (xI b3 cI 6 g3), (xI b4 cI 6 g4), (xI b5 cI 6 g5)] H := hP
  have hD := dto hP hD
  refine lv_iload_n hx hb dX4_bestFor_72 rfl (lv_at hl 3 rfl) ?_
  refine lv_if_eq (tgt := 85) hx hb dX4_bestFor_73 (by decide) (fun c_ => absurd c_ (by decide)) (fun _ => ?_)
  refine lv_iload_n hx hb dX4_bestFor_76 rfl (lv_at hl 1 rfl) ?_
  refine lv_iload hx hb dX4_bestFor_77 (lv_at hl 0 rfl) ?_
  refine va_mmax hx hb (by rw [hml]; exact hl.1.symm) hown (hts _ mx_X4_bestFor_4) (hts _ mx_X4_bestFor_5) (hts _ mx_X4_bestFor_6) (hts _ mx_X4_bestFor_7) (Nat.le_of_ble_eq_true rfl) (Nat.le_of_ble_eq_true rfl) (Nat.zero_le _) (Nat.zero_le _) dX4_bestFor_79 ?_
  refine lv_topi (fun v_13 e_13 => ?_)
  refine lv_goto (tgt := 91) hx hb dX4_bestFor_82 (by decide) ?_
  have hX9 := cut2 (wc := [(xo_4_rri p0 h k0 (nI hrs)), (xo_3_iiiiiiiirrrrr h v0 v1 v2 v3n_11 (nI hh) v5 (nI ww) (nI kk) b1 b2 b3 b4 b5), (xI b1 cI 6 g1n_10), (xI b2 cI 6 g2), (xI b3 cI 6 g3), (xI b4 cI 6 g4), (xI b5 cI 6 g5), (xo_3_iiiiiiiirrrrr k0 u0n_10 u1n_10 u2n_10 u3n_10 u4n_10 u5n_10 u6n_10 u7n_10 o1 o2 o3 o4 o5), (xI o1 cI 6 f1n_10), (xI o2 cI 6 f2n_10), (xI o3 cI 6 f3n_10), (xI o4 cI 6 f4n_10), (xI o5 cI 6 f5n_10)]) hP hD [6, 7, 8, 9, 10, 11, 12, 0, 1, 2, 3, 4, 5] (by decide +kernel) rfl
  exact W.iret (v := v_13) hx hb hr (fun t ht hW => ⟨⟨v_13, (), rfl, (lf_X4_bf_3_1_4 hr20 hhb hww hkk hN hF_5_0 hF_5_1 h_5 hF_6_0 hR_9 hF_10_0 hF_10_1 h_10 hF_11_0 e_13), ⟨v3n_11, u0n_10, u1n_10, u2n_10, u3n_10, u4n_10, u5n_10, u6n_10, u7n_10, g1n_10, f1n_10, f2n_10, f3n_10, f4n_10, f5n_10, va_Ht ht hX9.1, hX9.2, (lf_X4_bf_3_1_2 hr20 hhb hww hkk hN hF_5_0 hF_5_1 h_5 hF_6_0 hR_9 hF_10_0 hF_10_1 h_10 hF_11_0 e_13), (lf_X4_bf_3_1_3 hr20 hhb hww hkk hN hF_5_0 hF_5_1 h_5 hF_6_0 hR_9 hF_10_0 hF_10_1 h_10 hF_11_0 e_13)⟩⟩, hS.F ht⟩) hS.2.2 dX4_bestFor_91
theorem lf_X4_bf_4_1_1 {hrs : Nat} {v0 : Int32} {v1 : Int32} {v2 : Int32} {v3 : Int32} {v5 : Int32} {hh : Nat} {ww : Nat} {kk : Nat} {g1 : Nat → Int32} {g2 : Nat → Int32} {g3 : Nat → Int32} {g4 : Nat → Int32} {g5 : Nat → Int32} {v3n_5 : Int32} {g1n_5 : Nat → Int32} {r_5 : Int32} {v3n_6 : Int32} (hr20 : hrs ≤ 20) (hhb : hh ≤ 999) (hww : ww ≤ 6) (hkk : kk ≤ 6) (hN : okN 999 (nrm v0 v1 v2 v3 hh v5 ww kk g1 g2 g3 g4 g5)) (hF_5_0 : v3n_5 = v3) (hF_5_1 : g1n_5 = g1) (h_5 : r_5 = (btV hrs 3 false (nrm v0 v1 v2 v3 hh v5 ww kk g1 g2 g3 g4 g5))) (hF_6_0 : v3n_6 = 1 - v3n_5) : (nrm v0 v1 v2 v3n_6 hh v5 ww kk g1n_5 g2 g3 g4 g5) = tgP true (nrm v0 v1 v2 v3 hh v5 ww kk g1 g2 g3 g4 g5) := by
  exact pl_c hN hF_5_0 hF_5_1 hF_6_0
theorem lf_X4_bf_4_1_2 {hrs : Nat} {v0 : Int32} {v1 : Int32} {v2 : Int32} {v3 : Int32} {v5 : Int32} {hh : Nat} {ww : Nat} {kk : Nat} {g1 : Nat → Int32} {g2 : Nat → Int32} {g3 : Nat → Int32} {g4 : Nat → Int32} {g5 : Nat → Int32} {v3n_5 : Int32} {g1n_5 : Nat → Int32} {r_5 : Int32} {v3n_6 : Int32} {v3n_10 : Int32} {g1n_10 : Nat → Int32} {r_10 : Int32} {v3n_11 : Int32} {v_13 : Int32} (hr20 : hrs ≤ 20) (hhb : hh ≤ 999) (hww : ww ≤ 6) (hkk : kk ≤ 6) (hN : okN 999 (nrm v0 v1 v2 v3 hh v5 ww kk g1 g2 g3 g4 g5)) (hF_5_0 : v3n_5 = v3) (hF_5_1 : g1n_5 = g1) (h_5 : r_5 = (btV hrs 3 false (nrm v0 v1 v2 v3 hh v5 ww kk g1 g2 g3 g4 g5))) (hF_6_0 : v3n_6 = 1 - v3n_5) (hR_9 : (nrm v0 v1 v2 v3n_6 hh v5 ww kk g1n_5 g2 g3 g4 g5) = tgP true (nrm v0 v1 v2 v3 hh v5 ww kk g1 g2 g3 g4 g5)) (hF_10_0 : v3n_10 = v3n_6) (hF_10_1 : g1n_10 = g1n_5) (h_10 : r_10 = (btV hrs 3 false (nrm v0 v1 v2 v3n_6 hh v5 ww kk g1n_5 g2 g3 g4 g5))) (hF_11_0 : v3n_11 = 1 - v3n_10) (e_13 : v_13 = (if r_5 < r_10 then r_10 else r_5)) : v3n_11 = v3 := by
  first
  | exact pb_1 h_5 h_10 hR_9 e_13
  | exact pb_c hF_11_0 hF_10_0 hF_6_0 hF_5_0
  | exact hF_10_1.trans hF_5_1
theorem lf_X4_bf_4_1_3 {hrs : Nat} {v0 : Int32} {v1 : Int32} {v2 : Int32} {v3 : Int32} {v5 : Int32} {hh : Nat} {ww : Nat} {kk : Nat} {g1 : Nat → Int32} {g2 : Nat → Int32} {g3 : Nat → Int32} {g4 : Nat → Int32} {g5 : Nat → Int32} {v3n_5 : Int32} {g1n_5 : Nat → Int32} {r_5 : Int32} {v3n_6 : Int32} {v3n_10 : Int32} {g1n_10 : Nat → Int32} {r_10 : Int32} {v3n_11 : Int32} {v_13 : Int32} (hr20 : hrs ≤ 20) (hhb : hh ≤ 999) (hww : ww ≤ 6) (hkk : kk ≤ 6) (hN : okN 999 (nrm v0 v1 v2 v3 hh v5 ww kk g1 g2 g3 g4 g5)) (hF_5_0 : v3n_5 = v3) (hF_5_1 : g1n_5 = g1) (h_5 : r_5 = (btV hrs 3 false (nrm v0 v1 v2 v3 hh v5 ww kk g1 g2 g3 g4 g5))) (hF_6_0 : v3n_6 = 1 - v3n_5) (hR_9 : (nrm v0 v1 v2 v3n_6 hh v5 ww kk g1n_5 g2 g3 g4 g5) = tgP true (nrm v0 v1 v2 v3 hh v5 ww kk g1 g2 g3 g4 g5)) (hF_10_0 : v3n_10 = v3n_6) (hF_10_1 : g1n_10 = g1n_5) (h_10 : r_10 = (btV hrs 3 false (nrm v0 v1 v2 v3n_6 hh v5 ww kk g1n_5 g2 g3 g4 g5))) (hF_11_0 : v3n_11 = 1 - v3n_10) (e_13 : v_13 = (if r_5 < r_10 then r_10 else r_5)) : g1n_10 = g1 := by
  first
  | exact pb_1 h_5 h_10 hR_9 e_13
  | exact pb_c hF_11_0 hF_10_0 hF_6_0 hF_5_0
  | exact hF_10_1.trans hF_5_1
theorem lf_X4_bf_4_1_4 {hrs : Nat} {v0 : Int32} {v1 : Int32} {v2 : Int32} {v3 : Int32} {v5 : Int32} {hh : Nat} {ww : Nat} {kk : Nat} {g1 : Nat → Int32} {g2 : Nat → Int32} {g3 : Nat → Int32} {g4 : Nat → Int32} {g5 : Nat → Int32} {v3n_5 : Int32} {g1n_5 : Nat → Int32} {r_5 : Int32} {v3n_6 : Int32} {v3n_10 : Int32} {g1n_10 : Nat → Int32} {r_10 : Int32} {v3n_11 : Int32} {v_13 : Int32} (hr20 : hrs ≤ 20) (hhb : hh ≤ 999) (hww : ww ≤ 6) (hkk : kk ≤ 6) (hN : okN 999 (nrm v0 v1 v2 v3 hh v5 ww kk g1 g2 g3 g4 g5)) (hF_5_0 : v3n_5 = v3) (hF_5_1 : g1n_5 = g1) (h_5 : r_5 = (btV hrs 3 false (nrm v0 v1 v2 v3 hh v5 ww kk g1 g2 g3 g4 g5))) (hF_6_0 : v3n_6 = 1 - v3n_5) (hR_9 : (nrm v0 v1 v2 v3n_6 hh v5 ww kk g1n_5 g2 g3 g4 g5) = tgP true (nrm v0 v1 v2 v3 hh v5 ww kk g1 g2 g3 g4 g5)) (hF_10_0 : v3n_10 = v3n_6) (hF_10_1 : g1n_10 = g1n_5) (h_10 : r_10 = (btV hrs 3 false (nrm v0 v1 v2 v3n_6 hh v5 ww kk g1n_5 g2 g3 g4 g5))) (hF_11_0 : v3n_11 = 1 - v3n_10) (e_13 : v_13 = (if r_5 < r_10 then r_10 else r_5)) : v_13 = (btV hrs 4 true (nrm v0 v1 v2 v3 hh v5 ww kk g1 g2 g3 g4 g5)) := by
  first
  | exact pb_1 h_5 h_10 hR_9 e_13
  | exact pb_c hF_11_0 hF_10_0 hF_6_0 hF_5_0
  | exact hF_10_1.trans hF_5_1
set_option maxHeartbeats 4000000 in
set_option maxRecDepth 100000 in
theorem r_X4_bf_4_1 (l : Launch) (dC : Nat → ClassId) (dI : Nat → Nat → Nat) (cI cZ cL cJ : ClassId) (sz : Nat) (p0 : Nat) (hrs : Nat) (h : Nat) (v0 : Int32) (v1 : Int32) (v2 : Int32) (v3 : Int32) (v5 : Int32) (hh : Nat) (ww : Nat) (kk : Nat) (b1 : Nat) (b2 : Nat) (b3 : Nat) (b4 : Nat) (b5 : Nat) (g1 : Nat → Int32) (g2 : Nat → Int32) (g3 : Nat → Int32) (g4 : Nat → Int32) (g5 : Nat → Int32) (k0 : Nat) (u0 : Int32) (u1 : Int32) (u2 : Int32) (u3 : Int32) (u4 : Int32) (u5 : Int32) (u6 : Int32) (u7 : Int32) (o1 : Nat) (o2 : Nat) (o3 : Nat) (o4 : Nat) (o5 : Nat) (f1 : Nat → Int32) (f2 : Nat → Int32) (f3 : Nat → Int32) (f4 : Nat → Int32) (f5 : Nat → Int32) (hr20 : hrs ≤ 20) (hhb : hh ≤ 999) (hww : ww ≤ 6) (hkk : kk ≤ 6) (hN : okN 999 (nrm v0 v1 v2 v3 hh v5 ww kk g1 g2 g3 g4 g5)) : Met l yX4_bestFor wsX4_bestFor ({ frames := 9, cells := 0, slots := 0, locals := 206 }) (va_Pc [.ref p0, .int 1, .int 4] (fun U => U.heap.size = sz ∧ va_P (dC, dI) vwCl [(xo_4_rri p0 h k0 (nI hrs)), (xo_3_iiiiiiiirrrrr h v0 v1 v2 v3 (nI hh) v5 (nI ww) (nI kk) b1 b2 b3 b4 b5), (xI b1 cI 6 g1), (xI b2 cI 6 g2), (xI b3 cI 6 g3), (xI b4 cI 6 g4), (xI b5 cI 6 g5), (xo_3_iiiiiiiirrrrr k0 u0 u1 u2 u3 u4 u5 u6 u7 o1 o2 o3 o4 o5), (xI o1 cI 6 f1), (xI o2 cI 6 f2), (xI o3 cI 6 f3), (xI o4 cI 6 f4), (xI o5 cI 6 f5)] U.heap ∧ va_K (dC, dI) vwCl [(cI, .int), (cZ, .boolean), (cL, .object RX3), (cJ, .array .int)] U ∧ va_D (fun _ => True) [(xo_4_rri p0 h k0 (nI hrs)), (xo_3_iiiiiiiirrrrr h v0 v1 v2 v3 (nI hh) v5 (nI ww) (nI kk) b1 b2 b3 b4 b5), (xI b1 cI 6 g1), (xI b2 cI 6 g2), (xI b3 cI 6 g3), (xI b4 cI 6 g4), (xI b5 cI 6 g5), (xo_3_iiiiiiiirrrrr k0 u0 u1 u2 u3 u4 u5 u6 u7 o1 o2 o3 o4 o5), (xI o1 cI 6 f1), (xI o2 cI 6 f2), (xI o3 cI 6 f3), (xI o4 cI 6 f4), (xI o5 cI 6 f5)])) (va_Qi (fun r (_ : Unit) => r = (btV hrs 4 true (nrm v0 v1 v2 v3 hh v5 ww kk g1 g2 g3 g4 g5))) (fun (_ : Unit) t => ∃ (v3n : Int32) (u0n : Int32) (u1n : Int32) (u2n : Int32) (u3n : Int32) (u4n : Int32) (u5n : Int32) (u6n : Int32) (u7n : Int32) (g1n : Nat → Int32) (f1n : Nat → Int32) (f2n : Nat → Int32) (f3n : Nat → Int32) (f4n : Nat → Int32) (f5n : Nat → Int32), va_P (dC, dI) vwCl [(xo_4_rri p0 h k0 (nI hrs)), (xo_3_iiiiiiiirrrrr h v0 v1 v2 v3n (nI hh) v5 (nI ww) (nI kk) b1 b2 b3 b4 b5), (xI b1 cI 6 g1n), (xI b2 cI 6 g2), (xI b3 cI 6 g3), (xI b4 cI 6 g4), (xI b5 cI 6 g5), (xo_3_iiiiiiiirrrrr k0 u0n u1n u2n u3n u4n u5n u6n u7n o1 o2 o3 o4 o5), (xI o1 cI 6 f1n), (xI o2 cI 6 f2n), (xI o3 cI 6 f3n), (xI o4 cI 6 f4n), (xI o5 cI 6 f5n)] t.heap ∧ va_D (va_A [(xo_4_rri p0 h k0 (nI hrs)), (xo_3_iiiiiiiirrrrr h v0 v1 v2 v3 (nI hh) v5 (nI ww) (nI kk) b1 b2 b3 b4 b5), (xI b1 cI 6 g1), (xI b2 cI 6 g2), (xI b3 cI 6 g3), (xI b4 cI 6 g4), (xI b5 cI 6 g5), (xo_3_iiiiiiiirrrrr k0 u0 u1 u2 u3 u4 u5 u6 u7 o1 o2 o3 o4 o5), (xI o1 cI 6 f1), (xI o2 cI 6 f2), (xI o3 cI 6 f3), (xI o4 cI 6 f4), (xI o5 cI 6 f5)] sz) [(xo_4_rri p0 h k0 (nI hrs)), (xo_3_iiiiiiiirrrrr h v0 v1 v2 v3n (nI hh) v5 (nI ww) (nI kk) b1 b2 b3 b4 b5), (xI b1 cI 6 g1n), (xI b2 cI 6 g2), (xI b3 cI 6 g3), (xI b4 cI 6 g4), (xI b5 cI 6 g5), (xo_3_iiiiiiiirrrrr k0 u0n u1n u2n u3n u4n u5n u6n u7n o1 o2 o3 o4 o5), (xI o1 cI 6 f1n), (xI o2 cI 6 f2n), (xI o3 cI 6 f3n), (xI o4 cI 6 f4n), (xI o5 cI 6 f5n)] ∧ v3n = v3 ∧ g1n = g1) (va_A [(xo_4_rri p0 h k0 (nI hrs)), (xo_3_iiiiiiiirrrrr h v0 v1 v2 v3 (nI hh) v5 (nI ww) (nI kk) b1 b2 b3 b4 b5), (xI b1 cI 6 g1), (xI b2 cI 6 g2), (xI b3 cI 6 g3), (xI b4 cI 6 g4), (xI b5 cI 6 g5), (xo_3_iiiiiiiirrrrr k0 u0 u1 u2 u3 u4 u5 u6 u7 o1 o2 o3 o4 o5), (xI o1 cI 6 f1), (xI o2 cI 6 f2), (xI o3 cI 6 f3), (xI o4 cI 6 f4), (xI o5 cI 6 f5)] sz)) 0 0 (va_A [(xo_4_rri p0 h k0 (nI hrs)), (xo_3_iiiiiiiirrrrr h v0 v1 v2 v3 (nI hh) v5 (nI ww) (nI kk) b1 b2 b3 b4 b5), (xI b1 cI 6 g1), (xI b2 cI 6 g2), (xI b3 cI 6 g3), (xI b4 cI 6 g4), (xI b5 cI 6 g5), (xo_3_iiiiiiiirrrrr k0 u0 u1 u2 u3 u4 u5 u6 u7 o1 o2 o3 o4 o5), (xI o1 cI 6 f1), (xI o2 cI 6 f2), (xI o3 cI 6 f3), (xI o4 cI 6 f4), (xI o5 cI 6 f5)] sz) := by
  refine Met.ofW (cc := cX4_bestFor) (maxL := 5) (ret := (some .int)) (by decide) rfl ?_
  intro p e s m args below meth c s₁ B hml hv
  obtain ⟨rfl, hsz, hP, hK, hD0⟩ := hv
  have hx := B.exec
  have hb := B.bytes
  have hr := B.returns
  have hts := atoms_spec (ws := wsX4_bestFor) B.pre
  have hown : s.vm.findClass RX4 = some m.cls := findClass_of_methodNamed B.named
  have hlocks := B.notSynchronized
  subst hsz
  have hD := hD0.self (sz := s.heap.size)
  generalize hAe : va_A [(xo_4_rri p0 h k0 (nI hrs)), (xo_3_iiiiiiiirrrrr h v0 v1 v2 v3 (nI hh) v5 (nI ww) (nI kk) b1 b2 b3 b4 b5), (xI b1 cI 6 g1), (xI b2 cI 6 g2), (xI b3 cI 6 g3), (xI b4 cI 6 g4), (xI b5 cI 6 g5), (xo_3_iiiiiiiirrrrr k0 u0 u1 u2 u3 u4 u5 u6 u7 o1 o2 o3 o4 o5), (xI o1 cI 6 f1), (xI o2 cI 6 f2), (xI o3 cI 6 f3), (xI o4 cI 6 f4), (xI o5 cI 6 f5)] s.heap.size = A at hD ⊢
  have hA : ∀ q : Nat, s.heap.size ≤ q → A q := fun q h => by rw [← hAe]; exact Or.inr h
  have hS : va_S A s.heap s.heap [] := va_S.rf
  have hP : va_P (dC, dI) vwCl [(xo_4_rri p0 h k0 (nI hrs)), (xo_3_iiiiiiiirrrrr h v0 v1 v2 v3 (nI hh) v5 (nI ww) (nI kk) b1 b2 b3 b4 b5), (xI b1 cI 6 g1), (xI b2 cI 6 g2), (xI b3 cI 6 g3), (xI b4 cI 6 g4), (xI b5 cI 6 g5), (xo_3_iiiiiiiirrrrr k0 u0 u1 u2 u3 u4 u5 u6 u7 o1 o2 o3 o4 o5), (xI o1 cI 6 f1), (xI o2 cI 6 f2), (xI o3 cI 6 f3), (xI o4 cI 6 f4), (xI o5 cI 6 f5)] s.heap := hP
  have hl := lv_entry ([.ref p0, .int 1, .int 4]) (n := 5) (Nat.le_of_ble_eq_true rfl)
  rw [lg_entry_eq]
  generalize (lg_sl ([.ref p0, .int 1, .int 4]) ++ List.replicate (5 - (lg_sl ([.ref p0, .int 1, .int 4])).length) Slot.unset).toArray = ls at hl ⊢
  have hl : lv_has ls 5 [(0, .ref p0), (1, .int 1), (2, .int 4)] := hl
  refine lv_iload_n hx hb dX4_bestFor_0 rfl (lv_at hl 2 rfl) ?_
  refine lv_if_gt (tgt := 27) hx hb dX4_bestFor_1 (by decide) (fun _ => ?_) (fun c_ => absurd (by decide) c_)
  refine lv_aload_n hx hb dX4_bestFor_27 rfl (lv_at hl 0 rfl) ?_
  refine lv_iload_n hx hb dX4_bestFor_28 rfl (lv_at hl 1 rfl) ?_
  refine lv_if_ne (tgt := 36) hx hb dX4_bestFor_29 (by decide) (fun _ => ?_) (fun c_ => absurd c_ (by decide))
  refine lv_iconst (v := 0) hx hb dX4_bestFor_36 (by decide) ?_
  refine lv_iload_n hx hb dX4_bestFor_37 rfl (lv_at hl 2 rfl) ?_
  refine lv_iconst (v := 1) hx hb dX4_bestFor_38 (by decide) ?_
  refine lv_isub hx hb dX4_bestFor_39 ?_
  refine lv_topi (fun v_3 e_3 => ?_)
  obtain rfl : v_3 = 3 := (e_3).trans (by decide)
  have hc_5 := cutW (wc := [(xo_4_rri p0 h k0 (nI hrs)), (xo_3_iiiiiiiirrrrr h v0 v1 v2 v3 (nI hh) v5 (nI ww) (nI kk) b1 b2 b3 b4 b5), (xI b1 cI 6 g1), (xI b2 cI 6 g2), (xI b3 cI 6 g3), (xI b4 cI 6 g4), (xI b5 cI 6 g5), (xo_3_iiiiiiiirrrrr k0 u0 u1 u2 u3 u4 u5 u6 u7 o1 o2 o3 o4 o5), (xI o1 cI 6 f1), (xI o2 cI 6 f2), (xI o3 cI 6 f3), (xI o4 cI 6 f4), (xI o5 cI 6 f5)]) hP hD hS hA [0, 1, 2, 3, 4, 5, 6, 7, 8, 9, 10, 11, 12] (by decide +kernel) rfl
  refine va_calli (va_runV (As := [.int 0, .int 3]) (rest := []) ⟨hx, hb, hml, hown, hts⟩ (r_X4_bf_3_0 l dC dI cI cZ cL cJ s.heap.size p0 hrs h v0 v1 v2 v3 v5 hh ww kk b1 b2 b3 b4 b5 g1 g2 g3 g4 g5 k0 u0 u1 u2 u3 u4 u5 u6 u7 o1 o2 o3 o4 o5 f1 f2 f3 f4 f5 (hr20) (hhb) (hww) (hkk) (hN)) (cwV 2 hts gX4_bestFor_X4_bestFor rfl rfl rfl (by decide +kernel) ⟨Nat.le_of_ble_eq_true rfl, Nat.le_of_ble_eq_true rfl⟩) (pvW 4 0 hK hP rfl rfl hc_5) rfl rfl hl.1 rfl (lv_room (Nat.le_of_ble_eq_true rfl)) dX4_bestFor_40 ⟨Nat.le_of_ble_eq_true rfl, Nat.le_of_ble_eq_true rfl⟩) hS (fun q _ h => hc_5.2.2 q h) hc_5.2.2 (fun r_5 u_5 t_5 H1 locs ht hvm h_5 hB hz1 hk1 hS => ?_)
  refine xl_15_4 hB (fun v3n_5 u0n_5 u1n_5 u2n_5 u3n_5 u4n_5 u5n_5 u6n_5 u7n_5 g1n_5 f1n_5 f2n_5 f3n_5 f4n_5 f5n_5 hP1 hD1 hF_5_0 hF_5_1 => ?_)
  clear hB
  rw [ht] at hP1
  obtain ⟨hP, hD⟩ := va_join (wr := []) (w1 := [(xo_4_rri p0 h k0 (nI hrs)), (xo_3_iiiiiiiirrrrr h v0 v1 v2 v3n_5 (nI hh) v5 (nI ww) (nI kk) b1 b2 b3 b4 b5), (xI b1 cI 6 g1n_5), (xI b2 cI 6 g2), (xI b3 cI 6 g3), (xI b4 cI 6 g4), (xI b5 cI 6 g5), (xo_3_iiiiiiiirrrrr k0 u0n_5 u1n_5 u2n_5 u3n_5 u4n_5 u5n_5 u6n_5 u7n_5 o1 o2 o3 o4 o5), (xI o1 cI 6 f1n_5), (xI o2 cI 6 f2n_5), (xI o3 cI 6 f3n_5), (xI o4 cI 6 f4n_5), (xI o5 cI 6 f5n_5)]) hP hD [0, 1, 2, 3, 4, 5, 6, 7, 8, 9, 10, 11, 12] [] rfl rfl (by decide +kernel) (by decide +kernel) hk1 hc_5.2.2 hP1 hD1
  generalize H1 = H at hP hS ⊢
  have hP : va_P (dC, dI) vwCl [(xo_4_rri p0 h k0 (nI hrs)), (xo_3_iiiiiiiirrrrr h v0 v1 v2 v3n_5 (nI hh) v5 (nI ww) (nI kk) b1 b2 b3 b4 b5), (xI b1 cI 6 g1n_5), (xI b2 cI 6 g2), (xI b3 cI 6 g3), (xI b4 cI 6 g4), (xI b5 cI 6 g5), (xo_3_iiiiiiiirrrrr k0 u0n_5 u1n_5 u2n_5 u3n_5 u4n_5 u5n_5 u6n_5 u7n_5 o1 o2 o3 o4 o5), (xI o1 cI 6 f1n_5), (xI o2 cI 6 f2n_5), (xI o3 cI 6 f3n_5), (xI o4 cI 6 f4n_5), (xI o5 cI 6 f5n_5)] H := hP
  have hD := dto hP hD
  refine lv_istore_n (lv' := [(3, .int r_5), (0, .ref p0), (1, .int 1), (2, .int 4)]) hx hb dX4_bestFor_43 rfl hl (by decide) rfl (fun ls hl => ?_)
  refine lv_aload_n hx hb dX4_bestFor_44 rfl (lv_at hl 1 rfl) ?_
  refine lv_iload_n hx hb dX4_bestFor_45 rfl (lv_at hl 2 rfl) ?_
  have hc_6 := cutW (wc := [(xo_4_rri p0 h k0 (nI hrs)), (xo_3_iiiiiiiirrrrr h v0 v1 v2 v3n_5 (nI hh) v5 (nI ww) (nI kk) b1 b2 b3 b4 b5), (xI b1 cI 6 g1n_5), (xI b2 cI 6 g2), (xI b3 cI 6 g3), (xI b4 cI 6 g4), (xI b5 cI 6 g5)]) hP hD hS hA [0, 1, 2, 3, 4, 5, 6] (by decide +kernel) rfl
  refine va_callv (va_runV (As := [.int 1]) (rest := []) ⟨hx, hb, hml, hown, hts⟩ (r_X4_tn_1 l dC dI cI cZ cL cJ H.size p0 hrs h v0 v1 v2 v3n_5 v5 hh ww kk b1 b2 b3 b4 b5 g1n_5 g2 g3 g4 g5 k0 (hr20) (hhb) (hww) (hkk)) (cwV 1 hts gX4_bestFor_X4_turn rfl rfl rfl (by decide +kernel) ⟨Nat.le_of_ble_eq_true rfl, Nat.le_of_ble_eq_true rfl⟩) (pvW 4 0 hK hP rfl rfl hc_6) rfl rfl hl.1 rfl (lv_room (Nat.le_of_ble_eq_true rfl)) dX4_bestFor_46 ⟨Nat.le_of_ble_eq_true rfl, Nat.le_of_ble_eq_true rfl⟩) hS (fun q _ h => hc_6.2.2 q h) hc_6.2.2 (fun u_6 t_6 H1 locs ht hvm h_6 hB hz1 hk1 hS => ?_)
  refine xl_1_3 hB (fun v3n_6 hP1 hD1 hF_6_0 => ?_)
  clear hB
  rw [ht] at hP1
  obtain ⟨hP, hD⟩ := va_join (wr := [(xo_3_iiiiiiiirrrrr k0 u0n_5 u1n_5 u2n_5 u3n_5 u4n_5 u5n_5 u6n_5 u7n_5 o1 o2 o3 o4 o5), (xI o1 cI 6 f1n_5), (xI o2 cI 6 f2n_5), (xI o3 cI 6 f3n_5), (xI o4 cI 6 f4n_5), (xI o5 cI 6 f5n_5)]) (w1 := [(xo_4_rri p0 h k0 (nI hrs)), (xo_3_iiiiiiiirrrrr h v0 v1 v2 v3n_6 (nI hh) v5 (nI ww) (nI kk) b1 b2 b3 b4 b5), (xI b1 cI 6 g1n_5), (xI b2 cI 6 g2), (xI b3 cI 6 g3), (xI b4 cI 6 g4), (xI b5 cI 6 g5)]) hP hD [0, 1, 2, 3, 4, 5, 6] [7, 8, 9, 10, 11, 12] rfl rfl (by decide +kernel) (by decide +kernel) hk1 hc_6.2.2 hP1 hD1
  generalize H1 = H at hP hS ⊢
  have hP : va_P (dC, dI) vwCl [(xo_3_iiiiiiiirrrrr k0 u0n_5 u1n_5 u2n_5 u3n_5 u4n_5 u5n_5 u6n_5 u7n_5 o1 o2 o3 o4 o5), (xI o1 cI 6 f1n_5), (xI o2 cI 6 f2n_5), (xI o3 cI 6 f3n_5), (xI o4 cI 6 f4n_5), (xI o5 cI 6 f5n_5), (xo_4_rri p0 h k0 (nI hrs)), (xo_3_iiiiiiiirrrrr h v0 v1 v2 v3n_6 (nI hh) v5 (nI ww) (nI kk) b1 b2 b3 b4 b5), (xI b1 cI 6 g1n_5), (xI b2 cI 6 g2), (xI b3 cI 6 g3), (xI b4 cI 6 g4), (xI b5 cI 6 g5)] H := hP
  have hD := dto hP hD
  refine lv_aload_n hx hb dX4_bestFor_49 rfl (lv_at hl 1 rfl) ?_
  refine lv_iload_n hx hb dX4_bestFor_50 rfl (lv_at hl 2 rfl) ?_
  refine lv_if_ne (tgt := 58) hx hb dX4_bestFor_51 (by decide) (fun _ => ?_) (fun c_ => absurd c_ (by decide))
  refine lv_iconst (v := 0) hx hb dX4_bestFor_58 (by decide) ?_
  refine lv_iload_n hx hb dX4_bestFor_59 rfl (lv_at hl 3 rfl) ?_
  refine lv_iconst (v := 1) hx hb dX4_bestFor_60 (by decide) ?_
  refine lv_isub hx hb dX4_bestFor_61 ?_
  refine lv_topi (fun v_8 e_8 => ?_)
  obtain rfl : v_8 = 3 := (e_8).trans (by decide)
  have hR_9 : (nrm v0 v1 v2 v3n_6 hh v5 ww kk g1n_5 g2 g3 g4 g5) = tgP true (nrm v0 v1 v2 v3 hh v5 ww kk g1 g2 g3 g4 g5) := (lf_X4_bf_4_1_1 hr20 hhb hww hkk hN hF_5_0 hF_5_1 h_5 hF_6_0)
  have hRN_9 : okN 999 (nrm v0 v1 v2 v3n_6 hh v5 ww kk g1n_5 g2 g3 g4 g5) := by rw [hR_9]; exact tgP_ok _ hN
  have hc_10 := cutW (wc := [(xo_4_rri p0 h k0 (nI hrs)), (xo_3_iiiiiiiirrrrr h v0 v1 v2 v3n_6 (nI hh) v5 (nI ww) (nI kk) b1 b2 b3 b4 b5), (xI b1 cI 6 g1n_5), (xI b2 cI 6 g2), (xI b3 cI 6 g3), (xI b4 cI 6 g4), (xI b5 cI 6 g5), (xo_3_iiiiiiiirrrrr k0 u0n_5 u1n_5 u2n_5 u3n_5 u4n_5 u5n_5 u6n_5 u7n_5 o1 o2 o3 o4 o5), (xI o1 cI 6 f1n_5), (xI o2 cI 6 f2n_5), (xI o3 cI 6 f3n_5), (xI o4 cI 6 f4n_5), (xI o5 cI 6 f5n_5)]) hP hD hS hA [6, 7, 8, 9, 10, 11, 12, 0, 1, 2, 3, 4, 5] (by decide +kernel) rfl
  refine va_calli (va_runV (As := [.int 0, .int 3]) (rest := []) ⟨hx, hb, hml, hown, hts⟩ (r_X4_bf_3_0 l dC dI cI cZ cL cJ H.size p0 hrs h v0 v1 v2 v3n_6 v5 hh ww kk b1 b2 b3 b4 b5 g1n_5 g2 g3 g4 g5 k0 u0n_5 u1n_5 u2n_5 u3n_5 u4n_5 u5n_5 u6n_5 u7n_5 o1 o2 o3 o4 o5 f1n_5 f2n_5 f3n_5 f4n_5 f5n_5 (hr20) (hhb) (hww) (hkk) (hRN_9)) (cwV 2 hts gX4_bestFor_X4_bestFor rfl rfl rfl (by decide +kernel) ⟨Nat.le_of_ble_eq_true rfl, Nat.le_of_ble_eq_true rfl⟩) (pvW 4 6 hK hP rfl rfl hc_10) rfl rfl hl.1 rfl (lv_room (Nat.le_of_ble_eq_true rfl)) dX4_bestFor_62 ⟨Nat.le_of_ble_eq_true rfl, Nat.le_of_ble_eq_true rfl⟩) hS (fun q _ h => hc_10.2.2 q h) hc_10.2.2 (fun r_10 u_10 t_10 H1 locs ht hvm h_10 hB hz1 hk1 hS => ?_)
  refine xl_15_4 hB (fun v3n_10 u0n_10 u1n_10 u2n_10 u3n_10 u4n_10 u5n_10 u6n_10 u7n_10 g1n_10 f1n_10 f2n_10 f3n_10 f4n_10 f5n_10 hP1 hD1 hF_10_0 hF_10_1 => ?_)
  clear hB
  rw [ht] at hP1
  obtain ⟨hP, hD⟩ := va_join (wr := []) (w1 := [(xo_4_rri p0 h k0 (nI hrs)), (xo_3_iiiiiiiirrrrr h v0 v1 v2 v3n_10 (nI hh) v5 (nI ww) (nI kk) b1 b2 b3 b4 b5), (xI b1 cI 6 g1n_10), (xI b2 cI 6 g2), (xI b3 cI 6 g3), (xI b4 cI 6 g4), (xI b5 cI 6 g5), (xo_3_iiiiiiiirrrrr k0 u0n_10 u1n_10 u2n_10 u3n_10 u4n_10 u5n_10 u6n_10 u7n_10 o1 o2 o3 o4 o5), (xI o1 cI 6 f1n_10), (xI o2 cI 6 f2n_10), (xI o3 cI 6 f3n_10), (xI o4 cI 6 f4n_10), (xI o5 cI 6 f5n_10)]) hP hD [6, 7, 8, 9, 10, 11, 12, 0, 1, 2, 3, 4, 5] [] rfl rfl (by decide +kernel) (by decide +kernel) hk1 hc_10.2.2 hP1 hD1
  generalize H1 = H at hP hS ⊢
  have hP : va_P (dC, dI) vwCl [(xo_4_rri p0 h k0 (nI hrs)), (xo_3_iiiiiiiirrrrr h v0 v1 v2 v3n_10 (nI hh) v5 (nI ww) (nI kk) b1 b2 b3 b4 b5), (xI b1 cI 6 g1n_10), (xI b2 cI 6 g2), (xI b3 cI 6 g3), (xI b4 cI 6 g4), (xI b5 cI 6 g5), (xo_3_iiiiiiiirrrrr k0 u0n_10 u1n_10 u2n_10 u3n_10 u4n_10 u5n_10 u6n_10 u7n_10 o1 o2 o3 o4 o5), (xI o1 cI 6 f1n_10), (xI o2 cI 6 f2n_10), (xI o3 cI 6 f3n_10), (xI o4 cI 6 f4n_10), (xI o5 cI 6 f5n_10)] H := hP
  have hD := dto hP hD
  refine lv_istore (lv' := [(4, .int r_10), (3, .int r_5), (0, .ref p0), (1, .int 1), (2, .int 4)]) hx hb dX4_bestFor_65 hl (by decide) rfl (fun ls hl => ?_)
  refine lv_aload_n hx hb dX4_bestFor_67 rfl (lv_at hl 2 rfl) ?_
  refine lv_iload_n hx hb dX4_bestFor_68 rfl (lv_at hl 3 rfl) ?_
  have hc_11 := cutW (wc := [(xo_4_rri p0 h k0 (nI hrs)), (xo_3_iiiiiiiirrrrr h v0 v1 v2 v3n_10 (nI hh) v5 (nI ww) (nI kk) b1 b2 b3 b4 b5), (xI b1 cI 6 g1n_10), (xI b2 cI 6 g2), (xI b3 cI 6 g3), (xI b4 cI 6 g4), (xI b5 cI 6 g5)]) hP hD hS hA [0, 1, 2, 3, 4, 5, 6] (by decide +kernel) rfl
  refine va_callv (va_runV (As := [.int 1]) (rest := []) ⟨hx, hb, hml, hown, hts⟩ (r_X4_tn_1 l dC dI cI cZ cL cJ H.size p0 hrs h v0 v1 v2 v3n_10 v5 hh ww kk b1 b2 b3 b4 b5 g1n_10 g2 g3 g4 g5 k0 (hr20) (hhb) (hww) (hkk)) (cwV 1 hts gX4_bestFor_X4_turn rfl rfl rfl (by decide +kernel) ⟨Nat.le_of_ble_eq_true rfl, Nat.le_of_ble_eq_true rfl⟩) (pvW 4 0 hK hP rfl rfl hc_11) rfl rfl hl.1 rfl (lv_room (Nat.le_of_ble_eq_true rfl)) dX4_bestFor_69 ⟨Nat.le_of_ble_eq_true rfl, Nat.le_of_ble_eq_true rfl⟩) hS (fun q _ h => hc_11.2.2 q h) hc_11.2.2 (fun u_11 t_11 H1 locs ht hvm h_11 hB hz1 hk1 hS => ?_)
  refine xl_1_3 hB (fun v3n_11 hP1 hD1 hF_11_0 => ?_)
  clear hB
  rw [ht] at hP1
  obtain ⟨hP, hD⟩ := va_join (wr := [(xo_3_iiiiiiiirrrrr k0 u0n_10 u1n_10 u2n_10 u3n_10 u4n_10 u5n_10 u6n_10 u7n_10 o1 o2 o3 o4 o5), (xI o1 cI 6 f1n_10), (xI o2 cI 6 f2n_10), (xI o3 cI 6 f3n_10), (xI o4 cI 6 f4n_10), (xI o5 cI 6 f5n_10)]) (w1 := [(xo_4_rri p0 h k0 (nI hrs)), (xo_3_iiiiiiiirrrrr h v0 v1 v2 v3n_11 (nI hh) v5 (nI ww) (nI kk) b1 b2 b3 b4 b5), (xI b1 cI 6 g1n_10), (xI b2 cI 6 g2), (xI b3 cI 6 g3), (xI b4 cI 6 g4), (xI b5 cI 6 g5)]) hP hD [0, 1, 2, 3, 4, 5, 6] [7, 8, 9, 10, 11, 12] rfl rfl (by decide +kernel) (by decide +kernel) hk1 hc_11.2.2 hP1 hD1
  generalize H1 = H at hP hS ⊢
  have hP : va_P (dC, dI) vwCl [(xo_3_iiiiiiiirrrrr k0 u0n_10 u1n_10 u2n_10 u3n_10 u4n_10 u5n_10 u6n_10 u7n_10 o1 o2 o3 o4 o5), (xI o1 cI 6 f1n_10), (xI o2 cI 6 f2n_10), (xI o3 cI 6 f3n_10), (xI o4 cI 6 f4n_10), (xI o5 cI 6 f5n_10), (xo_4_rri p0 h k0 (nI hrs)), (xo_3_iiiiiiiirrrrr h v0 v1 v2 v3n_11 (nI hh) v5 (nI ww) (nI kk) b1 b2 b3 b4 b5), (xI b1 cI 6 g1n_10), (xI b2 cI 6 g2), (xI b3 cI 6 g3), (xI b4 cI 6 g4), (xI b5 cI 6 g5)] H := hP
  have hD := dto hP hD
  refine lv_iload_n hx hb dX4_bestFor_72 rfl (lv_at hl 3 rfl) ?_
  refine lv_if_eq (tgt := 85) hx hb dX4_bestFor_73 (by decide) (fun c_ => absurd c_ (by decide)) (fun _ => ?_)
  refine lv_iload_n hx hb dX4_bestFor_76 rfl (lv_at hl 1 rfl) ?_
  refine lv_iload hx hb dX4_bestFor_77 (lv_at hl 0 rfl) ?_
  refine va_mmax hx hb (by rw [hml]; exact hl.1.symm) hown (hts _ mx_X4_bestFor_4) (hts _ mx_X4_bestFor_5) (hts _ mx_X4_bestFor_6) (hts _ mx_X4_bestFor_7) (Nat.le_of_ble_eq_true rfl) (Nat.le_of_ble_eq_true rfl) (Nat.zero_le _) (Nat.zero_le _) dX4_bestFor_79 ?_
  refine lv_topi (fun v_13 e_13 => ?_)
  refine lv_goto (tgt := 91) hx hb dX4_bestFor_82 (by decide) ?_
  have hX9 := cut2 (wc := [(xo_4_rri p0 h k0 (nI hrs)), (xo_3_iiiiiiiirrrrr h v0 v1 v2 v3n_11 (nI hh) v5 (nI ww) (nI kk) b1 b2 b3 b4 b5), (xI b1 cI 6 g1n_10), (xI b2 cI 6 g2), (xI b3 cI 6 g3), (xI b4 cI 6 g4), (xI b5 cI 6 g5), (xo_3_iiiiiiiirrrrr k0 u0n_10 u1n_10 u2n_10 u3n_10 u4n_10 u5n_10 u6n_10 u7n_10 o1 o2 o3 o4 o5), (xI o1 cI 6 f1n_10), (xI o2 cI 6 f2n_10), (xI o3 cI 6 f3n_10), (xI o4 cI 6 f4n_10), (xI o5 cI 6 f5n_10)]) hP hD [6, 7, 8, 9, 10, 11, 12, 0, 1, 2, 3, 4, 5] (by decide +kernel) rfl
  exact W.iret (v := v_13) hx hb hr (fun t ht hW => ⟨⟨v_13, (), rfl, (lf_X4_bf_4_1_4 hr20 hhb hww hkk hN hF_5_0 hF_5_1 h_5 hF_6_0 hR_9 hF_10_0 hF_10_1 h_10 hF_11_0 e_13), ⟨v3n_11, u0n_10, u1n_10, u2n_10, u3n_10, u4n_10, u5n_10, u6n_10, u7n_10, g1n_10, f1n_10, f2n_10, f3n_10, f4n_10, f5n_10, va_Ht ht hX9.1, hX9.2, (lf_X4_bf_4_1_2 hr20 hhb hww hkk hN hF_5_0 hF_5_1 h_5 hF_6_0 hR_9 hF_10_0 hF_10_1 h_10 hF_11_0 e_13), (lf_X4_bf_4_1_3 hr20 hhb hww hkk hN hF_5_0 hF_5_1 h_5 hF_6_0 hR_9 hF_10_0 hF_10_1 h_10 hF_11_0 e_13)⟩⟩, hS.F ht⟩) hS.2.2 dX4_bestFor_91
-- 42.mill4_d
/-! ends of feed, level, ask, as: each conclusion by its own lemma -/
theorem fd_z {z : Nat} {a : Int32} (h : a < 0 ∨ ¬ a ≤ 255 ∨ z = 120) : z = sf_z z a := (if_pos h).symm
theorem fd_b {f : Nat → Int32} {z : Nat} {a : Int32} (h : a < 0 ∨ ¬ a ≤ 255 ∨ z = 120) : f = sf_b f z a := (if_pos h).symm
theorem fd_a {z : Nat} {a : Int32} (h : a < 0 ∨ ¬ a ≤ 255) : (-1000001 : Int32) = an_fd z a := (if_pos h).symm
theorem fd_f {z : Nat} {a : Int32} (h1 : ¬ a < 0) (h2 : a ≤ 255) (h : z = 120) : (-1000003 : Int32) = an_fd z a := by
  unfold an_fd
  rw [if_neg (fun q => q.elim h1 (fun t => t h2)), if_pos h]
theorem fd_n {z : Nat} {a : Int32} (h1 : ¬ a < 0) (h2 : a ≤ 255) (h : z < 120) : ¬ (a < 0 ∨ ¬ a ≤ 255 ∨ z = 120) := by
  rintro (q | q | q)
  · exact h1 q
  · exact q h2
  · omega
theorem fd_Z {z zn : Nat} {a : Int32} (h1 : ¬ a < 0) (h2 : a ≤ 255) (h : z < 120) (e : zn = apz z) : zn = sf_z z a := by
  unfold sf_z
  rw [if_neg (fd_n h1 h2 h), e]
  exact if_pos h
theorem fd_B {f g : Nat → Int32} {z : Nat} {a : Int32} (h1 : ¬ a < 0) (h2 : a ≤ 255) (h : z < 120) (e : g = apb f z a) : g = sf_b f z a := by
  unfold sf_b
  rw [if_neg (fd_n h1 h2 h), e]
  exact if_pos h
theorem fd_T {f g : Nat → Int32} {z zn : Nat} {a : Int32} (h1 : ¬ a < 0) (h2 : a ≤ 255) (h : z < 120) (e : zn = apz z) (e2 : g = apb f z a) (hT : okT f z) : okT g zn := by
  rw [fd_Z h1 h2 h e, fd_B h1 h2 h e2]
  exact okT_up hT
theorem fd_A {z : Nat} {a r : Int32} (h1 : ¬ a < 0) (h2 : a ≤ 255) (h : z < 120) (e : r = nI (apz z)) : r = an_fd z a := by
  unfold an_fd
  rw [if_neg (fun q => q.elim h1 (fun t => t h2)), if_neg (by omega), e]
  exact congrArg nI (if_pos h)
section LVLX
variable {f : Nat → Int32} {z : Nat} {g1 g2 g3 g4 g5 : Nat → Int32} {r : Int32}
theorem lx_ok (hz : z ≤ 120) (hT : okT f z) (h : r = (xRs f z g1 g2 g3 g4 g5).1.2.1) (c : r = 0) : (rR f z).2 = 0 := (lv_row hz hT g1 g2 g3 g4 g5).1.mp (h.symm.trans c)
theorem lx_no (hz : z ≤ 120) (hT : okT f z) (h : r = (xRs f z g1 g2 g3 g4 g5).1.2.1) (c : ¬ r = 0) : ¬ (rR f z).2 = 0 := fun q => c (h.trans ((lv_row hz hT g1 g2 g3 g4 g5).1.mpr q))
theorem lx_f {lf : Int32} (hz : z ≤ 120) (hT : okT f z) (h : r = (xRs f z g1 g2 g3 g4 g5).1.2.1) (c : r = 0) : lf = lvF f z lf := ((lv_ans hz hT g1 g2 g3 g4 g5).1 (h.symm.trans c)).2 lf
theorem lx_fn {lf : Int32} (hz : z ≤ 120) (hT : okT f z) (h : r = (xRs f z g1 g2 g3 g4 g5).1.2.1) (c : ¬ r = 0) : r = lvF f z lf := h.trans (((lv_ans hz hT g1 g2 g3 g4 g5).2 (fun q => c (h.trans q))).2 lf)
theorem lx_n {n : Nat} (hz : z ≤ 120) (hT : okT f z) (h : r = (xRs f z g1 g2 g3 g4 g5).1.2.1) (c : r = 0) : 0 = n_levN ((rR f z).2 = 0) n := by
  unfold n_levN
  rw [if_pos (lx_ok hz hT h c)]
theorem lx_nn {n : Nat} (hz : z ≤ 120) (hT : okT f z) (h : r = (xRs f z g1 g2 g3 g4 g5).1.2.1) (c : ¬ r = 0) : n = n_levN ((rR f z).2 = 0) n := by
  unfold n_levN
  rw [if_neg (lx_no hz hT h c)]
theorem lx_l {R L : Nat → Int32} (hz : z ≤ 120) (hT : okT f z) (h : r = (xRs f z g1 g2 g3 g4 g5).1.2.1) (c : ¬ r = 0) : L = n_lev ((rR f z).2 = 0) R L := by
  unfold n_lev
  rw [if_neg (lx_no hz hT h c)]
theorem lx_L {L : Nat → Int32} {a b d : Int32} {v0 v1 v2 : Int32} {w k : Nat} {t1 t2 t3 t4 t5 f1 f2 f3 f4 f5 : Nat → Int32} (hz : z ≤ 120) (hT : okT f z) (h : r = (xRs f z g1 g2 g3 g4 g5).1.2.1) (c : r = 0) (e2 : xRs f z g1 g2 g3 g4 g5 = ((a, b, d), k, t2, t3, t4, t5)) (e3 : (xRw f z g1).2 = (w, t1)) (e4 : v0 = xL0 f z (0, 0, 0)) (e5 : v1 = xL1 f z (0, 0, 0)) (e6 : v2 = xL2 f z (0, 0, 0)) (hw : w ≤ 6) (hk : k ≤ 6) (q1 : ∀ j : Nat, j < 6 → f1 j = t1 j) (q2 : ∀ j : Nat, j < 6 → f2 j = t2 j) (q3 : ∀ j : Nat, j < 6 → f3 j = t3 j) (q4 : ∀ j : Nat, j < 6 → f4 j = t4 j) (q5 : ∀ j : Nat, j < 6 → f5 j = t5 j) : nrm v0 v1 v2 1 0 0 w k f1 f2 f3 f4 f5 = n_lev ((rR f z).2 = 0) (rR f z).1.2 L := by
  have o := lx_ok hz hT h c
  have hr := (lv_row hz hT g1 g2 g3 g4 g5).2 o
  rw [e2, e3, ← e4, ← e5, ← e6] at hr
  unfold n_lev
  rw [if_pos o, hr]
  exact nr_eq hw hk q1 q2 q3 q4 q5
theorem lx_A {a b d : Int32} {k : Nat} {t2 t3 t4 t5 : Nat → Int32} (hz : z ≤ 120) (hT : okT f z) (h : r = (xRs f z g1 g2 g3 g4 g5).1.2.1) (c : r = 0) (e2 : xRs f z g1 g2 g3 g4 g5 = ((a, b, d), k, t2, t3, t4, t5)) : nI k = lvA f z := by
  have o := ((lv_ans hz hT g1 g2 g3 g4 g5).1 (h.symm.trans c)).1
  rw [e2] at o
  exact o
theorem lx_AN {a b d v : Int32} {k : Nat} {t2 t3 t4 t5 : Nat → Int32} (hz : z ≤ 120) (hT : okT f z) (h : r = (xRs f z g1 g2 g3 g4 g5).1.2.1) (c : ¬ r = 0) (e2 : xRs f z g1 g2 g3 g4 g5 = ((a, b, d), k, t2, t3, t4, t5)) (e : v = -1000100 - a) : v = lvA f z := by
  have o := ((lv_ans hz hT g1 g2 g3 g4 g5).2 (fun q => c (h.trans q))).1
  rw [e2] at o
  exact e.trans o
end LVLX
theorem ak_n1 {L fe : RF} {s w : Int32} {z : Nat} (g : ¬ (¬ s < 0 ∧ ¬ L 4 ≤ s) ∨ ¬ (w = 0 ∨ w = 1)) : z = (n_ask L s w (z, fe)).1 := by
  unfold n_ask
  rw [if_pos g]
theorem ak_n2 {L fe : RF} {s w : Int32} {z : Nat} (g : ¬ (¬ s < 0 ∧ ¬ L 4 ≤ s) ∨ ¬ (w = 0 ∨ w = 1)) : fe = (n_ask L s w (z, fe)).2 := by
  unfold n_ask
  rw [if_pos g]
theorem ak_a {L fe : RF} {s w : Int32} {z : Nat} (g : ¬ (¬ s < 0 ∧ ¬ L 4 ≤ s) ∨ ¬ (w = 0 ∨ w = 1)) : (-1000001 : Int32) = a_ask L s w (z, fe) := (if_pos g).symm
section ENDK
variable {v0 v1 v2 v3 v5 : Int32} {hh ww kk : Nat} {g1 g2 g3 g4 g5 : RF}
theorem nk_g {s : Int32} (h : s < 0 ∨ nI kk ≤ s) : ¬ (¬ s < 0 ∧ ¬ nrm v0 v1 v2 v3 hh v5 ww kk g1 g2 g3 g4 g5 4 ≤ s) := by
  rintro ⟨x, y⟩
  rw [nr4] at y
  exact h.elim x y
theorem nk_s {j : Nat} (hj : j < kk) (hk : kk ≤ 6) : ¬ nI j < 0 ∧ ¬ nrm v0 v1 v2 v3 hh v5 ww kk g1 g2 g3 g4 g5 4 ≤ nI j := by
  rw [nr4]
  exact sB_ok hj (by omega)
theorem ak_z {fe : RF} {z j : Nat} {x : Int32} (hk : kk ≤ 6) (hj : j < kk) (hx : x = 0 ∨ x = 1) : n_ask (nrm v0 v1 v2 v3 hh v5 ww kk g1 g2 g3 g4 g5) (nI j) x (z, fe) = (akM (nrm v0 v1 v2 v3 hh v5 ww kk g1 g2 g3 g4 g5) j x (0, fe)).2 ∧ a_ask (nrm v0 v1 v2 v3 hh v5 ww kk g1 g2 g3 g4 g5) (nI j) x (z, fe) = (akM (nrm v0 v1 v2 v3 hh v5 ww kk g1 g2 g3 g4 g5) j x (0, fe)).1 := by
  have hc : (nI j).toNatClampNeg = j := nI_clamp (by omega)
  have g : ¬ (¬ (¬ nI j < 0 ∧ ¬ nrm v0 v1 v2 v3 hh v5 ww kk g1 g2 g3 g4 g5 4 ≤ nI j) ∨ ¬ (x = 0 ∨ x = 1)) := fun q => q.elim (fun t => t (nk_s hj hk)) (fun t => t hx)
  unfold n_ask a_ask
  rw [if_neg g, if_neg g, hc]
  exact ⟨rfl, rfl⟩
theorem ak_N1 {fe fn : RF} {z zn j a : Nat} {x : Int32} (hk : kk ≤ 6) (hj : j < kk) (h1 : 1 ≤ a) (h5 : a ≤ 5) (he : g2 j = nI a) (hx : x = 0 ∨ x = 1) (e : (bgX (nI j) a (g3 j) (g4 j) 16 (bfX a x) (0, fe)).2 = (zn, fn)) : zn = (n_ask (nrm v0 v1 v2 v3 hh v5 ww kk g1 g2 g3 g4 g5) (nI j) x (z, fe)).1 := by
  rw [(ak_z hk hj hx).1, ← ask_X hk hj h1 h5 he hx, e]
theorem ak_N2 {fe fn : RF} {z zn j a : Nat} {x : Int32} (hk : kk ≤ 6) (hj : j < kk) (h1 : 1 ≤ a) (h5 : a ≤ 5) (he : g2 j = nI a) (hx : x = 0 ∨ x = 1) (e : (bgX (nI j) a (g3 j) (g4 j) 16 (bfX a x) (0, fe)).2 = (zn, fn)) : fn = (n_ask (nrm v0 v1 v2 v3 hh v5 ww kk g1 g2 g3 g4 g5) (nI j) x (z, fe)).2 := by
  rw [(ak_z hk hj hx).1, ← ask_X hk hj h1 h5 he hx, e]
theorem ak_A {fe : RF} {z j a : Nat} {x r : Int32} (hk : kk ≤ 6) (hj : j < kk) (h1 : 1 ≤ a) (h5 : a ≤ 5) (he : g2 j = nI a) (hx : x = 0 ∨ x = 1) (e : r = (bgX (nI j) a (g3 j) (g4 j) 16 (bfX a x) (0, fe)).1) : r = a_ask (nrm v0 v1 v2 v3 hh v5 ww kk g1 g2 g3 g4 g5) (nI j) x (z, fe) := by
  rw [(ak_z hk hj hx).2, ← ask_X hk hj h1 h5 he hx, e]
theorem as_g1 {s k : Int32} (h : s < 0 ∨ nI kk ≤ s) : ¬ sB (nrm v0 v1 v2 v3 hh v5 ww kk g1 g2 g3 g4 g5 4) s ∨ (k < 0 ∨ 5 < k) := Or.inl (nk_g h)
theorem as_ng {j : Nat} {k : Int32} (hj : j < kk) (hk : kk ≤ 6) (h1 : ¬ k < 0) (h2 : k ≤ 5) : ¬ (¬ sB (nrm v0 v1 v2 v3 hh v5 ww kk g1 g2 g3 g4 g5 4) (nI j) ∨ (k < 0 ∨ 5 < k)) := fun q => q.elim (fun t => t (nk_s hj hk)) (fun t => t.elim h1 (i_nlt.mpr h2))
theorem as_c {j a : Nat} (hj : j < kk) (hk : kk ≤ 6) (he : g2 j = nI a) : nrm v0 v1 v2 v3 hh v5 ww kk g1 g2 g3 g4 g5 (14 + (nI j).toNatClampNeg) = nI a := by
  rw [nI_clamp (by omega), nrg2 hj hk, he]
theorem as_F3 {j a : Nat} {k sg x : Int32} (hj : j < kk) (hk : kk ≤ 6) (h1 : ¬ k < 0) (h2 : k ≤ 5) (he : g2 j = nI a) (hn : ¬ isK (nI a) k) (e : x = 3) : x = f_as (nrm v0 v1 v2 v3 hh v5 ww kk g1 g2 g3 g4 g5) (nI j) k sg := by
  unfold f_as
  rw [if_neg (as_ng hj hk h1 h2), as_c hj hk he, if_neg hn, e]
theorem as_A3 {j a : Nat} {k r : Int32} (hj : j < kk) (hk : kk ≤ 6) (h1 : ¬ k < 0) (h2 : k ≤ 5) (he : g2 j = nI a) (hn : ¬ isK (nI a) k) (e : r = -1000010 - 3) : r = a_as (nrm v0 v1 v2 v3 hh v5 ww kk g1 g2 g3 g4 g5) (nI j) k := by
  unfold a_as
  rw [if_neg (as_ng hj hk h1 h2), as_c hj hk he, if_neg hn]
  exact e.trans (by decide)
theorem as_F0 {j a : Nat} {k sg x : Int32} (hj : j < kk) (hk : kk ≤ 6) (h1 : ¬ k < 0) (h2 : k ≤ 5) (he : g2 j = nI a) (hn : isK (nI a) k) (e : x = 0) : x = f_as (nrm v0 v1 v2 v3 hh v5 ww kk g1 g2 g3 g4 g5) (nI j) k sg := by
  unfold f_as
  rw [if_neg (as_ng hj hk h1 h2), as_c hj hk he, if_pos hn, e]
theorem as_A0 {j a : Nat} {k r : Int32} (hj : j < kk) (hk : kk ≤ 6) (h1 : ¬ k < 0) (h2 : k ≤ 5) (he : g2 j = nI a) (hn : isK (nI a) k) (e : r = nI j) : r = a_as (nrm v0 v1 v2 v3 hh v5 ww kk g1 g2 g3 g4 g5) (nI j) k := by
  unfold a_as
  rw [if_neg (as_ng hj hk h1 h2), as_c hj hk he, if_pos hn, e]
end ENDK
theorem as_f {L : RF} {s k sg : Int32} (g : ¬ sB (L 4) s ∨ (k < 0 ∨ 5 < k)) : sg = f_as L s k sg := (if_pos g).symm
theorem as_a {L : RF} {s k : Int32} (g : ¬ sB (L 4) s ∨ (k < 0 ∨ 5 < k)) : (-1000001 : Int32) = a_as L s k := (if_pos g).symm
theorem as_g2 {L : RF} {s k : Int32} (h : k < 0) : ¬ sB (L 4) s ∨ (k < 0 ∨ 5 < k) := Or.inr (Or.inl h)
theorem as_g3 {L : RF} {s k : Int32} (h : ¬ k ≤ 5) : ¬ sB (L 4) s ∨ (k < 0 ∨ 5 < k) := Or.inr (Or.inr (i_nle.mp h))
/-! caps, what is had -/
noncomputable def a_caps (r : RF) (n k : Int32) : Int32 := if r 0 = 0 then -1000002 else if (n < 1 ∨ 8 < n) ∨ k < -2 then -1000001 else if ¬ k < n then -1000000 else if k = -1 then (trB (-1) n.toNatClampNeg r 0 0 (-1, 0, 0)).1 else if k = -2 then (trB (-1) n.toNatClampNeg r 0 0 (-1, 0, 0)).2.1 else bcX (trB (-1) n.toNatClampNeg r 0 0 (-1, 0, 0)).2.2 n k
noncomputable def a_had (r : RF) (s n : Int32) : Int32 := if r 0 = 0 then -1000002 else if (s < 0 ∨ (1 : Int32) <<< (r 4 &&& 31) ≤ s) ∨ (n < 1 ∨ 8 < n) then -1000001 else if (trB s n.toNatClampNeg r 0 0 (-1, 0, 0)).1 = 0 then -1000000 else (trB s n.toNatClampNeg r 0 0 (-1, 0, 0)).2.1
section CPS
variable {r : RF} {n k s : Int32} {j : Nat} {b : B3}
theorem caps_0 (h : r 0 = 0) : (-1000002 : Int32) = a_caps r n k := by
  unfold a_caps
  rw [if_pos h]
theorem caps_n (h0 : ¬ r 0 = 0) (h : (n < 1 ∨ 8 < n) ∨ k < -2) : (-1000001 : Int32) = a_caps r n k := by
  unfold a_caps
  rw [if_neg h0, if_pos h]
theorem caps_g (h0 : ¬ r 0 = 0) (h1 : ¬ (nI j < 1 ∨ 8 < nI j)) (hj : j < 9) (h2 : ¬ k < -2) (e : trB (-1) j r 0 0 (-1, 0, 0) = b) : a_caps r (nI j) k = if ¬ k < nI j then -1000000 else if k = -1 then b.1 else if k = -2 then b.2.1 else bcX b.2.2 (nI j) k := by
  have e1 : (nI j).toNatClampNeg = j := nI_clamp (by omega)
  unfold a_caps
  rw [if_neg h0, if_neg (fun q => q.elim h1 h2), e1, e]
theorem caps_e (h : a_caps r (nI j) k = if ¬ k < nI j then -1000000 else if k = -1 then b.1 else if k = -2 then b.2.1 else bcX b.2.2 (nI j) k) : (¬ k < nI j → (-1000000 : Int32) = a_caps r (nI j) k) ∧ (k < nI j → k = -1 → b.1 = a_caps r (nI j) k) ∧ (k < nI j → ¬ k = -1 → k = -2 → b.2.1 = a_caps r (nI j) k) ∧ (k < nI j → ¬ k = -1 → ¬ k = -2 → bcX b.2.2 (nI j) k = a_caps r (nI j) k) := by
  rw [h]
  refine ⟨fun q => (if_pos q).symm, fun q q1 => ?_, fun q q1 q2 => ?_, fun q q1 q2 => ?_⟩
  · rw [if_neg (fun z => z q), if_pos q1]
  · rw [if_neg (fun z => z q), if_neg q1, if_pos q2]
  · rw [if_neg (fun z => z q), if_neg q1, if_neg q2]
theorem had_0 (h : r 0 = 0) : (-1000002 : Int32) = a_had r s n := by
  unfold a_had
  rw [if_pos h]
theorem had_n (h0 : ¬ r 0 = 0) (h : (s < 0 ∨ (1 : Int32) <<< (r 4 &&& 31) ≤ s) ∨ (n < 1 ∨ 8 < n)) : (-1000001 : Int32) = a_had r s n := by
  unfold a_had
  rw [if_neg h0, if_pos h]
theorem had_g (h0 : ¬ r 0 = 0) (h1 : ¬ s < 0) (h2 : ¬ (1 : Int32) <<< (r 4 &&& 31) ≤ s) (h3 : ¬ (nI j < 1 ∨ 8 < nI j)) (hj : j < 9) : a_had r s (nI j) = if (trB s j r 0 0 (-1, 0, 0)).1 = 0 then -1000000 else (trB s j r 0 0 (-1, 0, 0)).2.1 := by
  have e1 : (nI j).toNatClampNeg = j := nI_clamp (by omega)
  unfold a_had
  rw [if_neg h0, if_neg (by
    rintro ((q | q) | q)
    · exact h1 q
    · exact h2 q
    · exact h3 q), e1]
theorem had_e {v w x : Int32} (h : a_had r s (nI j) = if (trB s j r 0 0 (-1, 0, 0)).1 = 0 then -1000000 else (trB s j r 0 0 (-1, 0, 0)).2.1) (e : trB s j r 0 0 (-1, 0, 0) = (v, w, x)) : (v = 0 → (-1000000 : Int32) = a_had r s (nI j)) ∧ (¬ v = 0 → w = a_had r s (nI j)) := by
  rw [h, e]
  exact ⟨fun q => (if_pos q).symm, fun q => (if_neg q).symm⟩
end CPS
theorem fr_bad {a b n sg : Int32} (h : (a < 0 ∨ 8 ≤ a) ∨ (b < 0 ∨ 2 < b) ∨ ¬ n ≤ 40) : sg = f_row a b n sg := (if_pos h).symm
theorem fr_ok {j n : Nat} {b sg o : Int32} (hj : j < 8) (hb : ¬ (b < 0 ∨ 2 < b)) (hn : n ≤ 40) (e : o = 0) : o = f_row (nI j) b (nI n) sg := by
  have h := okr_ok hj hb hn
  unfold f_row
  rw [if_neg (by rintro (q | q | q); exact nI_nb hj q; exact hb q; exact q h.2.2.1), if_pos h.2.2.2]
  exact e
theorem fr_neg {j : Nat} {b n sg o : Int32} (hj : j < 8) (hb : ¬ (b < 0 ∨ 2 < b)) (hn : n ≤ 40) (h0 : ¬ 0 ≤ n) (e : o = 4) : o = f_row (nI j) b n sg := by
  unfold f_row
  rw [if_neg (by rintro (q | q | q); exact nI_nb hj q; exact hb q; exact q hn), if_neg h0]
  exact e
theorem an_row_ok {j n : Nat} {b : Int32} (hj : j < 8) (hb : ¬ (b < 0 ∨ 2 < b)) (hn : n ≤ 40) : an_row (nI j) b (nI n) = nI n := by
  have h := okr_ok hj hb hn
  unfold an_row
  rw [if_neg (by rintro (q | q | q); exact nI_nb hj q; exact hb q; exact q h.2.2.1), if_pos h.2.2.2]
theorem an_row_neg {j : Nat} {b n : Int32} (hj : j < 8) (hb : ¬ (b < 0 ∨ 2 < b)) (hn : n ≤ 40) (h0 : ¬ 0 ≤ n) : an_row (nI j) b n = -1000010 - 4 := by
  unfold an_row
  rw [if_neg (by rintro (q | q | q); exact nI_nb hj q; exact hb q; exact q hn), if_neg h0]
  decide
theorem dX4_comesTo_0 : decode cX4_comesTo 0 = .ok (.aload_n 0, 1) := dq_42 (by decide +kernel)
theorem dX4_comesTo_1 : decode cX4_comesTo 1 = .ok (.getfield 10, 3) := dq_180 (b1 := 0) (b2 := 10) (by decide +kernel) (by decide)
theorem dX4_comesTo_10 : decode cX4_comesTo 10 = .ok (.putfield 23, 3) := dq_181 (b1 := 0) (b2 := 23) (by decide +kernel) (by decide)
theorem dX4_comesTo_13 : decode cX4_comesTo 13 = .ok (.aload_n 0, 1) := dq_42 (by decide +kernel)
theorem dX4_comesTo_14 : decode cX4_comesTo 14 = .ok (.iconst 1, 1) := dq_4 (by decide +kernel)
theorem dX4_comesTo_15 : decode cX4_comesTo 15 = .ok (.iload_n 2, 1) := dq_28 (by decide +kernel)
theorem dX4_comesTo_16 : decode cX4_comesTo 16 = .ok (.iconst 4, 1) := dq_7 (by decide +kernel)
theorem dX4_comesTo_17 : decode cX4_comesTo 17 = .ok (.invokestatic 27, 3) := dq_184 (b1 := 0) (b2 := 27) (by decide +kernel) (by decide)
theorem dX4_comesTo_20 : decode cX4_comesTo 20 = .ok (.invokevirtual 33, 3) := dq_182 (b1 := 0) (b2 := 33) (by decide +kernel) (by decide)
theorem dX4_comesTo_23 : decode cX4_comesTo 23 = .ok (.ireturn, 1) := dq_172 (by decide +kernel)
theorem dX4_comesTo_4 : decode cX4_comesTo 4 = .ok (.aload_n 1, 1) := dq_43 (by decide +kernel)
theorem dX4_comesTo_5 : decode cX4_comesTo 5 = .ok (.invokevirtual 19, 3) := dq_182 (b1 := 0) (b2 := 19) (by decide +kernel) (by decide)
theorem dX4_comesTo_8 : decode cX4_comesTo 8 = .ok (.aload_n 0, 1) := dq_42 (by decide +kernel)
theorem dX4_comesTo_9 : decode cX4_comesTo 9 = .ok (.iload_n 3, 1) := dq_29 (by decide +kernel)
theorem dX7_as_0 : decode cX7_as 0 = .ok (.aload_n 0, 1) := dq_42 (by decide +kernel)
theorem dX7_as_1 : decode cX7_as 1 = .ok (.getfield 26, 3) := dq_180 (b1 := 0) (b2 := 26) (by decide +kernel) (by decide)
theorem dX7_as_11 : decode cX7_as 11 = .ok (.iload_n 2, 1) := dq_28 (by decide +kernel)
theorem dX7_as_12 : decode cX7_as 12 = .ok (.ifCond .lt 8, 3) := dq_155 (b1 := 0) (b2 := 8) (by decide +kernel) (by decide)
theorem dX7_as_15 : decode cX7_as 15 = .ok (.iload_n 2, 1) := dq_28 (by decide +kernel)
theorem dX7_as_16 : decode cX7_as 16 = .ok (.iconst 5, 1) := dq_8 (by decide +kernel)
theorem dX7_as_17 : decode cX7_as 17 = .ok (.if_icmp .le 6, 3) := dq_164 (b1 := 0) (b2 := 6) (by decide +kernel) (by decide)
theorem dX7_as_20 : decode cX7_as 20 = .ok (.ldc 72, 2) := dq_18 (b1 := 72) (by decide +kernel) (by decide)
theorem dX7_as_22 : decode cX7_as 22 = .ok (.ireturn, 1) := dq_172 (by decide +kernel)
theorem dX7_as_23 : decode cX7_as 23 = .ok (.aload_n 0, 1) := dq_42 (by decide +kernel)
theorem dX7_as_24 : decode cX7_as 24 = .ok (.getfield 26, 3) := dq_180 (b1 := 0) (b2 := 26) (by decide +kernel) (by decide)
theorem dX7_as_27 : decode cX7_as 27 = .ok (.getfield 301, 3) := dq_180 (b1 := 1) (b2 := 45) (by decide +kernel) (by decide)
theorem dX7_as_30 : decode cX7_as 30 = .ok (.iload_n 1, 1) := dq_27 (by decide +kernel)
theorem dX7_as_31 : decode cX7_as 31 = .ok (.iaload, 1) := dq_46 (by decide +kernel)
theorem dX7_as_32 : decode cX7_as 32 = .ok (.iload_n 2, 1) := dq_28 (by decide +kernel)
theorem dX7_as_33 : decode cX7_as 33 = .ok (.invokestatic 304, 3) := dq_184 (b1 := 1) (b2 := 48) (by decide +kernel) (by decide)
theorem dX7_as_36 : decode cX7_as 36 = .ok (.ifCond .eq 11, 3) := dq_153 (b1 := 0) (b2 := 11) (by decide +kernel) (by decide)
theorem dX7_as_39 : decode cX7_as 39 = .ok (.aload_n 0, 1) := dq_42 (by decide +kernel)
theorem dX7_as_4 : decode cX7_as 4 = .ok (.iload_n 1, 1) := dq_27 (by decide +kernel)
theorem dX7_as_40 : decode cX7_as 40 = .ok (.iload_n 1, 1) := dq_27 (by decide +kernel)
theorem dX7_as_41 : decode cX7_as 41 = .ok (.invokevirtual 81, 3) := dq_182 (b1 := 0) (b2 := 81) (by decide +kernel) (by decide)
theorem dX7_as_44 : decode cX7_as 44 = .ok (.goto 8, 3) := dq_167 (b1 := 0) (b2 := 8) (by decide +kernel) (by decide)
theorem dX7_as_47 : decode cX7_as 47 = .ok (.aload_n 0, 1) := dq_42 (by decide +kernel)
theorem dX7_as_48 : decode cX7_as 48 = .ok (.iconst 3, 1) := dq_6 (by decide +kernel)
theorem dX7_as_49 : decode cX7_as 49 = .ok (.invokevirtual 73, 3) := dq_182 (b1 := 0) (b2 := 73) (by decide +kernel) (by decide)
theorem dX7_as_5 : decode cX7_as 5 = .ok (.invokevirtual 173, 3) := dq_182 (b1 := 0) (b2 := 173) (by decide +kernel) (by decide)
theorem dX7_as_52 : decode cX7_as 52 = .ok (.ireturn, 1) := dq_172 (by decide +kernel)
theorem dX7_as_8 : decode cX7_as 8 = .ok (.ifCond .eq 12, 3) := dq_153 (b1 := 0) (b2 := 12) (by decide +kernel) (by decide)
theorem dX7_ask_0 : decode cX7_ask 0 = .ok (.aload_n 0, 1) := dq_42 (by decide +kernel)
theorem dX7_ask_1 : decode cX7_ask 1 = .ok (.getfield 26, 3) := dq_180 (b1 := 0) (b2 := 26) (by decide +kernel) (by decide)
theorem dX7_ask_11 : decode cX7_ask 11 = .ok (.iload_n 2, 1) := dq_28 (by decide +kernel)
theorem dX7_ask_12 : decode cX7_ask 12 = .ok (.invokestatic 307, 3) := dq_184 (b1 := 1) (b2 := 51) (by decide +kernel) (by decide)
theorem dX7_ask_15 : decode cX7_ask 15 = .ok (.ifCond .ne 6, 3) := dq_154 (b1 := 0) (b2 := 6) (by decide +kernel) (by decide)
theorem dX7_ask_18 : decode cX7_ask 18 = .ok (.ldc 72, 2) := dq_18 (b1 := 72) (by decide +kernel) (by decide)
theorem dX7_ask_20 : decode cX7_ask 20 = .ok (.ireturn, 1) := dq_172 (by decide +kernel)
theorem dX7_ask_21 : decode cX7_ask 21 = .ok (.aload_n 0, 1) := dq_42 (by decide +kernel)
theorem dX7_ask_22 : decode cX7_ask 22 = .ok (.getfield 61, 3) := dq_180 (b1 := 0) (b2 := 61) (by decide +kernel) (by decide)
theorem dX7_ask_25 : decode cX7_ask 25 = .ok (.aload_n 0, 1) := dq_42 (by decide +kernel)
theorem dX7_ask_26 : decode cX7_ask 26 = .ok (.getfield 26, 3) := dq_180 (b1 := 0) (b2 := 26) (by decide +kernel) (by decide)
theorem dX7_ask_29 : decode cX7_ask 29 = .ok (.iload_n 1, 1) := dq_27 (by decide +kernel)
theorem dX7_ask_30 : decode cX7_ask 30 = .ok (.iload_n 2, 1) := dq_28 (by decide +kernel)
theorem dX7_ask_31 : decode cX7_ask 31 = .ok (.invokevirtual 310, 3) := dq_182 (b1 := 1) (b2 := 54) (by decide +kernel) (by decide)
theorem dX7_ask_34 : decode cX7_ask 34 = .ok (.ireturn, 1) := dq_172 (by decide +kernel)
theorem dX7_ask_4 : decode cX7_ask 4 = .ok (.iload_n 1, 1) := dq_27 (by decide +kernel)
theorem dX7_ask_5 : decode cX7_ask 5 = .ok (.invokevirtual 173, 3) := dq_182 (b1 := 0) (b2 := 173) (by decide +kernel) (by decide)
theorem dX7_ask_8 : decode cX7_ask 8 = .ok (.ifCond .eq 10, 3) := dq_153 (b1 := 0) (b2 := 10) (by decide +kernel) (by decide)
theorem dX7_byTurns_0 : decode cX7_byTurns 0 = .ok (.aload_n 0, 1) := dq_42 (by decide +kernel)
theorem dX7_byTurns_1 : decode cX7_byTurns 1 = .ok (.getfield 26, 3) := dq_180 (b1 := 0) (b2 := 26) (by decide +kernel) (by decide)
theorem dX7_byTurns_10 : decode cX7_byTurns 10 = .ok (.ldc 141, 2) := dq_18 (b1 := 141) (by decide +kernel) (by decide)
theorem dX7_byTurns_12 : decode cX7_byTurns 12 = .ok (.ireturn, 1) := dq_172 (by decide +kernel)
theorem dX7_byTurns_13 : decode cX7_byTurns 13 = .ok (.iload_n 1, 1) := dq_27 (by decide +kernel)
theorem dX7_byTurns_14 : decode cX7_byTurns 14 = .ok (.ifCond .lt 19, 3) := dq_155 (b1 := 0) (b2 := 19) (by decide +kernel) (by decide)
theorem dX7_byTurns_17 : decode cX7_byTurns 17 = .ok (.iload_n 1, 1) := dq_27 (by decide +kernel)
theorem dX7_byTurns_18 : decode cX7_byTurns 18 = .ok (.iconst 4, 1) := dq_7 (by decide +kernel)
theorem dX7_byTurns_19 : decode cX7_byTurns 19 = .ok (.if_icmp .gt 14, 3) := dq_163 (b1 := 0) (b2 := 14) (by decide +kernel) (by decide)
theorem dX7_byTurns_22 : decode cX7_byTurns 22 = .ok (.iload_n 2, 1) := dq_28 (by decide +kernel)
theorem dX7_byTurns_23 : decode cX7_byTurns 23 = .ok (.iconst 1, 1) := dq_4 (by decide +kernel)
theorem dX7_byTurns_24 : decode cX7_byTurns 24 = .ok (.if_icmp .lt 9, 3) := dq_161 (b1 := 0) (b2 := 9) (by decide +kernel) (by decide)
theorem dX7_byTurns_27 : decode cX7_byTurns 27 = .ok (.iload_n 2, 1) := dq_28 (by decide +kernel)
theorem dX7_byTurns_28 : decode cX7_byTurns 28 = .ok (.bipush 20, 2) := dq_16 (b1 := 20) (by decide +kernel) (by decide)
theorem dX7_byTurns_30 : decode cX7_byTurns 30 = .ok (.if_icmp .le 6, 3) := dq_164 (b1 := 0) (b2 := 6) (by decide +kernel) (by decide)
theorem dX7_byTurns_33 : decode cX7_byTurns 33 = .ok (.ldc 72, 2) := dq_18 (b1 := 72) (by decide +kernel) (by decide)
theorem dX7_byTurns_35 : decode cX7_byTurns 35 = .ok (.ireturn, 1) := dq_172 (by decide +kernel)
theorem dX7_byTurns_36 : decode cX7_byTurns 36 = .ok (.aload_n 0, 1) := dq_42 (by decide +kernel)
theorem dX7_byTurns_37 : decode cX7_byTurns 37 = .ok (.getfield 47, 3) := dq_180 (b1 := 0) (b2 := 47) (by decide +kernel) (by decide)
theorem dX7_byTurns_4 : decode cX7_byTurns 4 = .ok (.invokevirtual 145, 3) := dq_182 (b1 := 0) (b2 := 145) (by decide +kernel) (by decide)
theorem dX7_byTurns_40 : decode cX7_byTurns 40 = .ok (.aload_n 0, 1) := dq_42 (by decide +kernel)
theorem dX7_byTurns_41 : decode cX7_byTurns 41 = .ok (.getfield 26, 3) := dq_180 (b1 := 0) (b2 := 26) (by decide +kernel) (by decide)
theorem dX7_byTurns_44 : decode cX7_byTurns 44 = .ok (.iload_n 1, 1) := dq_27 (by decide +kernel)
theorem dX7_byTurns_45 : decode cX7_byTurns 45 = .ok (.iload_n 2, 1) := dq_28 (by decide +kernel)
theorem dX7_byTurns_46 : decode cX7_byTurns 46 = .ok (.invokevirtual 243, 3) := dq_182 (b1 := 0) (b2 := 243) (by decide +kernel) (by decide)
theorem dX7_byTurns_49 : decode cX7_byTurns 49 = .ok (.ireturn, 1) := dq_172 (by decide +kernel)
theorem dX7_byTurns_7 : decode cX7_byTurns 7 = .ok (.ifCond .ne 6, 3) := dq_154 (b1 := 0) (b2 := 6) (by decide +kernel) (by decide)
theorem dX7_caps_0 : decode cX7_caps 0 = .ok (.aload_n 0, 1) := dq_42 (by decide +kernel)
theorem dX7_caps_1 : decode cX7_caps 1 = .ok (.getfield 26, 3) := dq_180 (b1 := 0) (b2 := 26) (by decide +kernel) (by decide)
theorem dX7_caps_10 : decode cX7_caps 10 = .ok (.ldc 141, 2) := dq_18 (b1 := 141) (by decide +kernel) (by decide)
theorem dX7_caps_12 : decode cX7_caps 12 = .ok (.ireturn, 1) := dq_172 (by decide +kernel)
theorem dX7_caps_13 : decode cX7_caps 13 = .ok (.iload_n 1, 1) := dq_27 (by decide +kernel)
theorem dX7_caps_14 : decode cX7_caps 14 = .ok (.invokestatic 221, 3) := dq_184 (b1 := 0) (b2 := 221) (by decide +kernel) (by decide)
theorem dX7_caps_17 : decode cX7_caps 17 = .ok (.ifCond .eq 9, 3) := dq_153 (b1 := 0) (b2 := 9) (by decide +kernel) (by decide)
theorem dX7_caps_20 : decode cX7_caps 20 = .ok (.iload_n 2, 1) := dq_28 (by decide +kernel)
theorem dX7_caps_21 : decode cX7_caps 21 = .ok (.bipush (-2), 2) := dq_16 (b1 := 254) (by decide +kernel) (by decide)
theorem dX7_caps_23 : decode cX7_caps 23 = .ok (.if_icmp .ge 6, 3) := dq_162 (b1 := 0) (b2 := 6) (by decide +kernel) (by decide)
theorem dX7_caps_26 : decode cX7_caps 26 = .ok (.ldc 72, 2) := dq_18 (b1 := 72) (by decide +kernel) (by decide)
theorem dX7_caps_28 : decode cX7_caps 28 = .ok (.ireturn, 1) := dq_172 (by decide +kernel)
theorem dX7_caps_29 : decode cX7_caps 29 = .ok (.iload_n 2, 1) := dq_28 (by decide +kernel)
theorem dX7_caps_30 : decode cX7_caps 30 = .ok (.iload_n 1, 1) := dq_27 (by decide +kernel)
theorem dX7_caps_31 : decode cX7_caps 31 = .ok (.if_icmp .lt 6, 3) := dq_161 (b1 := 0) (b2 := 6) (by decide +kernel) (by decide)
theorem dX7_caps_34 : decode cX7_caps 34 = .ok (.ldc 220, 2) := dq_18 (b1 := 220) (by decide +kernel) (by decide)
theorem dX7_caps_36 : decode cX7_caps 36 = .ok (.ireturn, 1) := dq_172 (by decide +kernel)
theorem dX7_caps_37 : decode cX7_caps 37 = .ok (.aload_n 0, 1) := dq_42 (by decide +kernel)
theorem dX7_caps_38 : decode cX7_caps 38 = .ok (.getfield 54, 3) := dq_180 (b1 := 0) (b2 := 54) (by decide +kernel) (by decide)
theorem dX7_caps_4 : decode cX7_caps 4 = .ok (.invokevirtual 145, 3) := dq_182 (b1 := 0) (b2 := 145) (by decide +kernel) (by decide)
theorem dX7_caps_41 : decode cX7_caps 41 = .ok (.aload_n 0, 1) := dq_42 (by decide +kernel)
theorem dX7_caps_42 : decode cX7_caps 42 = .ok (.getfield 26, 3) := dq_180 (b1 := 0) (b2 := 26) (by decide +kernel) (by decide)
theorem dX7_caps_45 : decode cX7_caps 45 = .ok (.iload_n 1, 1) := dq_27 (by decide +kernel)
theorem dX7_caps_46 : decode cX7_caps 46 = .ok (.iconst (-1), 1) := dq_2 (by decide +kernel)
theorem dX7_caps_47 : decode cX7_caps 47 = .ok (.invokevirtual 224, 3) := dq_182 (b1 := 0) (b2 := 224) (by decide +kernel) (by decide)
theorem dX7_caps_50 : decode cX7_caps 50 = .ok (.iload_n 2, 1) := dq_28 (by decide +kernel)
theorem dX7_caps_51 : decode cX7_caps 51 = .ok (.iconst (-1), 1) := dq_2 (by decide +kernel)
theorem dX7_caps_52 : decode cX7_caps 52 = .ok (.if_icmp .ne 11, 3) := dq_160 (b1 := 0) (b2 := 11) (by decide +kernel) (by decide)
theorem dX7_caps_55 : decode cX7_caps 55 = .ok (.aload_n 0, 1) := dq_42 (by decide +kernel)
theorem dX7_caps_56 : decode cX7_caps 56 = .ok (.getfield 54, 3) := dq_180 (b1 := 0) (b2 := 54) (by decide +kernel) (by decide)
theorem dX7_caps_59 : decode cX7_caps 59 = .ok (.getfield 228, 3) := dq_180 (b1 := 0) (b2 := 228) (by decide +kernel) (by decide)
theorem dX7_caps_62 : decode cX7_caps 62 = .ok (.ireturn, 1) := dq_172 (by decide +kernel)
theorem dX7_caps_63 : decode cX7_caps 63 = .ok (.iload_n 2, 1) := dq_28 (by decide +kernel)
theorem dX7_caps_64 : decode cX7_caps 64 = .ok (.bipush (-2), 2) := dq_16 (b1 := 254) (by decide +kernel) (by decide)
theorem dX7_caps_66 : decode cX7_caps 66 = .ok (.if_icmp .ne 13, 3) := dq_160 (b1 := 0) (b2 := 13) (by decide +kernel) (by decide)
theorem dX7_caps_69 : decode cX7_caps 69 = .ok (.aload_n 0, 1) := dq_42 (by decide +kernel)
theorem dX7_caps_7 : decode cX7_caps 7 = .ok (.ifCond .ne 6, 3) := dq_154 (b1 := 0) (b2 := 6) (by decide +kernel) (by decide)
theorem dX7_caps_70 : decode cX7_caps 70 = .ok (.getfield 54, 3) := dq_180 (b1 := 0) (b2 := 54) (by decide +kernel) (by decide)
theorem dX7_caps_73 : decode cX7_caps 73 = .ok (.getfield 231, 3) := dq_180 (b1 := 0) (b2 := 231) (by decide +kernel) (by decide)
theorem dX7_caps_76 : decode cX7_caps 76 = .ok (.goto 11, 3) := dq_167 (b1 := 0) (b2 := 11) (by decide +kernel) (by decide)
theorem dX7_caps_79 : decode cX7_caps 79 = .ok (.aload_n 0, 1) := dq_42 (by decide +kernel)
theorem dX7_caps_80 : decode cX7_caps 80 = .ok (.getfield 54, 3) := dq_180 (b1 := 0) (b2 := 54) (by decide +kernel) (by decide)
theorem dX7_caps_83 : decode cX7_caps 83 = .ok (.iload_n 2, 1) := dq_28 (by decide +kernel)
theorem dX7_caps_84 : decode cX7_caps 84 = .ok (.invokevirtual 234, 3) := dq_182 (b1 := 0) (b2 := 234) (by decide +kernel) (by decide)
theorem dX7_caps_87 : decode cX7_caps 87 = .ok (.ireturn, 1) := dq_172 (by decide +kernel)
theorem dX7_copy_0 : decode cX7_copy 0 = .ok (.iload_n 1, 1) := dq_27 (by decide +kernel)
theorem dX7_copy_1 : decode cX7_copy 1 = .ok (.invokestatic 65, 3) := dq_184 (b1 := 0) (b2 := 65) (by decide +kernel) (by decide)
theorem dX7_copy_11 : decode cX7_copy 11 = .ok (.ifCond .ne 6, 3) := dq_154 (b1 := 0) (b2 := 6) (by decide +kernel) (by decide)
theorem dX7_copy_14 : decode cX7_copy 14 = .ok (.ldc 72, 2) := dq_18 (b1 := 72) (by decide +kernel) (by decide)
theorem dX7_copy_16 : decode cX7_copy 16 = .ok (.ireturn, 1) := dq_172 (by decide +kernel)
theorem dX7_copy_17 : decode cX7_copy 17 = .ok (.aload_n 0, 1) := dq_42 (by decide +kernel)
theorem dX7_copy_18 : decode cX7_copy 18 = .ok (.getfield 10, 3) := dq_180 (b1 := 0) (b2 := 10) (by decide +kernel) (by decide)
theorem dX7_copy_21 : decode cX7_copy 21 = .ok (.iload_n 1, 1) := dq_27 (by decide +kernel)
theorem dX7_copy_22 : decode cX7_copy 22 = .ok (.iload_n 2, 1) := dq_28 (by decide +kernel)
theorem dX7_copy_23 : decode cX7_copy 23 = .ok (.iload_n 3, 1) := dq_29 (by decide +kernel)
theorem dX7_copy_24 : decode cX7_copy 24 = .ok (.iload 4, 2) := dq_21 (b1 := 4) (by decide +kernel) (by decide)
theorem dX7_copy_26 : decode cX7_copy 26 = .ok (.iload 5, 2) := dq_21 (b1 := 5) (by decide +kernel) (by decide)
theorem dX7_copy_28 : decode cX7_copy 28 = .ok (.invokevirtual 91, 3) := dq_182 (b1 := 0) (b2 := 91) (by decide +kernel) (by decide)
theorem dX7_copy_31 : decode cX7_copy 31 = .ok (.istore 6, 2) := dq_54 (b1 := 6) (by decide +kernel) (by decide)
theorem dX7_copy_33 : decode cX7_copy 33 = .ok (.iload 6, 2) := dq_21 (b1 := 6) (by decide +kernel) (by decide)
theorem dX7_copy_35 : decode cX7_copy 35 = .ok (.ifCond .eq 10, 3) := dq_153 (b1 := 0) (b2 := 10) (by decide +kernel) (by decide)
theorem dX7_copy_38 : decode cX7_copy 38 = .ok (.aload_n 0, 1) := dq_42 (by decide +kernel)
theorem dX7_copy_39 : decode cX7_copy 39 = .ok (.iload 6, 2) := dq_21 (b1 := 6) (by decide +kernel) (by decide)
theorem dX7_copy_4 : decode cX7_copy 4 = .ok (.ifCond .eq 10, 3) := dq_153 (b1 := 0) (b2 := 10) (by decide +kernel) (by decide)
theorem dX7_copy_41 : decode cX7_copy 41 = .ok (.invokevirtual 73, 3) := dq_182 (b1 := 0) (b2 := 73) (by decide +kernel) (by decide)
theorem dX7_copy_44 : decode cX7_copy 44 = .ok (.ireturn, 1) := dq_172 (by decide +kernel)
theorem dX7_copy_45 : decode cX7_copy 45 = .ok (.aload_n 0, 1) := dq_42 (by decide +kernel)
theorem dX7_copy_46 : decode cX7_copy 46 = .ok (.getfield 10, 3) := dq_180 (b1 := 0) (b2 := 10) (by decide +kernel) (by decide)
theorem dX7_copy_49 : decode cX7_copy 49 = .ok (.iload_n 1, 1) := dq_27 (by decide +kernel)
theorem dX7_copy_50 : decode cX7_copy 50 = .ok (.iload_n 2, 1) := dq_28 (by decide +kernel)
theorem dX7_copy_51 : decode cX7_copy 51 = .ok (.iload_n 3, 1) := dq_29 (by decide +kernel)
theorem dX7_copy_52 : decode cX7_copy 52 = .ok (.iload 4, 2) := dq_21 (b1 := 4) (by decide +kernel) (by decide)
theorem dX7_copy_54 : decode cX7_copy 54 = .ok (.iload 5, 2) := dq_21 (b1 := 5) (by decide +kernel) (by decide)
theorem dX7_copy_56 : decode cX7_copy 56 = .ok (.invokevirtual 95, 3) := dq_182 (b1 := 0) (b2 := 95) (by decide +kernel) (by decide)
theorem dX7_copy_59 : decode cX7_copy 59 = .ok (.aload_n 0, 1) := dq_42 (by decide +kernel)
theorem dX7_copy_60 : decode cX7_copy 60 = .ok (.iload 5, 2) := dq_21 (b1 := 5) (by decide +kernel) (by decide)
theorem dX7_copy_62 : decode cX7_copy 62 = .ok (.invokevirtual 81, 3) := dq_182 (b1 := 0) (b2 := 81) (by decide +kernel) (by decide)
theorem dX7_copy_65 : decode cX7_copy 65 = .ok (.ireturn, 1) := dq_172 (by decide +kernel)
theorem dX7_copy_7 : decode cX7_copy 7 = .ok (.iload_n 3, 1) := dq_29 (by decide +kernel)
theorem dX7_copy_8 : decode cX7_copy 8 = .ok (.invokestatic 65, 3) := dq_184 (b1 := 0) (b2 := 65) (by decide +kernel) (by decide)
theorem dX7_drop_0 : decode cX7_drop 0 = .ok (.iload_n 1, 1) := dq_27 (by decide +kernel)
theorem dX7_drop_1 : decode cX7_drop 1 = .ok (.invokestatic 65, 3) := dq_184 (b1 := 0) (b2 := 65) (by decide +kernel) (by decide)
theorem dX7_drop_10 : decode cX7_drop 10 = .ok (.aload_n 0, 1) := dq_42 (by decide +kernel)
theorem dX7_drop_11 : decode cX7_drop 11 = .ok (.getfield 10, 3) := dq_180 (b1 := 0) (b2 := 10) (by decide +kernel) (by decide)
theorem dX7_drop_14 : decode cX7_drop 14 = .ok (.iload_n 1, 1) := dq_27 (by decide +kernel)
theorem dX7_drop_15 : decode cX7_drop 15 = .ok (.invokevirtual 99, 3) := dq_182 (b1 := 0) (b2 := 99) (by decide +kernel) (by decide)
theorem dX7_drop_18 : decode cX7_drop 18 = .ok (.ifCond .eq 9, 3) := dq_153 (b1 := 0) (b2 := 9) (by decide +kernel) (by decide)
theorem dX7_drop_21 : decode cX7_drop 21 = .ok (.aload_n 0, 1) := dq_42 (by decide +kernel)
theorem dX7_drop_22 : decode cX7_drop 22 = .ok (.iconst 1, 1) := dq_4 (by decide +kernel)
theorem dX7_drop_23 : decode cX7_drop 23 = .ok (.invokevirtual 73, 3) := dq_182 (b1 := 0) (b2 := 73) (by decide +kernel) (by decide)
theorem dX7_drop_26 : decode cX7_drop 26 = .ok (.ireturn, 1) := dq_172 (by decide +kernel)
theorem dX7_drop_27 : decode cX7_drop 27 = .ok (.aload_n 0, 1) := dq_42 (by decide +kernel)
theorem dX7_drop_28 : decode cX7_drop 28 = .ok (.aload_n 0, 1) := dq_42 (by decide +kernel)
theorem dX7_drop_29 : decode cX7_drop 29 = .ok (.getfield 10, 3) := dq_180 (b1 := 0) (b2 := 10) (by decide +kernel) (by decide)
theorem dX7_drop_32 : decode cX7_drop 32 = .ok (.iload_n 1, 1) := dq_27 (by decide +kernel)
theorem dX7_drop_33 : decode cX7_drop 33 = .ok (.invokevirtual 102, 3) := dq_182 (b1 := 0) (b2 := 102) (by decide +kernel) (by decide)
theorem dX7_drop_36 : decode cX7_drop 36 = .ok (.invokevirtual 81, 3) := dq_182 (b1 := 0) (b2 := 81) (by decide +kernel) (by decide)
theorem dX7_drop_39 : decode cX7_drop 39 = .ok (.ireturn, 1) := dq_172 (by decide +kernel)
theorem dX7_drop_4 : decode cX7_drop 4 = .ok (.ifCond .ne 6, 3) := dq_154 (b1 := 0) (b2 := 6) (by decide +kernel) (by decide)
theorem dX7_drop_7 : decode cX7_drop 7 = .ok (.ldc 72, 2) := dq_18 (b1 := 72) (by decide +kernel) (by decide)
theorem dX7_drop_9 : decode cX7_drop 9 = .ok (.ireturn, 1) := dq_172 (by decide +kernel)
theorem dX7_feed_0 : decode cX7_feed 0 = .ok (.iload_n 1, 1) := dq_27 (by decide +kernel)
theorem dX7_feed_1 : decode cX7_feed 1 = .ok (.ifCond .lt 10, 3) := dq_155 (b1 := 0) (b2 := 10) (by decide +kernel) (by decide)
theorem dX7_feed_11 : decode cX7_feed 11 = .ok (.ldc 72, 2) := dq_18 (b1 := 72) (by decide +kernel) (by decide)
theorem dX7_feed_13 : decode cX7_feed 13 = .ok (.ireturn, 1) := dq_172 (by decide +kernel)
theorem dX7_feed_14 : decode cX7_feed 14 = .ok (.aload_n 0, 1) := dq_42 (by decide +kernel)
theorem dX7_feed_15 : decode cX7_feed 15 = .ok (.getfield 19, 3) := dq_180 (b1 := 0) (b2 := 19) (by decide +kernel) (by decide)
theorem dX7_feed_18 : decode cX7_feed 18 = .ok (.invokevirtual 105, 3) := dq_182 (b1 := 0) (b2 := 105) (by decide +kernel) (by decide)
theorem dX7_feed_21 : decode cX7_feed 21 = .ok (.ifCond .eq 6, 3) := dq_153 (b1 := 0) (b2 := 6) (by decide +kernel) (by decide)
theorem dX7_feed_24 : decode cX7_feed 24 = .ok (.ldc 109, 2) := dq_18 (b1 := 109) (by decide +kernel) (by decide)
theorem dX7_feed_26 : decode cX7_feed 26 = .ok (.ireturn, 1) := dq_172 (by decide +kernel)
theorem dX7_feed_27 : decode cX7_feed 27 = .ok (.aload_n 0, 1) := dq_42 (by decide +kernel)
theorem dX7_feed_28 : decode cX7_feed 28 = .ok (.getfield 19, 3) := dq_180 (b1 := 0) (b2 := 19) (by decide +kernel) (by decide)
theorem dX7_feed_31 : decode cX7_feed 31 = .ok (.iload_n 1, 1) := dq_27 (by decide +kernel)
theorem dX7_feed_32 : decode cX7_feed 32 = .ok (.invokevirtual 110, 3) := dq_182 (b1 := 0) (b2 := 110) (by decide +kernel) (by decide)
theorem dX7_feed_35 : decode cX7_feed 35 = .ok (.ireturn, 1) := dq_172 (by decide +kernel)
theorem dX7_feed_4 : decode cX7_feed 4 = .ok (.iload_n 1, 1) := dq_27 (by decide +kernel)
theorem dX7_feed_5 : decode cX7_feed 5 = .ok (.sipush 255, 3) := dq_17 (b1 := 0) (b2 := 255) (by decide +kernel) (by decide)
theorem dX7_feed_8 : decode cX7_feed 8 = .ok (.if_icmp .le 6, 3) := dq_164 (b1 := 0) (b2 := 6) (by decide +kernel) (by decide)
theorem dX7_had_0 : decode cX7_had 0 = .ok (.aload_n 0, 1) := dq_42 (by decide +kernel)
theorem dX7_had_1 : decode cX7_had 1 = .ok (.getfield 26, 3) := dq_180 (b1 := 0) (b2 := 26) (by decide +kernel) (by decide)
theorem dX7_had_10 : decode cX7_had 10 = .ok (.ldc 141, 2) := dq_18 (b1 := 141) (by decide +kernel) (by decide)
theorem dX7_had_12 : decode cX7_had 12 = .ok (.ireturn, 1) := dq_172 (by decide +kernel)
theorem dX7_had_13 : decode cX7_had 13 = .ok (.iload_n 1, 1) := dq_27 (by decide +kernel)
theorem dX7_had_14 : decode cX7_had 14 = .ok (.ifCond .lt 23, 3) := dq_155 (b1 := 0) (b2 := 23) (by decide +kernel) (by decide)
theorem dX7_had_17 : decode cX7_had 17 = .ok (.iload_n 1, 1) := dq_27 (by decide +kernel)
theorem dX7_had_18 : decode cX7_had 18 = .ok (.iconst 1, 1) := dq_4 (by decide +kernel)
theorem dX7_had_19 : decode cX7_had 19 = .ok (.aload_n 0, 1) := dq_42 (by decide +kernel)
theorem dX7_had_20 : decode cX7_had 20 = .ok (.getfield 26, 3) := dq_180 (b1 := 0) (b2 := 26) (by decide +kernel) (by decide)
theorem dX7_had_23 : decode cX7_had 23 = .ok (.getfield 135, 3) := dq_180 (b1 := 0) (b2 := 135) (by decide +kernel) (by decide)
theorem dX7_had_26 : decode cX7_had 26 = .ok (.ishl, 1) := dq_120 (by decide +kernel)
theorem dX7_had_27 : decode cX7_had 27 = .ok (.if_icmp .ge 10, 3) := dq_162 (b1 := 0) (b2 := 10) (by decide +kernel) (by decide)
theorem dX7_had_30 : decode cX7_had 30 = .ok (.iload_n 2, 1) := dq_28 (by decide +kernel)
theorem dX7_had_31 : decode cX7_had 31 = .ok (.invokestatic 221, 3) := dq_184 (b1 := 0) (b2 := 221) (by decide +kernel) (by decide)
theorem dX7_had_34 : decode cX7_had 34 = .ok (.ifCond .ne 6, 3) := dq_154 (b1 := 0) (b2 := 6) (by decide +kernel) (by decide)
theorem dX7_had_37 : decode cX7_had 37 = .ok (.ldc 72, 2) := dq_18 (b1 := 72) (by decide +kernel) (by decide)
theorem dX7_had_39 : decode cX7_had 39 = .ok (.ireturn, 1) := dq_172 (by decide +kernel)
theorem dX7_had_4 : decode cX7_had 4 = .ok (.invokevirtual 145, 3) := dq_182 (b1 := 0) (b2 := 145) (by decide +kernel) (by decide)
theorem dX7_had_40 : decode cX7_had 40 = .ok (.aload_n 0, 1) := dq_42 (by decide +kernel)
theorem dX7_had_41 : decode cX7_had 41 = .ok (.getfield 54, 3) := dq_180 (b1 := 0) (b2 := 54) (by decide +kernel) (by decide)
theorem dX7_had_44 : decode cX7_had 44 = .ok (.aload_n 0, 1) := dq_42 (by decide +kernel)
theorem dX7_had_45 : decode cX7_had 45 = .ok (.getfield 26, 3) := dq_180 (b1 := 0) (b2 := 26) (by decide +kernel) (by decide)
theorem dX7_had_48 : decode cX7_had 48 = .ok (.iload_n 2, 1) := dq_28 (by decide +kernel)
theorem dX7_had_49 : decode cX7_had 49 = .ok (.iload_n 1, 1) := dq_27 (by decide +kernel)
theorem dX7_had_50 : decode cX7_had 50 = .ok (.invokevirtual 224, 3) := dq_182 (b1 := 0) (b2 := 224) (by decide +kernel) (by decide)
theorem dX7_had_53 : decode cX7_had 53 = .ok (.aload_n 0, 1) := dq_42 (by decide +kernel)
theorem dX7_had_54 : decode cX7_had 54 = .ok (.getfield 54, 3) := dq_180 (b1 := 0) (b2 := 54) (by decide +kernel) (by decide)
theorem dX7_had_57 : decode cX7_had 57 = .ok (.getfield 228, 3) := dq_180 (b1 := 0) (b2 := 228) (by decide +kernel) (by decide)
theorem dX7_had_60 : decode cX7_had 60 = .ok (.ifCond .ne 8, 3) := dq_154 (b1 := 0) (b2 := 8) (by decide +kernel) (by decide)
theorem dX7_had_63 : decode cX7_had 63 = .ok (.ldc 220, 2) := dq_18 (b1 := 220) (by decide +kernel) (by decide)
theorem dX7_had_65 : decode cX7_had 65 = .ok (.goto 10, 3) := dq_167 (b1 := 0) (b2 := 10) (by decide +kernel) (by decide)
theorem dX7_had_68 : decode cX7_had 68 = .ok (.aload_n 0, 1) := dq_42 (by decide +kernel)
theorem dX7_had_69 : decode cX7_had 69 = .ok (.getfield 54, 3) := dq_180 (b1 := 0) (b2 := 54) (by decide +kernel) (by decide)
theorem dX7_had_7 : decode cX7_had 7 = .ok (.ifCond .ne 6, 3) := dq_154 (b1 := 0) (b2 := 6) (by decide +kernel) (by decide)
theorem dX7_had_72 : decode cX7_had 72 = .ok (.getfield 231, 3) := dq_180 (b1 := 0) (b2 := 231) (by decide +kernel) (by decide)
theorem dX7_had_75 : decode cX7_had 75 = .ok (.ireturn, 1) := dq_172 (by decide +kernel)
theorem dX7_level_0 : decode cX7_level 0 = .ok (.aload_n 0, 1) := dq_42 (by decide +kernel)
theorem dX7_level_1 : decode cX7_level 1 = .ok (.getfield 19, 3) := dq_180 (b1 := 0) (b2 := 19) (by decide +kernel) (by decide)
theorem dX7_level_12 : decode cX7_level 12 = .ok (.aload_n 0, 1) := dq_42 (by decide +kernel)
theorem dX7_level_13 : decode cX7_level 13 = .ok (.iload_n 1, 1) := dq_27 (by decide +kernel)
theorem dX7_level_14 : decode cX7_level 14 = .ok (.putfield 117, 3) := dq_181 (b1 := 0) (b2 := 117) (by decide +kernel) (by decide)
theorem dX7_level_17 : decode cX7_level 17 = .ok (.ldc 121, 2) := dq_18 (b1 := 121) (by decide +kernel) (by decide)
theorem dX7_level_19 : decode cX7_level 19 = .ok (.aload_n 0, 1) := dq_42 (by decide +kernel)
theorem dX7_level_20 : decode cX7_level 20 = .ok (.getfield 19, 3) := dq_180 (b1 := 0) (b2 := 19) (by decide +kernel) (by decide)
theorem dX7_level_23 : decode cX7_level 23 = .ok (.getfield 122, 3) := dq_180 (b1 := 0) (b2 := 122) (by decide +kernel) (by decide)
theorem dX7_level_26 : decode cX7_level 26 = .ok (.isub, 1) := dq_100 (by decide +kernel)
theorem dX7_level_27 : decode cX7_level 27 = .ok (.ireturn, 1) := dq_172 (by decide +kernel)
theorem dX7_level_28 : decode cX7_level 28 = .ok (.aload_n 0, 1) := dq_42 (by decide +kernel)
theorem dX7_level_29 : decode cX7_level 29 = .ok (.getfield 26, 3) := dq_180 (b1 := 0) (b2 := 26) (by decide +kernel) (by decide)
theorem dX7_level_32 : decode cX7_level 32 = .ok (.aload_n 0, 1) := dq_42 (by decide +kernel)
theorem dX7_level_33 : decode cX7_level 33 = .ok (.getfield 19, 3) := dq_180 (b1 := 0) (b2 := 19) (by decide +kernel) (by decide)
theorem dX7_level_36 : decode cX7_level 36 = .ok (.getfield 125, 3) := dq_180 (b1 := 0) (b2 := 125) (by decide +kernel) (by decide)
theorem dX7_level_39 : decode cX7_level 39 = .ok (.invokevirtual 128, 3) := dq_182 (b1 := 0) (b2 := 128) (by decide +kernel) (by decide)
theorem dX7_level_4 : decode cX7_level 4 = .ok (.invokevirtual 113, 3) := dq_182 (b1 := 0) (b2 := 113) (by decide +kernel) (by decide)
theorem dX7_level_42 : decode cX7_level 42 = .ok (.aload_n 0, 1) := dq_42 (by decide +kernel)
theorem dX7_level_43 : decode cX7_level 43 = .ok (.getfield 33, 3) := dq_180 (b1 := 0) (b2 := 33) (by decide +kernel) (by decide)
theorem dX7_level_46 : decode cX7_level 46 = .ok (.invokevirtual 132, 3) := dq_182 (b1 := 0) (b2 := 132) (by decide +kernel) (by decide)
theorem dX7_level_49 : decode cX7_level 49 = .ok (.aload_n 0, 1) := dq_42 (by decide +kernel)
theorem dX7_level_50 : decode cX7_level 50 = .ok (.getfield 26, 3) := dq_180 (b1 := 0) (b2 := 26) (by decide +kernel) (by decide)
theorem dX7_level_53 : decode cX7_level 53 = .ok (.getfield 135, 3) := dq_180 (b1 := 0) (b2 := 135) (by decide +kernel) (by decide)
theorem dX7_level_56 : decode cX7_level 56 = .ok (.ireturn, 1) := dq_172 (by decide +kernel)
theorem dX7_level_7 : decode cX7_level 7 = .ok (.istore_n 1, 1) := dq_60 (by decide +kernel)
theorem dX7_level_8 : decode cX7_level 8 = .ok (.iload_n 1, 1) := dq_27 (by decide +kernel)
theorem dX7_level_9 : decode cX7_level 9 = .ok (.ifCond .eq 19, 3) := dq_153 (b1 := 0) (b2 := 19) (by decide +kernel) (by decide)
theorem dX7_row_0 : decode cX7_row 0 = .ok (.iload_n 1, 1) := dq_27 (by decide +kernel)
theorem dX7_row_1 : decode cX7_row 1 = .ok (.invokestatic 65, 3) := dq_184 (b1 := 0) (b2 := 65) (by decide +kernel) (by decide)
theorem dX7_row_11 : decode cX7_row 11 = .ok (.ifCond .eq 9, 3) := dq_153 (b1 := 0) (b2 := 9) (by decide +kernel) (by decide)
theorem dX7_row_14 : decode cX7_row 14 = .ok (.iload_n 3, 1) := dq_29 (by decide +kernel)
theorem dX7_row_15 : decode cX7_row 15 = .ok (.bipush 40, 2) := dq_16 (b1 := 40) (by decide +kernel) (by decide)
theorem dX7_row_17 : decode cX7_row 17 = .ok (.if_icmp .le 6, 3) := dq_164 (b1 := 0) (b2 := 6) (by decide +kernel) (by decide)
theorem dX7_row_20 : decode cX7_row 20 = .ok (.ldc 72, 2) := dq_18 (b1 := 72) (by decide +kernel) (by decide)
theorem dX7_row_22 : decode cX7_row 22 = .ok (.ireturn, 1) := dq_172 (by decide +kernel)
theorem dX7_row_23 : decode cX7_row 23 = .ok (.iload_n 3, 1) := dq_29 (by decide +kernel)
theorem dX7_row_24 : decode cX7_row 24 = .ok (.ifCond .ge 9, 3) := dq_156 (b1 := 0) (b2 := 9) (by decide +kernel) (by decide)
theorem dX7_row_27 : decode cX7_row 27 = .ok (.aload_n 0, 1) := dq_42 (by decide +kernel)
theorem dX7_row_28 : decode cX7_row 28 = .ok (.iconst 4, 1) := dq_7 (by decide +kernel)
theorem dX7_row_29 : decode cX7_row 29 = .ok (.invokevirtual 73, 3) := dq_182 (b1 := 0) (b2 := 73) (by decide +kernel) (by decide)
theorem dX7_row_32 : decode cX7_row 32 = .ok (.ireturn, 1) := dq_172 (by decide +kernel)
theorem dX7_row_33 : decode cX7_row 33 = .ok (.aload_n 0, 1) := dq_42 (by decide +kernel)
theorem dX7_row_34 : decode cX7_row 34 = .ok (.getfield 10, 3) := dq_180 (b1 := 0) (b2 := 10) (by decide +kernel) (by decide)
theorem dX7_row_37 : decode cX7_row 37 = .ok (.iload_n 1, 1) := dq_27 (by decide +kernel)
theorem dX7_row_38 : decode cX7_row 38 = .ok (.iload_n 2, 1) := dq_28 (by decide +kernel)
theorem dX7_row_39 : decode cX7_row 39 = .ok (.iload_n 3, 1) := dq_29 (by decide +kernel)
theorem dX7_row_4 : decode cX7_row 4 = .ok (.ifCond .eq 16, 3) := dq_153 (b1 := 0) (b2 := 16) (by decide +kernel) (by decide)
theorem dX7_row_40 : decode cX7_row 40 = .ok (.invokevirtual 77, 3) := dq_182 (b1 := 0) (b2 := 77) (by decide +kernel) (by decide)
theorem dX7_row_43 : decode cX7_row 43 = .ok (.aload_n 0, 1) := dq_42 (by decide +kernel)
theorem dX7_row_44 : decode cX7_row 44 = .ok (.iload_n 3, 1) := dq_29 (by decide +kernel)
theorem dX7_row_45 : decode cX7_row 45 = .ok (.invokevirtual 81, 3) := dq_182 (b1 := 0) (b2 := 81) (by decide +kernel) (by decide)
theorem dX7_row_48 : decode cX7_row 48 = .ok (.ireturn, 1) := dq_172 (by decide +kernel)
theorem dX7_row_7 : decode cX7_row 7 = .ok (.iload_n 2, 1) := dq_28 (by decide +kernel)
theorem dX7_row_8 : decode cX7_row 8 = .ok (.invokestatic 69, 3) := dq_184 (b1 := 0) (b2 := 69) (by decide +kernel) (by decide)
theorem dX7_set_0 : decode cX7_set 0 = .ok (.iload_n 1, 1) := dq_27 (by decide +kernel)
theorem dX7_set_1 : decode cX7_set 1 = .ok (.invokestatic 65, 3) := dq_184 (b1 := 0) (b2 := 65) (by decide +kernel) (by decide)
theorem dX7_set_10 : decode cX7_set 10 = .ok (.aload_n 0, 1) := dq_42 (by decide +kernel)
theorem dX7_set_11 : decode cX7_set 11 = .ok (.getfield 10, 3) := dq_180 (b1 := 0) (b2 := 10) (by decide +kernel) (by decide)
theorem dX7_set_14 : decode cX7_set 14 = .ok (.iload_n 1, 1) := dq_27 (by decide +kernel)
theorem dX7_set_15 : decode cX7_set 15 = .ok (.iload_n 2, 1) := dq_28 (by decide +kernel)
theorem dX7_set_16 : decode cX7_set 16 = .ok (.iconst 1, 1) := dq_4 (by decide +kernel)
theorem dX7_set_17 : decode cX7_set 17 = .ok (.invokevirtual 84, 3) := dq_182 (b1 := 0) (b2 := 84) (by decide +kernel) (by decide)
theorem dX7_set_20 : decode cX7_set 20 = .ok (.istore 4, 2) := dq_54 (b1 := 4) (by decide +kernel) (by decide)
theorem dX7_set_22 : decode cX7_set 22 = .ok (.iload 4, 2) := dq_21 (b1 := 4) (by decide +kernel) (by decide)
theorem dX7_set_24 : decode cX7_set 24 = .ok (.ifCond .eq 10, 3) := dq_153 (b1 := 0) (b2 := 10) (by decide +kernel) (by decide)
theorem dX7_set_27 : decode cX7_set 27 = .ok (.aload_n 0, 1) := dq_42 (by decide +kernel)
theorem dX7_set_28 : decode cX7_set 28 = .ok (.iload 4, 2) := dq_21 (b1 := 4) (by decide +kernel) (by decide)
theorem dX7_set_30 : decode cX7_set 30 = .ok (.invokevirtual 73, 3) := dq_182 (b1 := 0) (b2 := 73) (by decide +kernel) (by decide)
theorem dX7_set_33 : decode cX7_set 33 = .ok (.ireturn, 1) := dq_172 (by decide +kernel)
theorem dX7_set_34 : decode cX7_set 34 = .ok (.aload_n 0, 1) := dq_42 (by decide +kernel)
theorem dX7_set_35 : decode cX7_set 35 = .ok (.aload_n 0, 1) := dq_42 (by decide +kernel)
theorem dX7_set_36 : decode cX7_set 36 = .ok (.getfield 10, 3) := dq_180 (b1 := 0) (b2 := 10) (by decide +kernel) (by decide)
theorem dX7_set_39 : decode cX7_set 39 = .ok (.iload_n 1, 1) := dq_27 (by decide +kernel)
theorem dX7_set_4 : decode cX7_set 4 = .ok (.ifCond .ne 6, 3) := dq_154 (b1 := 0) (b2 := 6) (by decide +kernel) (by decide)
theorem dX7_set_40 : decode cX7_set 40 = .ok (.iload_n 2, 1) := dq_28 (by decide +kernel)
theorem dX7_set_41 : decode cX7_set 41 = .ok (.iload_n 3, 1) := dq_29 (by decide +kernel)
theorem dX7_set_42 : decode cX7_set 42 = .ok (.invokevirtual 88, 3) := dq_182 (b1 := 0) (b2 := 88) (by decide +kernel) (by decide)
theorem dX7_set_45 : decode cX7_set 45 = .ok (.invokevirtual 81, 3) := dq_182 (b1 := 0) (b2 := 81) (by decide +kernel) (by decide)
theorem dX7_set_48 : decode cX7_set 48 = .ok (.ireturn, 1) := dq_172 (by decide +kernel)
theorem dX7_set_7 : decode cX7_set 7 = .ok (.ldc 72, 2) := dq_18 (b1 := 72) (by decide +kernel) (by decide)
theorem dX7_set_9 : decode cX7_set 9 = .ok (.ireturn, 1) := dq_172 (by decide +kernel)
theorem mb_X4_comesTo_wsX4_comesTo_r1 {w : Cond} (h : w ∈ wsX4_comesTo_r1) : w ∈ wsX4_comesTo := by unfold wsX4_comesTo; exact List.mem_cons_of_mem _ (List.mem_append_left _ (List.mem_append_left _ (List.mem_append_left _ (h))))
theorem mx_X4_comesTo_11 : Cond.code yX3_becomeLike cX3_becomeLike 2 none ∈ wsX4_comesTo := mb_X4_comesTo_wsX4_comesTo_r1 (List.mem_of_getElem? (i := 10) rfl)
theorem mx_X4_comesTo_12 : Cond.fieldLink RX3 27 "MillTalk$Level" "cells" "I" ∈ wsX4_comesTo := mb_X4_comesTo_wsX4_comesTo_r1 (List.mem_of_getElem? (i := 11) rfl)
theorem mx_X4_comesTo_13 : Cond.fieldLink RX3 31 "MillTalk$Level" "mill" "I" ∈ wsX4_comesTo := mb_X4_comesTo_wsX4_comesTo_r1 (List.mem_of_getElem? (i := 12) rfl)
theorem mx_X4_comesTo_14 : Cond.fieldLink RX3 34 "MillTalk$Level" "reach" "I" ∈ wsX4_comesTo := mb_X4_comesTo_wsX4_comesTo_r1 (List.mem_of_getElem? (i := 13) rfl)
theorem mx_X4_comesTo_15 : Cond.fieldLink RX3 37 "MillTalk$Level" "cap" "I" ∈ wsX4_comesTo := mb_X4_comesTo_wsX4_comesTo_r1 (List.mem_of_getElem? (i := 14) rfl)
theorem mx_X4_comesTo_16 : Cond.fieldLink RX3 40 "MillTalk$Level" "hour" "I" ∈ wsX4_comesTo := mb_X4_comesTo_wsX4_comesTo_r1 (List.mem_of_getElem? (i := 15) rfl)
theorem mx_X4_comesTo_17 : Cond.fieldLink RX3 43 "MillTalk$Level" "meal" "I" ∈ wsX4_comesTo := mb_X4_comesTo_wsX4_comesTo_r1 (List.mem_of_getElem? (i := 16) rfl)
theorem mx_X4_comesTo_18 : Cond.fieldLink RX3 46 "MillTalk$Level" "windCount" "I" ∈ wsX4_comesTo := mb_X4_comesTo_wsX4_comesTo_r1 (List.mem_of_getElem? (i := 17) rfl)
theorem mx_X4_comesTo_19 : Cond.fieldLink RX3 49 "MillTalk$Level" "soundCount" "I" ∈ wsX4_comesTo := mb_X4_comesTo_wsX4_comesTo_r1 (List.mem_of_getElem? (i := 18) rfl)
theorem mx_X4_comesTo_20 : Cond.fieldLink RX3 9 "MillTalk$Level" "winds" "[I" ∈ wsX4_comesTo := mb_X4_comesTo_wsX4_comesTo_r1 (List.mem_of_getElem? (i := 19) rfl)
theorem mx_X4_comesTo_21 : Cond.methodLink RX3 52 arraycopyName ∈ wsX4_comesTo := mb_X4_comesTo_wsX4_comesTo_r1 (List.mem_of_getElem? (i := 20) rfl)
theorem mx_X4_comesTo_22 : Cond.native arraycopyName ∈ wsX4_comesTo := mb_X4_comesTo_wsX4_comesTo_r1 (List.mem_of_getElem? (i := 21) rfl)
theorem mx_X4_comesTo_23 : Cond.static arraycopyName ∈ wsX4_comesTo := mb_X4_comesTo_wsX4_comesTo_r1 (List.mem_of_getElem? (i := 22) rfl)
theorem mx_X4_comesTo_24 : Cond.initialized "java/lang/System" ∈ wsX4_comesTo := mb_X4_comesTo_wsX4_comesTo_r1 (List.mem_of_getElem? (i := 23) rfl)
theorem mb_X4_comesTo_wsX4_comesTo_r2 {w : Cond} (h : w ∈ wsX4_comesTo_r2) : w ∈ wsX4_comesTo := by unfold wsX4_comesTo; exact List.mem_cons_of_mem _ (List.mem_append_left _ (List.mem_append_left _ (List.mem_append_right _ (List.mem_append_left _ (h)))))
theorem mx_X4_comesTo_25 : Cond.fieldLink RX3 15 "MillTalk$Level" "kinds" "[I" ∈ wsX4_comesTo := mb_X4_comesTo_wsX4_comesTo_r2 (List.mem_of_getElem? (i := 0) rfl)
theorem mx_X4_comesTo_26 : Cond.fieldLink RX3 18 "MillTalk$Level" "places" "[I" ∈ wsX4_comesTo := mb_X4_comesTo_wsX4_comesTo_r2 (List.mem_of_getElem? (i := 1) rfl)
theorem mx_X4_comesTo_27 : Cond.fieldLink RX3 21 "MillTalk$Level" "louds" "[I" ∈ wsX4_comesTo := mb_X4_comesTo_wsX4_comesTo_r2 (List.mem_of_getElem? (i := 2) rfl)
theorem mx_X4_comesTo_28 : Cond.fieldLink RX3 24 "MillTalk$Level" "hows" "[I" ∈ wsX4_comesTo := mb_X4_comesTo_wsX4_comesTo_r2 (List.mem_of_getElem? (i := 3) rfl)
theorem mb_X4_comesTo_wsX30 {w : Cond} (h : w ∈ wsX30) : w ∈ wsX4_comesTo := by unfold wsX4_comesTo; exact List.mem_cons_of_mem _ (List.mem_append_right _ (h))
theorem ggX4_comesTo_X3_becomeLike : GoodIn wsX4_comesTo wsX3_becomeLike := goodIn_sub (by unfold wsX3_becomeLike; exact List.forall_mem_cons.mpr ⟨mx_X4_comesTo_11, List.forall_mem_append.mpr ⟨List.forall_mem_cons.mpr ⟨mx_X4_comesTo_12, List.forall_mem_cons.mpr ⟨mx_X4_comesTo_13, List.forall_mem_cons.mpr ⟨mx_X4_comesTo_14, List.forall_mem_cons.mpr ⟨mx_X4_comesTo_15, List.forall_mem_cons.mpr ⟨mx_X4_comesTo_16, List.forall_mem_cons.mpr ⟨mx_X4_comesTo_17, List.forall_mem_cons.mpr ⟨mx_X4_comesTo_18, List.forall_mem_cons.mpr ⟨mx_X4_comesTo_19, List.forall_mem_cons.mpr ⟨mx_X4_comesTo_20, List.forall_mem_cons.mpr ⟨mx_X4_comesTo_21, List.forall_mem_cons.mpr ⟨mx_X4_comesTo_22, List.forall_mem_cons.mpr ⟨mx_X4_comesTo_23, List.forall_mem_cons.mpr ⟨mx_X4_comesTo_24, List.forall_mem_cons.mpr ⟨mx_X4_comesTo_25, List.forall_mem_cons.mpr ⟨mx_X4_comesTo_26, List.forall_mem_cons.mpr ⟨mx_X4_comesTo_27, List.forall_mem_cons.mpr ⟨mx_X4_comesTo_28, fun _ h_ => absurd h_ List.not_mem_nil⟩⟩⟩⟩⟩⟩⟩⟩⟩⟩⟩⟩⟩⟩⟩⟩⟩, (fun _ h_ => mb_X4_comesTo_wsX30 h_)⟩⟩) (by decide +kernel)
theorem mx_X4_comesTo_7 : Cond.methodLink RX4 19 yX3_becomeLike ∈ wsX4_comesTo := mb_X4_comesTo_wsX4_comesTo_r1 (List.mem_of_getElem? (i := 6) rfl)
theorem mx_X4_comesTo_8 : Cond.instanceMethod yX3_becomeLike ∈ wsX4_comesTo := mb_X4_comesTo_wsX4_comesTo_r1 (List.mem_of_getElem? (i := 7) rfl)
theorem mx_X4_comesTo_9 : Cond.selects RX3 yX3_becomeLike yX3_becomeLike ∈ wsX4_comesTo := mb_X4_comesTo_wsX4_comesTo_r1 (List.mem_of_getElem? (i := 8) rfl)
theorem mx_X4_comesTo_10 : Cond.initialized RX3 ∈ wsX4_comesTo := mb_X4_comesTo_wsX4_comesTo_r1 (List.mem_of_getElem? (i := 9) rfl)
theorem gX4_comesTo_X3_becomeLike : GoodIn wsX4_comesTo (wsV RX4 19 RX3 yX3_becomeLike wsX3_becomeLike) := goodIn_app (goodIn_sub (List.forall_mem_cons.mpr ⟨mx_X4_comesTo_7, List.forall_mem_cons.mpr ⟨mx_X4_comesTo_8, List.forall_mem_cons.mpr ⟨mx_X4_comesTo_9, List.forall_mem_cons.mpr ⟨mx_X4_comesTo_10, fun _ h_ => absurd h_ List.not_mem_nil⟩⟩⟩⟩) (by decide +kernel)) ggX4_comesTo_X3_becomeLike
theorem mx_X4_comesTo_33 : Cond.code yX4_bestFor cX4_bestFor 5 (some .int) ∈ wsX4_comesTo := mb_X4_comesTo_wsX4_comesTo_r2 (List.mem_of_getElem? (i := 8) rfl)
theorem mx_X4_comesTo_34 : Cond.fieldLink RX4 16 "MillTalk$Play" "outcome" "LMillTalk$Level;" ∈ wsX4_comesTo := mb_X4_comesTo_wsX4_comesTo_r2 (List.mem_of_getElem? (i := 9) rfl)
theorem mx_X4_comesTo_1 : Cond.fieldLink RX4 10 "MillTalk$Play" "board" "LMillTalk$Level;" ∈ wsX4_comesTo := mb_X4_comesTo_wsX4_comesTo_r1 (List.mem_of_getElem? (i := 0) rfl)
theorem mx_X4_comesTo_2 : Cond.fieldLink RX4 23 "MillTalk$Play" "hours" "I" ∈ wsX4_comesTo := mb_X4_comesTo_wsX4_comesTo_r1 (List.mem_of_getElem? (i := 1) rfl)
theorem mx_X4_comesTo_35 : Cond.methodLink RX4 45 Lib.Math.max.name ∈ wsX4_comesTo := mb_X4_comesTo_wsX4_comesTo_r2 (List.mem_of_getElem? (i := 10) rfl)
theorem mx_X4_comesTo_36 : Cond.static Lib.Math.max.name ∈ wsX4_comesTo := mb_X4_comesTo_wsX4_comesTo_r2 (List.mem_of_getElem? (i := 11) rfl)
theorem mx_X4_comesTo_5 : Cond.initialized "java/lang/Math" ∈ wsX4_comesTo := mb_X4_comesTo_wsX4_comesTo_r1 (List.mem_of_getElem? (i := 4) rfl)
theorem mx_X4_comesTo_37 : Cond.code Lib.Math.max.name Lib.Math.max.code 2 (some .int) ∈ wsX4_comesTo := mb_X4_comesTo_wsX4_comesTo_r2 (List.mem_of_getElem? (i := 12) rfl)
theorem mx_X4_comesTo_3 : Cond.methodLink RX4 27 Lib.Math.min.name ∈ wsX4_comesTo := mb_X4_comesTo_wsX4_comesTo_r1 (List.mem_of_getElem? (i := 2) rfl)
theorem mx_X4_comesTo_4 : Cond.static Lib.Math.min.name ∈ wsX4_comesTo := mb_X4_comesTo_wsX4_comesTo_r1 (List.mem_of_getElem? (i := 3) rfl)
theorem mx_X4_comesTo_6 : Cond.code Lib.Math.min.name Lib.Math.min.code 2 (some .int) ∈ wsX4_comesTo := mb_X4_comesTo_wsX4_comesTo_r1 (List.mem_of_getElem? (i := 5) rfl)
theorem mx_X4_comesTo_38 : Cond.methodLink RX4 37 yX3_mealBehind ∈ wsX4_comesTo := mb_X4_comesTo_wsX4_comesTo_r2 (List.mem_of_getElem? (i := 13) rfl)
theorem mx_X4_comesTo_39 : Cond.instanceMethod yX3_mealBehind ∈ wsX4_comesTo := mb_X4_comesTo_wsX4_comesTo_r2 (List.mem_of_getElem? (i := 14) rfl)
theorem mx_X4_comesTo_40 : Cond.selects RX3 yX3_mealBehind yX3_mealBehind ∈ wsX4_comesTo := mb_X4_comesTo_wsX4_comesTo_r2 (List.mem_of_getElem? (i := 15) rfl)
theorem mx_X4_comesTo_41 : Cond.code yX3_mealBehind cX3_mealBehind 3 (some .int) ∈ wsX4_comesTo := mb_X4_comesTo_wsX4_comesTo_r2 (List.mem_of_getElem? (i := 16) rfl)
theorem mx_X4_comesTo_42 : Cond.methodLink RX3 94 yX3_pass ∈ wsX4_comesTo := mb_X4_comesTo_wsX4_comesTo_r2 (List.mem_of_getElem? (i := 17) rfl)
theorem mx_X4_comesTo_43 : Cond.instanceMethod yX3_pass ∈ wsX4_comesTo := mb_X4_comesTo_wsX4_comesTo_r2 (List.mem_of_getElem? (i := 18) rfl)
theorem mx_X4_comesTo_44 : Cond.selects RX3 yX3_pass yX3_pass ∈ wsX4_comesTo := mb_X4_comesTo_wsX4_comesTo_r2 (List.mem_of_getElem? (i := 19) rfl)
theorem mx_X4_comesTo_45 : Cond.code yX3_pass cX3_pass 3 none ∈ wsX4_comesTo := mb_X4_comesTo_wsX4_comesTo_r2 (List.mem_of_getElem? (i := 20) rfl)
theorem mx_X4_comesTo_46 : Cond.methodLink RX3 87 yX3_windOn ∈ wsX4_comesTo := mb_X4_comesTo_wsX4_comesTo_r2 (List.mem_of_getElem? (i := 21) rfl)
theorem mx_X4_comesTo_47 : Cond.instanceMethod yX3_windOn ∈ wsX4_comesTo := mb_X4_comesTo_wsX4_comesTo_r2 (List.mem_of_getElem? (i := 22) rfl)
theorem mx_X4_comesTo_48 : Cond.selects RX3 yX3_windOn yX3_windOn ∈ wsX4_comesTo := mb_X4_comesTo_wsX4_comesTo_r2 (List.mem_of_getElem? (i := 23) rfl)
theorem mb_X4_comesTo_wsX4_comesTo_r3 {w : Cond} (h : w ∈ wsX4_comesTo_r3) : w ∈ wsX4_comesTo := by unfold wsX4_comesTo; exact List.mem_cons_of_mem _ (List.mem_append_left _ (List.mem_append_left _ (List.mem_append_right _ (List.mem_append_right _ (List.mem_append_left _ (h))))))
theorem mx_X4_comesTo_49 : Cond.code yX3_windOn cX3_windOn 2 (some .int) ∈ wsX4_comesTo := mb_X4_comesTo_wsX4_comesTo_r3 (List.mem_of_getElem? (i := 0) rfl)
theorem mx_X4_comesTo_50 : Cond.methodLink RX3 90 yX3_passSound ∈ wsX4_comesTo := mb_X4_comesTo_wsX4_comesTo_r3 (List.mem_of_getElem? (i := 1) rfl)
theorem mx_X4_comesTo_51 : Cond.instanceMethod yX3_passSound ∈ wsX4_comesTo := mb_X4_comesTo_wsX4_comesTo_r3 (List.mem_of_getElem? (i := 2) rfl)
theorem mx_X4_comesTo_52 : Cond.selects RX3 yX3_passSound yX3_passSound ∈ wsX4_comesTo := mb_X4_comesTo_wsX4_comesTo_r3 (List.mem_of_getElem? (i := 3) rfl)
theorem mx_X4_comesTo_53 : Cond.code yX3_passSound cX3_passSound 5 none ∈ wsX4_comesTo := mb_X4_comesTo_wsX4_comesTo_r3 (List.mem_of_getElem? (i := 4) rfl)
theorem mx_X4_comesTo_54 : Cond.methodLink RX3 63 Lib.Math.min.name ∈ wsX4_comesTo := mb_X4_comesTo_wsX4_comesTo_r3 (List.mem_of_getElem? (i := 5) rfl)
theorem mx_X4_comesTo_55 : Cond.methodLink RX3 58 yX3_isLoose ∈ wsX4_comesTo := mb_X4_comesTo_wsX4_comesTo_r3 (List.mem_of_getElem? (i := 6) rfl)
theorem mx_X4_comesTo_56 : Cond.instanceMethod yX3_isLoose ∈ wsX4_comesTo := mb_X4_comesTo_wsX4_comesTo_r3 (List.mem_of_getElem? (i := 7) rfl)
theorem mx_X4_comesTo_57 : Cond.selects RX3 yX3_isLoose yX3_isLoose ∈ wsX4_comesTo := mb_X4_comesTo_wsX4_comesTo_r3 (List.mem_of_getElem? (i := 8) rfl)
theorem mx_X4_comesTo_58 : Cond.code yX3_isLoose cX3_isLoose 2 (some .boolean) ∈ wsX4_comesTo := mb_X4_comesTo_wsX4_comesTo_r3 (List.mem_of_getElem? (i := 9) rfl)
theorem mx_X4_comesTo_59 : Cond.methodLink RX3 69 yX3_driftOf ∈ wsX4_comesTo := mb_X4_comesTo_wsX4_comesTo_r3 (List.mem_of_getElem? (i := 10) rfl)
theorem mx_X4_comesTo_60 : Cond.instanceMethod yX3_driftOf ∈ wsX4_comesTo := mb_X4_comesTo_wsX4_comesTo_r3 (List.mem_of_getElem? (i := 11) rfl)
theorem mx_X4_comesTo_61 : Cond.selects RX3 yX3_driftOf yX3_driftOf ∈ wsX4_comesTo := mb_X4_comesTo_wsX4_comesTo_r3 (List.mem_of_getElem? (i := 12) rfl)
theorem mx_X4_comesTo_62 : Cond.code yX3_driftOf cX3_driftOf 4 (some .int) ∈ wsX4_comesTo := mb_X4_comesTo_wsX4_comesTo_r3 (List.mem_of_getElem? (i := 13) rfl)
theorem mx_X4_comesTo_63 : Cond.methodLink RX3 72 yX3_loudBehindHour ∈ wsX4_comesTo := mb_X4_comesTo_wsX4_comesTo_r3 (List.mem_of_getElem? (i := 14) rfl)
theorem mx_X4_comesTo_64 : Cond.instanceMethod yX3_loudBehindHour ∈ wsX4_comesTo := mb_X4_comesTo_wsX4_comesTo_r3 (List.mem_of_getElem? (i := 15) rfl)
theorem mx_X4_comesTo_65 : Cond.selects RX3 yX3_loudBehindHour yX3_loudBehindHour ∈ wsX4_comesTo := mb_X4_comesTo_wsX4_comesTo_r3 (List.mem_of_getElem? (i := 16) rfl)
theorem mx_X4_comesTo_66 : Cond.code yX3_loudBehindHour cX3_loudBehindHour 2 (some .int) ∈ wsX4_comesTo := mb_X4_comesTo_wsX4_comesTo_r3 (List.mem_of_getElem? (i := 17) rfl)
theorem mx_X4_comesTo_67 : Cond.methodLink RX3 76 yX3_hasCell ∈ wsX4_comesTo := mb_X4_comesTo_wsX4_comesTo_r3 (List.mem_of_getElem? (i := 18) rfl)
theorem mx_X4_comesTo_68 : Cond.instanceMethod yX3_hasCell ∈ wsX4_comesTo := mb_X4_comesTo_wsX4_comesTo_r3 (List.mem_of_getElem? (i := 19) rfl)
theorem mx_X4_comesTo_69 : Cond.selects RX3 yX3_hasCell yX3_hasCell ∈ wsX4_comesTo := mb_X4_comesTo_wsX4_comesTo_r3 (List.mem_of_getElem? (i := 20) rfl)
theorem mx_X4_comesTo_70 : Cond.code yX3_hasCell cX3_hasCell 2 (some .boolean) ∈ wsX4_comesTo := mb_X4_comesTo_wsX4_comesTo_r3 (List.mem_of_getElem? (i := 21) rfl)
theorem mx_X4_comesTo_71 : Cond.methodLink RX3 79 yX3_letLoose ∈ wsX4_comesTo := mb_X4_comesTo_wsX4_comesTo_r3 (List.mem_of_getElem? (i := 22) rfl)
theorem mx_X4_comesTo_72 : Cond.instanceMethod yX3_letLoose ∈ wsX4_comesTo := mb_X4_comesTo_wsX4_comesTo_r3 (List.mem_of_getElem? (i := 23) rfl)
theorem mb_X4_comesTo_wsX4_comesTo_r4 {w : Cond} (h : w ∈ wsX4_comesTo_r4) : w ∈ wsX4_comesTo := by unfold wsX4_comesTo; exact List.mem_cons_of_mem _ (List.mem_append_left _ (List.mem_append_left _ (List.mem_append_right _ (List.mem_append_right _ (List.mem_append_right _ (h))))))
theorem mx_X4_comesTo_73 : Cond.selects RX3 yX3_letLoose yX3_letLoose ∈ wsX4_comesTo := mb_X4_comesTo_wsX4_comesTo_r4 (List.mem_of_getElem? (i := 0) rfl)
theorem mx_X4_comesTo_74 : Cond.code yX3_letLoose cX3_letLoose 4 none ∈ wsX4_comesTo := mb_X4_comesTo_wsX4_comesTo_r4 (List.mem_of_getElem? (i := 1) rfl)
theorem mx_X4_comesTo_75 : Cond.methodLink RX3 83 yX3_grindsAt ∈ wsX4_comesTo := mb_X4_comesTo_wsX4_comesTo_r4 (List.mem_of_getElem? (i := 2) rfl)
theorem mx_X4_comesTo_76 : Cond.instanceMethod yX3_grindsAt ∈ wsX4_comesTo := mb_X4_comesTo_wsX4_comesTo_r4 (List.mem_of_getElem? (i := 3) rfl)
theorem mx_X4_comesTo_77 : Cond.selects RX3 yX3_grindsAt yX3_grindsAt ∈ wsX4_comesTo := mb_X4_comesTo_wsX4_comesTo_r4 (List.mem_of_getElem? (i := 4) rfl)
theorem mx_X4_comesTo_78 : Cond.code yX3_grindsAt cX3_grindsAt 4 (some .boolean) ∈ wsX4_comesTo := mb_X4_comesTo_wsX4_comesTo_r4 (List.mem_of_getElem? (i := 5) rfl)
theorem mx_X4_comesTo_29 : Cond.methodLink RX4 33 yX4_bestFor ∈ wsX4_comesTo := mb_X4_comesTo_wsX4_comesTo_r2 (List.mem_of_getElem? (i := 4) rfl)
theorem mx_X4_comesTo_30 : Cond.instanceMethod yX4_bestFor ∈ wsX4_comesTo := mb_X4_comesTo_wsX4_comesTo_r2 (List.mem_of_getElem? (i := 5) rfl)
theorem mx_X4_comesTo_31 : Cond.selects RX4 yX4_bestFor yX4_bestFor ∈ wsX4_comesTo := mb_X4_comesTo_wsX4_comesTo_r2 (List.mem_of_getElem? (i := 6) rfl)
theorem mx_X4_comesTo_32 : Cond.initialized RX4 ∈ wsX4_comesTo := mb_X4_comesTo_wsX4_comesTo_r2 (List.mem_of_getElem? (i := 7) rfl)
theorem mx_X4_comesTo_79 : Cond.methodLink RX4 41 yX4_turn ∈ wsX4_comesTo := mb_X4_comesTo_wsX4_comesTo_r4 (List.mem_of_getElem? (i := 6) rfl)
theorem mx_X4_comesTo_80 : Cond.instanceMethod yX4_turn ∈ wsX4_comesTo := mb_X4_comesTo_wsX4_comesTo_r4 (List.mem_of_getElem? (i := 7) rfl)
theorem mx_X4_comesTo_81 : Cond.selects RX4 yX4_turn yX4_turn ∈ wsX4_comesTo := mb_X4_comesTo_wsX4_comesTo_r4 (List.mem_of_getElem? (i := 8) rfl)
theorem mx_X4_comesTo_82 : Cond.code yX4_turn cX4_turn 2 none ∈ wsX4_comesTo := mb_X4_comesTo_wsX4_comesTo_r4 (List.mem_of_getElem? (i := 9) rfl)
theorem mx_X4_comesTo_83 : Cond.methodLink RX4 48 yX3_turnCap ∈ wsX4_comesTo := mb_X4_comesTo_wsX4_comesTo_r4 (List.mem_of_getElem? (i := 10) rfl)
theorem mx_X4_comesTo_84 : Cond.instanceMethod yX3_turnCap ∈ wsX4_comesTo := mb_X4_comesTo_wsX4_comesTo_r4 (List.mem_of_getElem? (i := 11) rfl)
theorem mx_X4_comesTo_85 : Cond.selects RX3 yX3_turnCap yX3_turnCap ∈ wsX4_comesTo := mb_X4_comesTo_wsX4_comesTo_r4 (List.mem_of_getElem? (i := 12) rfl)
theorem mx_X4_comesTo_86 : Cond.code yX3_turnCap cX3_turnCap 1 none ∈ wsX4_comesTo := mb_X4_comesTo_wsX4_comesTo_r4 (List.mem_of_getElem? (i := 13) rfl)
theorem mx_X4_comesTo_87 : Cond.methodLink RX4 51 yX3_turnWind ∈ wsX4_comesTo := mb_X4_comesTo_wsX4_comesTo_r4 (List.mem_of_getElem? (i := 14) rfl)
theorem mx_X4_comesTo_88 : Cond.instanceMethod yX3_turnWind ∈ wsX4_comesTo := mb_X4_comesTo_wsX4_comesTo_r4 (List.mem_of_getElem? (i := 15) rfl)
theorem mx_X4_comesTo_89 : Cond.selects RX3 yX3_turnWind yX3_turnWind ∈ wsX4_comesTo := mb_X4_comesTo_wsX4_comesTo_r4 (List.mem_of_getElem? (i := 16) rfl)
theorem mx_X4_comesTo_90 : Cond.code yX3_turnWind cX3_turnWind 2 none ∈ wsX4_comesTo := mb_X4_comesTo_wsX4_comesTo_r4 (List.mem_of_getElem? (i := 17) rfl)
theorem mb_X4_comesTo_wsX40 {w : Cond} (h : w ∈ wsX40) : w ∈ wsX4_comesTo := by unfold wsX4_comesTo; exact List.mem_cons_of_mem _ (List.mem_append_left _ (List.mem_append_right _ (h)))
theorem ggX4_comesTo_X4_bestFor : GoodIn wsX4_comesTo wsX4_bestFor := goodIn_sub (by unfold wsX4_bestFor; exact List.forall_mem_cons.mpr ⟨mx_X4_comesTo_33, List.forall_mem_append.mpr ⟨List.forall_mem_append.mpr ⟨List.forall_mem_append.mpr ⟨(by unfold wsX4_bestFor_r1; exact List.forall_mem_cons.mpr ⟨mx_X4_comesTo_34, List.forall_mem_cons.mpr ⟨mx_X4_comesTo_1, List.forall_mem_cons.mpr ⟨mx_X4_comesTo_2, List.forall_mem_cons.mpr ⟨mx_X4_comesTo_35, List.forall_mem_cons.mpr ⟨mx_X4_comesTo_36, List.forall_mem_cons.mpr ⟨mx_X4_comesTo_5, List.forall_mem_cons.mpr ⟨mx_X4_comesTo_37, List.forall_mem_cons.mpr ⟨mx_X4_comesTo_3, List.forall_mem_cons.mpr ⟨mx_X4_comesTo_4, List.forall_mem_cons.mpr ⟨mx_X4_comesTo_6, List.forall_mem_cons.mpr ⟨mx_X4_comesTo_7, List.forall_mem_cons.mpr ⟨mx_X4_comesTo_8, List.forall_mem_cons.mpr ⟨mx_X4_comesTo_9, List.forall_mem_cons.mpr ⟨mx_X4_comesTo_10, List.forall_mem_cons.mpr ⟨mx_X4_comesTo_11, List.forall_mem_cons.mpr ⟨mx_X4_comesTo_12, List.forall_mem_cons.mpr ⟨mx_X4_comesTo_13, List.forall_mem_cons.mpr ⟨mx_X4_comesTo_14, List.forall_mem_cons.mpr ⟨mx_X4_comesTo_15, List.forall_mem_cons.mpr ⟨mx_X4_comesTo_16, List.forall_mem_cons.mpr ⟨mx_X4_comesTo_17, List.forall_mem_cons.mpr ⟨mx_X4_comesTo_18, List.forall_mem_cons.mpr ⟨mx_X4_comesTo_19, List.forall_mem_cons.mpr ⟨mx_X4_comesTo_20, fun _ h_ => absurd h_ List.not_mem_nil⟩⟩⟩⟩⟩⟩⟩⟩⟩⟩⟩⟩⟩⟩⟩⟩⟩⟩⟩⟩⟩⟩⟩⟩), List.forall_mem_append.mpr ⟨(by unfold wsX4_bestFor_r2; exact List.forall_mem_cons.mpr ⟨mx_X4_comesTo_21, List.forall_mem_cons.mpr ⟨mx_X4_comesTo_22, List.forall_mem_cons.mpr ⟨mx_X4_comesTo_23, List.forall_mem_cons.mpr ⟨mx_X4_comesTo_24, List.forall_mem_cons.mpr ⟨mx_X4_comesTo_25, List.forall_mem_cons.mpr ⟨mx_X4_comesTo_26, List.forall_mem_cons.mpr ⟨mx_X4_comesTo_27, List.forall_mem_cons.mpr ⟨mx_X4_comesTo_28, List.forall_mem_cons.mpr ⟨mx_X4_comesTo_38, List.forall_mem_cons.mpr ⟨mx_X4_comesTo_39, List.forall_mem_cons.mpr ⟨mx_X4_comesTo_40, List.forall_mem_cons.mpr ⟨mx_X4_comesTo_41, List.forall_mem_cons.mpr ⟨mx_X4_comesTo_42, List.forall_mem_cons.mpr ⟨mx_X4_comesTo_43, List.forall_mem_cons.mpr ⟨mx_X4_comesTo_44, List.forall_mem_cons.mpr ⟨mx_X4_comesTo_45, List.forall_mem_cons.mpr ⟨mx_X4_comesTo_46, List.forall_mem_cons.mpr ⟨mx_X4_comesTo_47, List.forall_mem_cons.mpr ⟨mx_X4_comesTo_48, List.forall_mem_cons.mpr ⟨mx_X4_comesTo_49, List.forall_mem_cons.mpr ⟨mx_X4_comesTo_50, List.forall_mem_cons.mpr ⟨mx_X4_comesTo_51, List.forall_mem_cons.mpr ⟨mx_X4_comesTo_52, List.forall_mem_cons.mpr ⟨mx_X4_comesTo_53, fun _ h_ => absurd h_ List.not_mem_nil⟩⟩⟩⟩⟩⟩⟩⟩⟩⟩⟩⟩⟩⟩⟩⟩⟩⟩⟩⟩⟩⟩⟩⟩), List.forall_mem_append.mpr ⟨(by unfold wsX4_bestFor_r3; exact List.forall_mem_cons.mpr ⟨mx_X4_comesTo_54, List.forall_mem_cons.mpr ⟨mx_X4_comesTo_55, List.forall_mem_cons.mpr ⟨mx_X4_comesTo_56, List.forall_mem_cons.mpr ⟨mx_X4_comesTo_57, List.forall_mem_cons.mpr ⟨mx_X4_comesTo_58, List.forall_mem_cons.mpr ⟨mx_X4_comesTo_59, List.forall_mem_cons.mpr ⟨mx_X4_comesTo_60, List.forall_mem_cons.mpr ⟨mx_X4_comesTo_61, List.forall_mem_cons.mpr ⟨mx_X4_comesTo_62, List.forall_mem_cons.mpr ⟨mx_X4_comesTo_63, List.forall_mem_cons.mpr ⟨mx_X4_comesTo_64, List.forall_mem_cons.mpr ⟨mx_X4_comesTo_65, List.forall_mem_cons.mpr ⟨mx_X4_comesTo_66, List.forall_mem_cons.mpr ⟨mx_X4_comesTo_67, List.forall_mem_cons.mpr ⟨mx_X4_comesTo_68, List.forall_mem_cons.mpr ⟨mx_X4_comesTo_69, List.forall_mem_cons.mpr ⟨mx_X4_comesTo_70, List.forall_mem_cons.mpr ⟨mx_X4_comesTo_71, List.forall_mem_cons.mpr ⟨mx_X4_comesTo_72, List.forall_mem_cons.mpr ⟨mx_X4_comesTo_73, List.forall_mem_cons.mpr ⟨mx_X4_comesTo_74, List.forall_mem_cons.mpr ⟨mx_X4_comesTo_75, List.forall_mem_cons.mpr ⟨mx_X4_comesTo_76, List.forall_mem_cons.mpr ⟨mx_X4_comesTo_77, fun _ h_ => absurd h_ List.not_mem_nil⟩⟩⟩⟩⟩⟩⟩⟩⟩⟩⟩⟩⟩⟩⟩⟩⟩⟩⟩⟩⟩⟩⟩⟩), (by unfold wsX4_bestFor_r4; exact List.forall_mem_cons.mpr ⟨mx_X4_comesTo_78, List.forall_mem_cons.mpr ⟨mx_X4_comesTo_29, List.forall_mem_cons.mpr ⟨mx_X4_comesTo_30, List.forall_mem_cons.mpr ⟨mx_X4_comesTo_31, List.forall_mem_cons.mpr ⟨mx_X4_comesTo_32, List.forall_mem_cons.mpr ⟨mx_X4_comesTo_79, List.forall_mem_cons.mpr ⟨mx_X4_comesTo_80, List.forall_mem_cons.mpr ⟨mx_X4_comesTo_81, List.forall_mem_cons.mpr ⟨mx_X4_comesTo_82, List.forall_mem_cons.mpr ⟨mx_X4_comesTo_83, List.forall_mem_cons.mpr ⟨mx_X4_comesTo_84, List.forall_mem_cons.mpr ⟨mx_X4_comesTo_85, List.forall_mem_cons.mpr ⟨mx_X4_comesTo_86, List.forall_mem_cons.mpr ⟨mx_X4_comesTo_87, List.forall_mem_cons.mpr ⟨mx_X4_comesTo_88, List.forall_mem_cons.mpr ⟨mx_X4_comesTo_89, List.forall_mem_cons.mpr ⟨mx_X4_comesTo_90, fun _ h_ => absurd h_ List.not_mem_nil⟩⟩⟩⟩⟩⟩⟩⟩⟩⟩⟩⟩⟩⟩⟩⟩⟩)⟩⟩⟩, (fun _ h_ => mb_X4_comesTo_wsX40 h_)⟩, (fun _ h_ => mb_X4_comesTo_wsX30 h_)⟩⟩) (by decide +kernel)
theorem gX4_comesTo_X4_bestFor : GoodIn wsX4_comesTo (wsV RX4 33 RX4 yX4_bestFor wsX4_bestFor) := goodIn_app (goodIn_sub (List.forall_mem_cons.mpr ⟨mx_X4_comesTo_29, List.forall_mem_cons.mpr ⟨mx_X4_comesTo_30, List.forall_mem_cons.mpr ⟨mx_X4_comesTo_31, List.forall_mem_cons.mpr ⟨mx_X4_comesTo_32, fun _ h_ => absurd h_ List.not_mem_nil⟩⟩⟩⟩) (by decide +kernel)) ggX4_comesTo_X4_bestFor
theorem mx_X7_as_8 : Cond.code yX3_hasSound cX3_hasSound 2 (some .boolean) ∈ wsX7_as := by unfold wsX7_as; exact List.mem_cons_of_mem _ (List.mem_append_left _ (List.mem_append_left _ (List.mem_of_getElem? (i := 7) rfl)))
theorem mx_X7_as_9 : Cond.fieldLink RX3 49 "MillTalk$Level" "soundCount" "I" ∈ wsX7_as := by unfold wsX7_as; exact List.mem_cons_of_mem _ (List.mem_append_left _ (List.mem_append_left _ (List.mem_of_getElem? (i := 8) rfl)))
theorem mb_X7_as_wsX30 {w : Cond} (h : w ∈ wsX30) : w ∈ wsX7_as := by unfold wsX7_as; exact List.mem_cons_of_mem _ (List.mem_append_right _ (h))
theorem ggX7_as_X3_hasSound : GoodIn wsX7_as wsX3_hasSound := goodIn_sub (by unfold wsX3_hasSound; exact List.forall_mem_cons.mpr ⟨mx_X7_as_8, List.forall_mem_append.mpr ⟨List.forall_mem_cons.mpr ⟨mx_X7_as_9, fun _ h_ => absurd h_ List.not_mem_nil⟩, (fun _ h_ => mb_X7_as_wsX30 h_)⟩⟩) (by decide +kernel)
theorem mx_X7_as_4 : Cond.methodLink RX7 173 yX3_hasSound ∈ wsX7_as := by unfold wsX7_as; exact List.mem_cons_of_mem _ (List.mem_append_left _ (List.mem_append_left _ (List.mem_of_getElem? (i := 3) rfl)))
theorem mx_X7_as_5 : Cond.instanceMethod yX3_hasSound ∈ wsX7_as := by unfold wsX7_as; exact List.mem_cons_of_mem _ (List.mem_append_left _ (List.mem_append_left _ (List.mem_of_getElem? (i := 4) rfl)))
theorem mx_X7_as_6 : Cond.selects RX3 yX3_hasSound yX3_hasSound ∈ wsX7_as := by unfold wsX7_as; exact List.mem_cons_of_mem _ (List.mem_append_left _ (List.mem_append_left _ (List.mem_of_getElem? (i := 5) rfl)))
theorem mx_X7_as_7 : Cond.initialized RX3 ∈ wsX7_as := by unfold wsX7_as; exact List.mem_cons_of_mem _ (List.mem_append_left _ (List.mem_append_left _ (List.mem_of_getElem? (i := 6) rfl)))
theorem gX7_as_X3_hasSound : GoodIn wsX7_as (wsV RX7 173 RX3 yX3_hasSound wsX3_hasSound) := goodIn_app (goodIn_sub (List.forall_mem_cons.mpr ⟨mx_X7_as_4, List.forall_mem_cons.mpr ⟨mx_X7_as_5, List.forall_mem_cons.mpr ⟨mx_X7_as_6, List.forall_mem_cons.mpr ⟨mx_X7_as_7, fun _ h_ => absurd h_ List.not_mem_nil⟩⟩⟩⟩) (by decide +kernel)) ggX7_as_X3_hasSound
theorem mx_X7_as_23 : Cond.code yX7_found cX7_found 2 (some .int) ∈ wsX7_as := by unfold wsX7_as; exact List.mem_cons_of_mem _ (List.mem_append_left _ (List.mem_append_left _ (List.mem_of_getElem? (i := 22) rfl)))
theorem mx_X7_as_19 : Cond.fieldLink RX7 323 "MillTalk" "latestFinding" "I" ∈ wsX7_as := by unfold wsX7_as; exact List.mem_cons_of_mem _ (List.mem_append_left _ (List.mem_append_left _ (List.mem_of_getElem? (i := 18) rfl)))
theorem mx_X7_as_24 : Cond.constant RX7 326 (-1000010) ∈ wsX7_as := by unfold wsX7_as; exact List.mem_cons_of_mem _ (List.mem_append_left _ (List.mem_append_left _ (List.mem_of_getElem? (i := 23) rfl)))
theorem mb_X7_as_wsX70 {w : Cond} (h : w ∈ wsX70) : w ∈ wsX7_as := by unfold wsX7_as; exact List.mem_cons_of_mem _ (List.mem_append_left _ (List.mem_append_right _ (h)))
theorem ggX7_as_X7_found : GoodIn wsX7_as wsX7_found := goodIn_sub (by unfold wsX7_found; exact List.forall_mem_cons.mpr ⟨mx_X7_as_23, List.forall_mem_append.mpr ⟨List.forall_mem_cons.mpr ⟨mx_X7_as_19, List.forall_mem_cons.mpr ⟨mx_X7_as_24, fun _ h_ => absurd h_ List.not_mem_nil⟩⟩, (fun _ h_ => mb_X7_as_wsX70 h_)⟩⟩) (by decide +kernel)
theorem mx_X7_as_20 : Cond.methodLink RX7 73 yX7_found ∈ wsX7_as := by unfold wsX7_as; exact List.mem_cons_of_mem _ (List.mem_append_left _ (List.mem_append_left _ (List.mem_of_getElem? (i := 19) rfl)))
theorem mx_X7_as_21 : Cond.instanceMethod yX7_found ∈ wsX7_as := by unfold wsX7_as; exact List.mem_cons_of_mem _ (List.mem_append_left _ (List.mem_append_left _ (List.mem_of_getElem? (i := 20) rfl)))
theorem mx_X7_as_22 : Cond.selects RX7 yX7_found yX7_found ∈ wsX7_as := by unfold wsX7_as; exact List.mem_cons_of_mem _ (List.mem_append_left _ (List.mem_append_left _ (List.mem_of_getElem? (i := 21) rfl)))
theorem mx_X7_as_12 : Cond.initialized RX7 ∈ wsX7_as := by unfold wsX7_as; exact List.mem_cons_of_mem _ (List.mem_append_left _ (List.mem_append_left _ (List.mem_of_getElem? (i := 11) rfl)))
theorem gX7_as_X7_found : GoodIn wsX7_as (wsV RX7 73 RX7 yX7_found wsX7_found) := goodIn_app (goodIn_sub (List.forall_mem_cons.mpr ⟨mx_X7_as_20, List.forall_mem_cons.mpr ⟨mx_X7_as_21, List.forall_mem_cons.mpr ⟨mx_X7_as_22, List.forall_mem_cons.mpr ⟨mx_X7_as_12, fun _ h_ => absurd h_ List.not_mem_nil⟩⟩⟩⟩) (by decide +kernel)) ggX7_as_X7_found
theorem mx_X7_as_18 : Cond.code yX7_foundNothing cX7_foundNothing 2 (some .int) ∈ wsX7_as := by unfold wsX7_as; exact List.mem_cons_of_mem _ (List.mem_append_left _ (List.mem_append_left _ (List.mem_of_getElem? (i := 17) rfl)))
theorem ggX7_as_X7_foundNothing : GoodIn wsX7_as wsX7_foundNothing := goodIn_sub (by unfold wsX7_foundNothing; exact List.forall_mem_cons.mpr ⟨mx_X7_as_18, List.forall_mem_append.mpr ⟨List.forall_mem_cons.mpr ⟨mx_X7_as_19, fun _ h_ => absurd h_ List.not_mem_nil⟩, (fun _ h_ => mb_X7_as_wsX70 h_)⟩⟩) (by decide +kernel)
theorem mx_X7_as_15 : Cond.methodLink RX7 81 yX7_foundNothing ∈ wsX7_as := by unfold wsX7_as; exact List.mem_cons_of_mem _ (List.mem_append_left _ (List.mem_append_left _ (List.mem_of_getElem? (i := 14) rfl)))
theorem mx_X7_as_16 : Cond.instanceMethod yX7_foundNothing ∈ wsX7_as := by unfold wsX7_as; exact List.mem_cons_of_mem _ (List.mem_append_left _ (List.mem_append_left _ (List.mem_of_getElem? (i := 15) rfl)))
theorem mx_X7_as_17 : Cond.selects RX7 yX7_foundNothing yX7_foundNothing ∈ wsX7_as := by unfold wsX7_as; exact List.mem_cons_of_mem _ (List.mem_append_left _ (List.mem_append_left _ (List.mem_of_getElem? (i := 16) rfl)))
theorem gX7_as_X7_foundNothing : GoodIn wsX7_as (wsV RX7 81 RX7 yX7_foundNothing wsX7_foundNothing) := goodIn_app (goodIn_sub (List.forall_mem_cons.mpr ⟨mx_X7_as_15, List.forall_mem_cons.mpr ⟨mx_X7_as_16, List.forall_mem_cons.mpr ⟨mx_X7_as_17, List.forall_mem_cons.mpr ⟨mx_X7_as_12, fun _ h_ => absurd h_ List.not_mem_nil⟩⟩⟩⟩) (by decide +kernel)) ggX7_as_X7_foundNothing
theorem mx_X7_as_13 : Cond.code yX7_isOfKind cX7_isOfKind 4 (some .boolean) ∈ wsX7_as := by unfold wsX7_as; exact List.mem_cons_of_mem _ (List.mem_append_left _ (List.mem_append_left _ (List.mem_of_getElem? (i := 12) rfl)))
theorem mx_X7_as_14 : Cond.fieldLink RX7 327 "MillTalk" "NEXT_KIND" "[I" ∈ wsX7_as := by unfold wsX7_as; exact List.mem_cons_of_mem _ (List.mem_append_left _ (List.mem_append_left _ (List.mem_of_getElem? (i := 13) rfl)))
theorem ggX7_as_X7_isOfKind : GoodIn wsX7_as wsX7_isOfKind := goodIn_sub (by unfold wsX7_isOfKind; exact List.forall_mem_cons.mpr ⟨mx_X7_as_13, List.forall_mem_cons.mpr ⟨mx_X7_as_14, fun _ h_ => absurd h_ List.not_mem_nil⟩⟩) (by decide +kernel)
set_option maxRecDepth 20000 in
theorem gX7_as_X7_isOfKind : GoodIn wsX7_as (va_wsS RX7 304 yX7_isOfKind wsX7_isOfKind) := goodIn_app (goodIn_of _ (by decide +kernel)) ggX7_as_X7_isOfKind
theorem mb_X7_ask_wsX7_ask_r1 {w : Cond} (h : w ∈ wsX7_ask_r1) : w ∈ wsX7_ask := by unfold wsX7_ask; exact List.mem_cons_of_mem _ (List.mem_append_left _ (List.mem_append_left _ (List.mem_append_left _ (List.mem_append_left _ (h)))))
theorem mx_X7_ask_17 : Cond.code yX1_answer cX1_answer 4 (some .int) ∈ wsX7_ask := mb_X7_ask_wsX7_ask_r1 (List.mem_of_getElem? (i := 16) rfl)
theorem mx_X7_ask_18 : Cond.fieldLink RX1 15 "MillTalk$Asks" "traced" "I" ∈ wsX7_ask := mb_X7_ask_wsX7_ask_r1 (List.mem_of_getElem? (i := 17) rfl)
theorem mx_X7_ask_19 : Cond.fieldLink RX1 19 "MillTalk$Asks" "number" "I" ∈ wsX7_ask := mb_X7_ask_wsX7_ask_r1 (List.mem_of_getElem? (i := 18) rfl)
theorem mx_X7_ask_20 : Cond.fieldLink RX1 22 "MillTalk$Level" "kinds" "[I" ∈ wsX7_ask := mb_X7_ask_wsX7_ask_r1 (List.mem_of_getElem? (i := 19) rfl)
theorem mx_X7_ask_21 : Cond.fieldLink RX1 27 "MillTalk$Asks" "kind" "I" ∈ wsX7_ask := mb_X7_ask_wsX7_ask_r1 (List.mem_of_getElem? (i := 20) rfl)
theorem mx_X7_ask_22 : Cond.fieldLink RX1 30 "MillTalk$Level" "places" "[I" ∈ wsX7_ask := mb_X7_ask_wsX7_ask_r1 (List.mem_of_getElem? (i := 21) rfl)
theorem mx_X7_ask_23 : Cond.fieldLink RX1 33 "MillTalk$Asks" "cell" "I" ∈ wsX7_ask := mb_X7_ask_wsX7_ask_r1 (List.mem_of_getElem? (i := 22) rfl)
theorem mx_X7_ask_24 : Cond.fieldLink RX1 36 "MillTalk$Level" "louds" "[I" ∈ wsX7_ask := mb_X7_ask_wsX7_ask_r1 (List.mem_of_getElem? (i := 23) rfl)
theorem mb_X7_ask_wsX7_ask_r2 {w : Cond} (h : w ∈ wsX7_ask_r2) : w ∈ wsX7_ask := by unfold wsX7_ask; exact List.mem_cons_of_mem _ (List.mem_append_left _ (List.mem_append_left _ (List.mem_append_left _ (List.mem_append_right _ (h)))))
theorem mx_X7_ask_25 : Cond.fieldLink RX1 39 "MillTalk$Asks" "loud" "I" ∈ wsX7_ask := mb_X7_ask_wsX7_ask_r2 (List.mem_of_getElem? (i := 0) rfl)
theorem mx_X7_ask_26 : Cond.methodLink RX1 42 yX1_askAnew ∈ wsX7_ask := mb_X7_ask_wsX7_ask_r2 (List.mem_of_getElem? (i := 1) rfl)
theorem mx_X7_ask_27 : Cond.instanceMethod yX1_askAnew ∈ wsX7_ask := mb_X7_ask_wsX7_ask_r2 (List.mem_of_getElem? (i := 2) rfl)
theorem mx_X7_ask_28 : Cond.selects RX1 yX1_askAnew yX1_askAnew ∈ wsX7_ask := mb_X7_ask_wsX7_ask_r2 (List.mem_of_getElem? (i := 3) rfl)
theorem mx_X7_ask_12 : Cond.initialized RX1 ∈ wsX7_ask := mb_X7_ask_wsX7_ask_r1 (List.mem_of_getElem? (i := 11) rfl)
theorem mx_X7_ask_29 : Cond.code yX1_askAnew cX1_askAnew 3 (some .int) ∈ wsX7_ask := mb_X7_ask_wsX7_ask_r2 (List.mem_of_getElem? (i := 4) rfl)
theorem mx_X7_ask_30 : Cond.methodLink RX1 46 yX1_bodyFor ∈ wsX7_ask := mb_X7_ask_wsX7_ask_r2 (List.mem_of_getElem? (i := 5) rfl)
theorem mx_X7_ask_31 : Cond.instanceMethod yX1_bodyFor ∈ wsX7_ask := mb_X7_ask_wsX7_ask_r2 (List.mem_of_getElem? (i := 6) rfl)
theorem mx_X7_ask_32 : Cond.selects RX1 yX1_bodyFor yX1_bodyFor ∈ wsX7_ask := mb_X7_ask_wsX7_ask_r2 (List.mem_of_getElem? (i := 7) rfl)
theorem mx_X7_ask_33 : Cond.code yX1_bodyFor cX1_bodyFor 5 (some .int) ∈ wsX7_ask := mb_X7_ask_wsX7_ask_r2 (List.mem_of_getElem? (i := 8) rfl)
theorem mx_X7_ask_34 : Cond.fieldLink RX1 56 "MillTalk$Asks" "SIZE_BODIES" "[I" ∈ wsX7_ask := mb_X7_ask_wsX7_ask_r2 (List.mem_of_getElem? (i := 9) rfl)
theorem mx_X7_ask_35 : Cond.fieldLink RX1 59 "MillTalk$Asks" "MARK_BODIES" "[I" ∈ wsX7_ask := mb_X7_ask_wsX7_ask_r2 (List.mem_of_getElem? (i := 10) rfl)
theorem mx_X7_ask_36 : Cond.methodLink RX1 50 yX1_begin ∈ wsX7_ask := mb_X7_ask_wsX7_ask_r2 (List.mem_of_getElem? (i := 11) rfl)
theorem mx_X7_ask_37 : Cond.instanceMethod yX1_begin ∈ wsX7_ask := mb_X7_ask_wsX7_ask_r2 (List.mem_of_getElem? (i := 12) rfl)
theorem mx_X7_ask_38 : Cond.selects RX1 yX1_begin yX1_begin ∈ wsX7_ask := mb_X7_ask_wsX7_ask_r2 (List.mem_of_getElem? (i := 13) rfl)
theorem mx_X7_ask_39 : Cond.code yX1_begin cX1_begin 4 (some .int) ∈ wsX7_ask := mb_X7_ask_wsX7_ask_r2 (List.mem_of_getElem? (i := 14) rfl)
theorem mx_X7_ask_40 : Cond.methodLink RX1 62 yX1_leave ∈ wsX7_ask := mb_X7_ask_wsX7_ask_r2 (List.mem_of_getElem? (i := 15) rfl)
theorem mx_X7_ask_41 : Cond.instanceMethod yX1_leave ∈ wsX7_ask := mb_X7_ask_wsX7_ask_r2 (List.mem_of_getElem? (i := 16) rfl)
theorem mx_X7_ask_42 : Cond.selects RX1 yX1_leave yX1_leave ∈ wsX7_ask := mb_X7_ask_wsX7_ask_r2 (List.mem_of_getElem? (i := 17) rfl)
theorem mx_X7_ask_43 : Cond.code yX1_leave cX1_leave 2 none ∈ wsX7_ask := mb_X7_ask_wsX7_ask_r2 (List.mem_of_getElem? (i := 18) rfl)
theorem mx_X7_ask_44 : Cond.fieldLink RX1 11 "MillTalk$Asks" "trace" "[I" ∈ wsX7_ask := mb_X7_ask_wsX7_ask_r2 (List.mem_of_getElem? (i := 19) rfl)
theorem mb_X7_ask_wsX10 {w : Cond} (h : w ∈ wsX10) : w ∈ wsX7_ask := by unfold wsX7_ask; exact List.mem_cons_of_mem _ (List.mem_append_right _ (h))
theorem mb_X7_ask_wsX30 {w : Cond} (h : w ∈ wsX30) : w ∈ wsX7_ask := by unfold wsX7_ask; exact List.mem_cons_of_mem _ (List.mem_append_left _ (List.mem_append_right _ (h)))
theorem ggX7_ask_X1_answer : GoodIn wsX7_ask wsX1_answer := goodIn_sub (by unfold wsX1_answer; exact List.forall_mem_cons.mpr ⟨mx_X7_ask_17, List.forall_mem_append.mpr ⟨List.forall_mem_append.mpr ⟨List.forall_mem_append.mpr ⟨(by unfold wsX1_answer_r1; exact List.forall_mem_cons.mpr ⟨mx_X7_ask_18, List.forall_mem_cons.mpr ⟨mx_X7_ask_19, List.forall_mem_cons.mpr ⟨mx_X7_ask_20, List.forall_mem_cons.mpr ⟨mx_X7_ask_21, List.forall_mem_cons.mpr ⟨mx_X7_ask_22, List.forall_mem_cons.mpr ⟨mx_X7_ask_23, List.forall_mem_cons.mpr ⟨mx_X7_ask_24, List.forall_mem_cons.mpr ⟨mx_X7_ask_25, List.forall_mem_cons.mpr ⟨mx_X7_ask_26, List.forall_mem_cons.mpr ⟨mx_X7_ask_27, List.forall_mem_cons.mpr ⟨mx_X7_ask_28, List.forall_mem_cons.mpr ⟨mx_X7_ask_12, List.forall_mem_cons.mpr ⟨mx_X7_ask_29, List.forall_mem_cons.mpr ⟨mx_X7_ask_30, List.forall_mem_cons.mpr ⟨mx_X7_ask_31, List.forall_mem_cons.mpr ⟨mx_X7_ask_32, List.forall_mem_cons.mpr ⟨mx_X7_ask_33, List.forall_mem_cons.mpr ⟨mx_X7_ask_34, List.forall_mem_cons.mpr ⟨mx_X7_ask_35, List.forall_mem_cons.mpr ⟨mx_X7_ask_36, List.forall_mem_cons.mpr ⟨mx_X7_ask_37, List.forall_mem_cons.mpr ⟨mx_X7_ask_38, List.forall_mem_cons.mpr ⟨mx_X7_ask_39, List.forall_mem_cons.mpr ⟨mx_X7_ask_40, fun _ h_ => absurd h_ List.not_mem_nil⟩⟩⟩⟩⟩⟩⟩⟩⟩⟩⟩⟩⟩⟩⟩⟩⟩⟩⟩⟩⟩⟩⟩⟩), (by unfold wsX1_answer_r2; exact List.forall_mem_cons.mpr ⟨mx_X7_ask_41, List.forall_mem_cons.mpr ⟨mx_X7_ask_42, List.forall_mem_cons.mpr ⟨mx_X7_ask_43, List.forall_mem_cons.mpr ⟨mx_X7_ask_44, fun _ h_ => absurd h_ List.not_mem_nil⟩⟩⟩⟩)⟩, (fun _ h_ => mb_X7_ask_wsX10 h_)⟩, (fun _ h_ => mb_X7_ask_wsX30 h_)⟩⟩) (by decide +kernel)
theorem mx_X7_ask_14 : Cond.methodLink RX7 310 yX1_answer ∈ wsX7_ask := mb_X7_ask_wsX7_ask_r1 (List.mem_of_getElem? (i := 13) rfl)
theorem mx_X7_ask_15 : Cond.instanceMethod yX1_answer ∈ wsX7_ask := mb_X7_ask_wsX7_ask_r1 (List.mem_of_getElem? (i := 14) rfl)
theorem mx_X7_ask_16 : Cond.selects RX1 yX1_answer yX1_answer ∈ wsX7_ask := mb_X7_ask_wsX7_ask_r1 (List.mem_of_getElem? (i := 15) rfl)
theorem gX7_ask_X1_answer : GoodIn wsX7_ask (wsV RX7 310 RX1 yX1_answer wsX1_answer) := goodIn_app (goodIn_sub (List.forall_mem_cons.mpr ⟨mx_X7_ask_14, List.forall_mem_cons.mpr ⟨mx_X7_ask_15, List.forall_mem_cons.mpr ⟨mx_X7_ask_16, List.forall_mem_cons.mpr ⟨mx_X7_ask_12, fun _ h_ => absurd h_ List.not_mem_nil⟩⟩⟩⟩) (by decide +kernel)) ggX7_ask_X1_answer
theorem mx_X7_ask_13 : Cond.code yX1_isAsk cX1_isAsk 1 (some .boolean) ∈ wsX7_ask := mb_X7_ask_wsX7_ask_r1 (List.mem_of_getElem? (i := 12) rfl)
theorem ggX7_ask_X1_isAsk : GoodIn wsX7_ask wsX1_isAsk := goodIn_sub (by unfold wsX1_isAsk; exact List.forall_mem_cons.mpr ⟨mx_X7_ask_13, fun _ h_ => absurd h_ List.not_mem_nil⟩) (by decide +kernel)
set_option maxRecDepth 20000 in
theorem gX7_ask_X1_isAsk : GoodIn wsX7_ask (va_wsS RX7 307 yX1_isAsk wsX1_isAsk) := goodIn_app (goodIn_of _ (by decide +kernel)) ggX7_ask_X1_isAsk
theorem mx_X7_ask_8 : Cond.code yX3_hasSound cX3_hasSound 2 (some .boolean) ∈ wsX7_ask := mb_X7_ask_wsX7_ask_r1 (List.mem_of_getElem? (i := 7) rfl)
theorem mx_X7_ask_9 : Cond.fieldLink RX3 49 "MillTalk$Level" "soundCount" "I" ∈ wsX7_ask := mb_X7_ask_wsX7_ask_r1 (List.mem_of_getElem? (i := 8) rfl)
theorem ggX7_ask_X3_hasSound : GoodIn wsX7_ask wsX3_hasSound := goodIn_sub (by unfold wsX3_hasSound; exact List.forall_mem_cons.mpr ⟨mx_X7_ask_8, List.forall_mem_append.mpr ⟨List.forall_mem_cons.mpr ⟨mx_X7_ask_9, fun _ h_ => absurd h_ List.not_mem_nil⟩, (fun _ h_ => mb_X7_ask_wsX30 h_)⟩⟩) (by decide +kernel)
theorem mx_X7_ask_4 : Cond.methodLink RX7 173 yX3_hasSound ∈ wsX7_ask := mb_X7_ask_wsX7_ask_r1 (List.mem_of_getElem? (i := 3) rfl)
theorem mx_X7_ask_5 : Cond.instanceMethod yX3_hasSound ∈ wsX7_ask := mb_X7_ask_wsX7_ask_r1 (List.mem_of_getElem? (i := 4) rfl)
theorem mx_X7_ask_6 : Cond.selects RX3 yX3_hasSound yX3_hasSound ∈ wsX7_ask := mb_X7_ask_wsX7_ask_r1 (List.mem_of_getElem? (i := 5) rfl)
theorem mx_X7_ask_7 : Cond.initialized RX3 ∈ wsX7_ask := mb_X7_ask_wsX7_ask_r1 (List.mem_of_getElem? (i := 6) rfl)
theorem gX7_ask_X3_hasSound : GoodIn wsX7_ask (wsV RX7 173 RX3 yX3_hasSound wsX3_hasSound) := goodIn_app (goodIn_sub (List.forall_mem_cons.mpr ⟨mx_X7_ask_4, List.forall_mem_cons.mpr ⟨mx_X7_ask_5, List.forall_mem_cons.mpr ⟨mx_X7_ask_6, List.forall_mem_cons.mpr ⟨mx_X7_ask_7, fun _ h_ => absurd h_ List.not_mem_nil⟩⟩⟩⟩) (by decide +kernel)) ggX7_ask_X3_hasSound
theorem mb_X7_byTurns_wsX7_byTurns_r1 {w : Cond} (h : w ∈ wsX7_byTurns_r1) : w ∈ wsX7_byTurns := by unfold wsX7_byTurns; exact List.mem_cons_of_mem _ (List.mem_append_left _ (List.mem_append_left _ (List.mem_append_left _ (List.mem_append_left _ (h)))))
theorem mx_X7_byTurns_9 : Cond.code yX3_isTold cX3_isTold 1 (some .boolean) ∈ wsX7_byTurns := mb_X7_byTurns_wsX7_byTurns_r1 (List.mem_of_getElem? (i := 8) rfl)
theorem mx_X7_byTurns_10 : Cond.fieldLink RX3 27 "MillTalk$Level" "cells" "I" ∈ wsX7_byTurns := mb_X7_byTurns_wsX7_byTurns_r1 (List.mem_of_getElem? (i := 9) rfl)
theorem mb_X7_byTurns_wsX30 {w : Cond} (h : w ∈ wsX30) : w ∈ wsX7_byTurns := by unfold wsX7_byTurns; exact List.mem_cons_of_mem _ (List.mem_append_left _ (List.mem_append_right _ (h)))
theorem ggX7_byTurns_X3_isTold : GoodIn wsX7_byTurns wsX3_isTold := goodIn_sub (by unfold wsX3_isTold; exact List.forall_mem_cons.mpr ⟨mx_X7_byTurns_9, List.forall_mem_append.mpr ⟨List.forall_mem_cons.mpr ⟨mx_X7_byTurns_10, fun _ h_ => absurd h_ List.not_mem_nil⟩, (fun _ h_ => mb_X7_byTurns_wsX30 h_)⟩⟩) (by decide +kernel)
theorem mx_X7_byTurns_5 : Cond.methodLink RX7 145 yX3_isTold ∈ wsX7_byTurns := mb_X7_byTurns_wsX7_byTurns_r1 (List.mem_of_getElem? (i := 4) rfl)
theorem mx_X7_byTurns_6 : Cond.instanceMethod yX3_isTold ∈ wsX7_byTurns := mb_X7_byTurns_wsX7_byTurns_r1 (List.mem_of_getElem? (i := 5) rfl)
theorem mx_X7_byTurns_7 : Cond.selects RX3 yX3_isTold yX3_isTold ∈ wsX7_byTurns := mb_X7_byTurns_wsX7_byTurns_r1 (List.mem_of_getElem? (i := 6) rfl)
theorem mx_X7_byTurns_8 : Cond.initialized RX3 ∈ wsX7_byTurns := mb_X7_byTurns_wsX7_byTurns_r1 (List.mem_of_getElem? (i := 7) rfl)
theorem gX7_byTurns_X3_isTold : GoodIn wsX7_byTurns (wsV RX7 145 RX3 yX3_isTold wsX3_isTold) := goodIn_app (goodIn_sub (List.forall_mem_cons.mpr ⟨mx_X7_byTurns_5, List.forall_mem_cons.mpr ⟨mx_X7_byTurns_6, List.forall_mem_cons.mpr ⟨mx_X7_byTurns_7, List.forall_mem_cons.mpr ⟨mx_X7_byTurns_8, fun _ h_ => absurd h_ List.not_mem_nil⟩⟩⟩⟩) (by decide +kernel)) ggX7_byTurns_X3_isTold
theorem mx_X7_byTurns_15 : Cond.code yX4_comesTo cX4_comesTo 4 (some .int) ∈ wsX7_byTurns := mb_X7_byTurns_wsX7_byTurns_r1 (List.mem_of_getElem? (i := 14) rfl)
theorem mx_X7_byTurns_16 : Cond.fieldLink RX4 10 "MillTalk$Play" "board" "LMillTalk$Level;" ∈ wsX7_byTurns := mb_X7_byTurns_wsX7_byTurns_r1 (List.mem_of_getElem? (i := 15) rfl)
theorem mx_X7_byTurns_17 : Cond.fieldLink RX4 23 "MillTalk$Play" "hours" "I" ∈ wsX7_byTurns := mb_X7_byTurns_wsX7_byTurns_r1 (List.mem_of_getElem? (i := 16) rfl)
theorem mx_X7_byTurns_18 : Cond.methodLink RX4 27 Lib.Math.min.name ∈ wsX7_byTurns := mb_X7_byTurns_wsX7_byTurns_r1 (List.mem_of_getElem? (i := 17) rfl)
theorem mx_X7_byTurns_19 : Cond.static Lib.Math.min.name ∈ wsX7_byTurns := mb_X7_byTurns_wsX7_byTurns_r1 (List.mem_of_getElem? (i := 18) rfl)
theorem mx_X7_byTurns_20 : Cond.initialized "java/lang/Math" ∈ wsX7_byTurns := mb_X7_byTurns_wsX7_byTurns_r1 (List.mem_of_getElem? (i := 19) rfl)
theorem mx_X7_byTurns_21 : Cond.code Lib.Math.min.name Lib.Math.min.code 2 (some .int) ∈ wsX7_byTurns := mb_X7_byTurns_wsX7_byTurns_r1 (List.mem_of_getElem? (i := 20) rfl)
theorem mx_X7_byTurns_22 : Cond.methodLink RX4 19 yX3_becomeLike ∈ wsX7_byTurns := mb_X7_byTurns_wsX7_byTurns_r1 (List.mem_of_getElem? (i := 21) rfl)
theorem mx_X7_byTurns_23 : Cond.instanceMethod yX3_becomeLike ∈ wsX7_byTurns := mb_X7_byTurns_wsX7_byTurns_r1 (List.mem_of_getElem? (i := 22) rfl)
theorem mx_X7_byTurns_24 : Cond.selects RX3 yX3_becomeLike yX3_becomeLike ∈ wsX7_byTurns := mb_X7_byTurns_wsX7_byTurns_r1 (List.mem_of_getElem? (i := 23) rfl)
theorem mb_X7_byTurns_wsX7_byTurns_r2 {w : Cond} (h : w ∈ wsX7_byTurns_r2) : w ∈ wsX7_byTurns := by unfold wsX7_byTurns; exact List.mem_cons_of_mem _ (List.mem_append_left _ (List.mem_append_left _ (List.mem_append_left _ (List.mem_append_right _ (List.mem_append_left _ (h))))))
theorem mx_X7_byTurns_25 : Cond.code yX3_becomeLike cX3_becomeLike 2 none ∈ wsX7_byTurns := mb_X7_byTurns_wsX7_byTurns_r2 (List.mem_of_getElem? (i := 0) rfl)
theorem mx_X7_byTurns_26 : Cond.fieldLink RX3 31 "MillTalk$Level" "mill" "I" ∈ wsX7_byTurns := mb_X7_byTurns_wsX7_byTurns_r2 (List.mem_of_getElem? (i := 1) rfl)
theorem mx_X7_byTurns_27 : Cond.fieldLink RX3 34 "MillTalk$Level" "reach" "I" ∈ wsX7_byTurns := mb_X7_byTurns_wsX7_byTurns_r2 (List.mem_of_getElem? (i := 2) rfl)
theorem mx_X7_byTurns_28 : Cond.fieldLink RX3 37 "MillTalk$Level" "cap" "I" ∈ wsX7_byTurns := mb_X7_byTurns_wsX7_byTurns_r2 (List.mem_of_getElem? (i := 3) rfl)
theorem mx_X7_byTurns_29 : Cond.fieldLink RX3 40 "MillTalk$Level" "hour" "I" ∈ wsX7_byTurns := mb_X7_byTurns_wsX7_byTurns_r2 (List.mem_of_getElem? (i := 4) rfl)
theorem mx_X7_byTurns_30 : Cond.fieldLink RX3 43 "MillTalk$Level" "meal" "I" ∈ wsX7_byTurns := mb_X7_byTurns_wsX7_byTurns_r2 (List.mem_of_getElem? (i := 5) rfl)
theorem mx_X7_byTurns_31 : Cond.fieldLink RX3 46 "MillTalk$Level" "windCount" "I" ∈ wsX7_byTurns := mb_X7_byTurns_wsX7_byTurns_r2 (List.mem_of_getElem? (i := 6) rfl)
theorem mx_X7_byTurns_32 : Cond.fieldLink RX3 49 "MillTalk$Level" "soundCount" "I" ∈ wsX7_byTurns := mb_X7_byTurns_wsX7_byTurns_r2 (List.mem_of_getElem? (i := 7) rfl)
theorem mx_X7_byTurns_33 : Cond.fieldLink RX3 9 "MillTalk$Level" "winds" "[I" ∈ wsX7_byTurns := mb_X7_byTurns_wsX7_byTurns_r2 (List.mem_of_getElem? (i := 8) rfl)
theorem mx_X7_byTurns_34 : Cond.methodLink RX3 52 arraycopyName ∈ wsX7_byTurns := mb_X7_byTurns_wsX7_byTurns_r2 (List.mem_of_getElem? (i := 9) rfl)
theorem mx_X7_byTurns_35 : Cond.native arraycopyName ∈ wsX7_byTurns := mb_X7_byTurns_wsX7_byTurns_r2 (List.mem_of_getElem? (i := 10) rfl)
theorem mx_X7_byTurns_36 : Cond.static arraycopyName ∈ wsX7_byTurns := mb_X7_byTurns_wsX7_byTurns_r2 (List.mem_of_getElem? (i := 11) rfl)
theorem mx_X7_byTurns_37 : Cond.initialized "java/lang/System" ∈ wsX7_byTurns := mb_X7_byTurns_wsX7_byTurns_r2 (List.mem_of_getElem? (i := 12) rfl)
theorem mx_X7_byTurns_38 : Cond.fieldLink RX3 15 "MillTalk$Level" "kinds" "[I" ∈ wsX7_byTurns := mb_X7_byTurns_wsX7_byTurns_r2 (List.mem_of_getElem? (i := 13) rfl)
theorem mx_X7_byTurns_39 : Cond.fieldLink RX3 18 "MillTalk$Level" "places" "[I" ∈ wsX7_byTurns := mb_X7_byTurns_wsX7_byTurns_r2 (List.mem_of_getElem? (i := 14) rfl)
theorem mx_X7_byTurns_40 : Cond.fieldLink RX3 21 "MillTalk$Level" "louds" "[I" ∈ wsX7_byTurns := mb_X7_byTurns_wsX7_byTurns_r2 (List.mem_of_getElem? (i := 15) rfl)
theorem mx_X7_byTurns_41 : Cond.fieldLink RX3 24 "MillTalk$Level" "hows" "[I" ∈ wsX7_byTurns := mb_X7_byTurns_wsX7_byTurns_r2 (List.mem_of_getElem? (i := 16) rfl)
theorem mx_X7_byTurns_42 : Cond.methodLink RX4 33 yX4_bestFor ∈ wsX7_byTurns := mb_X7_byTurns_wsX7_byTurns_r2 (List.mem_of_getElem? (i := 17) rfl)
theorem mx_X7_byTurns_43 : Cond.instanceMethod yX4_bestFor ∈ wsX7_byTurns := mb_X7_byTurns_wsX7_byTurns_r2 (List.mem_of_getElem? (i := 18) rfl)
theorem mx_X7_byTurns_44 : Cond.selects RX4 yX4_bestFor yX4_bestFor ∈ wsX7_byTurns := mb_X7_byTurns_wsX7_byTurns_r2 (List.mem_of_getElem? (i := 19) rfl)
theorem mx_X7_byTurns_14 : Cond.initialized RX4 ∈ wsX7_byTurns := mb_X7_byTurns_wsX7_byTurns_r1 (List.mem_of_getElem? (i := 13) rfl)
theorem mx_X7_byTurns_45 : Cond.code yX4_bestFor cX4_bestFor 5 (some .int) ∈ wsX7_byTurns := mb_X7_byTurns_wsX7_byTurns_r2 (List.mem_of_getElem? (i := 20) rfl)
theorem mx_X7_byTurns_46 : Cond.fieldLink RX4 16 "MillTalk$Play" "outcome" "LMillTalk$Level;" ∈ wsX7_byTurns := mb_X7_byTurns_wsX7_byTurns_r2 (List.mem_of_getElem? (i := 21) rfl)
theorem mx_X7_byTurns_47 : Cond.methodLink RX4 45 Lib.Math.max.name ∈ wsX7_byTurns := mb_X7_byTurns_wsX7_byTurns_r2 (List.mem_of_getElem? (i := 22) rfl)
theorem mx_X7_byTurns_48 : Cond.static Lib.Math.max.name ∈ wsX7_byTurns := mb_X7_byTurns_wsX7_byTurns_r2 (List.mem_of_getElem? (i := 23) rfl)
theorem mb_X7_byTurns_wsX7_byTurns_r3 {w : Cond} (h : w ∈ wsX7_byTurns_r3) : w ∈ wsX7_byTurns := by unfold wsX7_byTurns; exact List.mem_cons_of_mem _ (List.mem_append_left _ (List.mem_append_left _ (List.mem_append_left _ (List.mem_append_right _ (List.mem_append_right _ (List.mem_append_left _ (h)))))))
theorem mx_X7_byTurns_49 : Cond.code Lib.Math.max.name Lib.Math.max.code 2 (some .int) ∈ wsX7_byTurns := mb_X7_byTurns_wsX7_byTurns_r3 (List.mem_of_getElem? (i := 0) rfl)
theorem mx_X7_byTurns_50 : Cond.methodLink RX4 37 yX3_mealBehind ∈ wsX7_byTurns := mb_X7_byTurns_wsX7_byTurns_r3 (List.mem_of_getElem? (i := 1) rfl)
theorem mx_X7_byTurns_51 : Cond.instanceMethod yX3_mealBehind ∈ wsX7_byTurns := mb_X7_byTurns_wsX7_byTurns_r3 (List.mem_of_getElem? (i := 2) rfl)
theorem mx_X7_byTurns_52 : Cond.selects RX3 yX3_mealBehind yX3_mealBehind ∈ wsX7_byTurns := mb_X7_byTurns_wsX7_byTurns_r3 (List.mem_of_getElem? (i := 3) rfl)
theorem mx_X7_byTurns_53 : Cond.code yX3_mealBehind cX3_mealBehind 3 (some .int) ∈ wsX7_byTurns := mb_X7_byTurns_wsX7_byTurns_r3 (List.mem_of_getElem? (i := 4) rfl)
theorem mx_X7_byTurns_54 : Cond.methodLink RX3 94 yX3_pass ∈ wsX7_byTurns := mb_X7_byTurns_wsX7_byTurns_r3 (List.mem_of_getElem? (i := 5) rfl)
theorem mx_X7_byTurns_55 : Cond.instanceMethod yX3_pass ∈ wsX7_byTurns := mb_X7_byTurns_wsX7_byTurns_r3 (List.mem_of_getElem? (i := 6) rfl)
theorem mx_X7_byTurns_56 : Cond.selects RX3 yX3_pass yX3_pass ∈ wsX7_byTurns := mb_X7_byTurns_wsX7_byTurns_r3 (List.mem_of_getElem? (i := 7) rfl)
theorem mx_X7_byTurns_57 : Cond.code yX3_pass cX3_pass 3 none ∈ wsX7_byTurns := mb_X7_byTurns_wsX7_byTurns_r3 (List.mem_of_getElem? (i := 8) rfl)
theorem mx_X7_byTurns_58 : Cond.methodLink RX3 87 yX3_windOn ∈ wsX7_byTurns := mb_X7_byTurns_wsX7_byTurns_r3 (List.mem_of_getElem? (i := 9) rfl)
theorem mx_X7_byTurns_59 : Cond.instanceMethod yX3_windOn ∈ wsX7_byTurns := mb_X7_byTurns_wsX7_byTurns_r3 (List.mem_of_getElem? (i := 10) rfl)
theorem mx_X7_byTurns_60 : Cond.selects RX3 yX3_windOn yX3_windOn ∈ wsX7_byTurns := mb_X7_byTurns_wsX7_byTurns_r3 (List.mem_of_getElem? (i := 11) rfl)
theorem mx_X7_byTurns_61 : Cond.code yX3_windOn cX3_windOn 2 (some .int) ∈ wsX7_byTurns := mb_X7_byTurns_wsX7_byTurns_r3 (List.mem_of_getElem? (i := 12) rfl)
theorem mx_X7_byTurns_62 : Cond.methodLink RX3 90 yX3_passSound ∈ wsX7_byTurns := mb_X7_byTurns_wsX7_byTurns_r3 (List.mem_of_getElem? (i := 13) rfl)
theorem mx_X7_byTurns_63 : Cond.instanceMethod yX3_passSound ∈ wsX7_byTurns := mb_X7_byTurns_wsX7_byTurns_r3 (List.mem_of_getElem? (i := 14) rfl)
theorem mx_X7_byTurns_64 : Cond.selects RX3 yX3_passSound yX3_passSound ∈ wsX7_byTurns := mb_X7_byTurns_wsX7_byTurns_r3 (List.mem_of_getElem? (i := 15) rfl)
theorem mx_X7_byTurns_65 : Cond.code yX3_passSound cX3_passSound 5 none ∈ wsX7_byTurns := mb_X7_byTurns_wsX7_byTurns_r3 (List.mem_of_getElem? (i := 16) rfl)
theorem mx_X7_byTurns_66 : Cond.methodLink RX3 63 Lib.Math.min.name ∈ wsX7_byTurns := mb_X7_byTurns_wsX7_byTurns_r3 (List.mem_of_getElem? (i := 17) rfl)
theorem mx_X7_byTurns_67 : Cond.methodLink RX3 58 yX3_isLoose ∈ wsX7_byTurns := mb_X7_byTurns_wsX7_byTurns_r3 (List.mem_of_getElem? (i := 18) rfl)
theorem mx_X7_byTurns_68 : Cond.instanceMethod yX3_isLoose ∈ wsX7_byTurns := mb_X7_byTurns_wsX7_byTurns_r3 (List.mem_of_getElem? (i := 19) rfl)
theorem mx_X7_byTurns_69 : Cond.selects RX3 yX3_isLoose yX3_isLoose ∈ wsX7_byTurns := mb_X7_byTurns_wsX7_byTurns_r3 (List.mem_of_getElem? (i := 20) rfl)
theorem mx_X7_byTurns_70 : Cond.code yX3_isLoose cX3_isLoose 2 (some .boolean) ∈ wsX7_byTurns := mb_X7_byTurns_wsX7_byTurns_r3 (List.mem_of_getElem? (i := 21) rfl)
theorem mx_X7_byTurns_71 : Cond.methodLink RX3 69 yX3_driftOf ∈ wsX7_byTurns := mb_X7_byTurns_wsX7_byTurns_r3 (List.mem_of_getElem? (i := 22) rfl)
theorem mx_X7_byTurns_72 : Cond.instanceMethod yX3_driftOf ∈ wsX7_byTurns := mb_X7_byTurns_wsX7_byTurns_r3 (List.mem_of_getElem? (i := 23) rfl)
theorem mb_X7_byTurns_wsX7_byTurns_r4 {w : Cond} (h : w ∈ wsX7_byTurns_r4) : w ∈ wsX7_byTurns := by unfold wsX7_byTurns; exact List.mem_cons_of_mem _ (List.mem_append_left _ (List.mem_append_left _ (List.mem_append_left _ (List.mem_append_right _ (List.mem_append_right _ (List.mem_append_right _ (List.mem_append_left _ (h))))))))
theorem mx_X7_byTurns_73 : Cond.selects RX3 yX3_driftOf yX3_driftOf ∈ wsX7_byTurns := mb_X7_byTurns_wsX7_byTurns_r4 (List.mem_of_getElem? (i := 0) rfl)
theorem mx_X7_byTurns_74 : Cond.code yX3_driftOf cX3_driftOf 4 (some .int) ∈ wsX7_byTurns := mb_X7_byTurns_wsX7_byTurns_r4 (List.mem_of_getElem? (i := 1) rfl)
theorem mx_X7_byTurns_75 : Cond.methodLink RX3 72 yX3_loudBehindHour ∈ wsX7_byTurns := mb_X7_byTurns_wsX7_byTurns_r4 (List.mem_of_getElem? (i := 2) rfl)
theorem mx_X7_byTurns_76 : Cond.instanceMethod yX3_loudBehindHour ∈ wsX7_byTurns := mb_X7_byTurns_wsX7_byTurns_r4 (List.mem_of_getElem? (i := 3) rfl)
theorem mx_X7_byTurns_77 : Cond.selects RX3 yX3_loudBehindHour yX3_loudBehindHour ∈ wsX7_byTurns := mb_X7_byTurns_wsX7_byTurns_r4 (List.mem_of_getElem? (i := 4) rfl)
theorem mx_X7_byTurns_78 : Cond.code yX3_loudBehindHour cX3_loudBehindHour 2 (some .int) ∈ wsX7_byTurns := mb_X7_byTurns_wsX7_byTurns_r4 (List.mem_of_getElem? (i := 5) rfl)
theorem mx_X7_byTurns_79 : Cond.methodLink RX3 76 yX3_hasCell ∈ wsX7_byTurns := mb_X7_byTurns_wsX7_byTurns_r4 (List.mem_of_getElem? (i := 6) rfl)
theorem mx_X7_byTurns_80 : Cond.instanceMethod yX3_hasCell ∈ wsX7_byTurns := mb_X7_byTurns_wsX7_byTurns_r4 (List.mem_of_getElem? (i := 7) rfl)
theorem mx_X7_byTurns_81 : Cond.selects RX3 yX3_hasCell yX3_hasCell ∈ wsX7_byTurns := mb_X7_byTurns_wsX7_byTurns_r4 (List.mem_of_getElem? (i := 8) rfl)
theorem mx_X7_byTurns_82 : Cond.code yX3_hasCell cX3_hasCell 2 (some .boolean) ∈ wsX7_byTurns := mb_X7_byTurns_wsX7_byTurns_r4 (List.mem_of_getElem? (i := 9) rfl)
theorem mx_X7_byTurns_83 : Cond.methodLink RX3 79 yX3_letLoose ∈ wsX7_byTurns := mb_X7_byTurns_wsX7_byTurns_r4 (List.mem_of_getElem? (i := 10) rfl)
theorem mx_X7_byTurns_84 : Cond.instanceMethod yX3_letLoose ∈ wsX7_byTurns := mb_X7_byTurns_wsX7_byTurns_r4 (List.mem_of_getElem? (i := 11) rfl)
theorem mx_X7_byTurns_85 : Cond.selects RX3 yX3_letLoose yX3_letLoose ∈ wsX7_byTurns := mb_X7_byTurns_wsX7_byTurns_r4 (List.mem_of_getElem? (i := 12) rfl)
theorem mx_X7_byTurns_86 : Cond.code yX3_letLoose cX3_letLoose 4 none ∈ wsX7_byTurns := mb_X7_byTurns_wsX7_byTurns_r4 (List.mem_of_getElem? (i := 13) rfl)
theorem mx_X7_byTurns_87 : Cond.methodLink RX3 83 yX3_grindsAt ∈ wsX7_byTurns := mb_X7_byTurns_wsX7_byTurns_r4 (List.mem_of_getElem? (i := 14) rfl)
theorem mx_X7_byTurns_88 : Cond.instanceMethod yX3_grindsAt ∈ wsX7_byTurns := mb_X7_byTurns_wsX7_byTurns_r4 (List.mem_of_getElem? (i := 15) rfl)
theorem mx_X7_byTurns_89 : Cond.selects RX3 yX3_grindsAt yX3_grindsAt ∈ wsX7_byTurns := mb_X7_byTurns_wsX7_byTurns_r4 (List.mem_of_getElem? (i := 16) rfl)
theorem mx_X7_byTurns_90 : Cond.code yX3_grindsAt cX3_grindsAt 4 (some .boolean) ∈ wsX7_byTurns := mb_X7_byTurns_wsX7_byTurns_r4 (List.mem_of_getElem? (i := 17) rfl)
theorem mx_X7_byTurns_91 : Cond.methodLink RX4 41 yX4_turn ∈ wsX7_byTurns := mb_X7_byTurns_wsX7_byTurns_r4 (List.mem_of_getElem? (i := 18) rfl)
theorem mx_X7_byTurns_92 : Cond.instanceMethod yX4_turn ∈ wsX7_byTurns := mb_X7_byTurns_wsX7_byTurns_r4 (List.mem_of_getElem? (i := 19) rfl)
theorem mx_X7_byTurns_93 : Cond.selects RX4 yX4_turn yX4_turn ∈ wsX7_byTurns := mb_X7_byTurns_wsX7_byTurns_r4 (List.mem_of_getElem? (i := 20) rfl)
theorem mx_X7_byTurns_94 : Cond.code yX4_turn cX4_turn 2 none ∈ wsX7_byTurns := mb_X7_byTurns_wsX7_byTurns_r4 (List.mem_of_getElem? (i := 21) rfl)
theorem mx_X7_byTurns_95 : Cond.methodLink RX4 48 yX3_turnCap ∈ wsX7_byTurns := mb_X7_byTurns_wsX7_byTurns_r4 (List.mem_of_getElem? (i := 22) rfl)
theorem mx_X7_byTurns_96 : Cond.instanceMethod yX3_turnCap ∈ wsX7_byTurns := mb_X7_byTurns_wsX7_byTurns_r4 (List.mem_of_getElem? (i := 23) rfl)
theorem mb_X7_byTurns_wsX7_byTurns_r5 {w : Cond} (h : w ∈ wsX7_byTurns_r5) : w ∈ wsX7_byTurns := by unfold wsX7_byTurns; exact List.mem_cons_of_mem _ (List.mem_append_left _ (List.mem_append_left _ (List.mem_append_left _ (List.mem_append_right _ (List.mem_append_right _ (List.mem_append_right _ (List.mem_append_right _ (h))))))))
theorem mx_X7_byTurns_97 : Cond.selects RX3 yX3_turnCap yX3_turnCap ∈ wsX7_byTurns := mb_X7_byTurns_wsX7_byTurns_r5 (List.mem_of_getElem? (i := 0) rfl)
theorem mx_X7_byTurns_98 : Cond.code yX3_turnCap cX3_turnCap 1 none ∈ wsX7_byTurns := mb_X7_byTurns_wsX7_byTurns_r5 (List.mem_of_getElem? (i := 1) rfl)
theorem mx_X7_byTurns_99 : Cond.methodLink RX4 51 yX3_turnWind ∈ wsX7_byTurns := mb_X7_byTurns_wsX7_byTurns_r5 (List.mem_of_getElem? (i := 2) rfl)
theorem mx_X7_byTurns_100 : Cond.instanceMethod yX3_turnWind ∈ wsX7_byTurns := mb_X7_byTurns_wsX7_byTurns_r5 (List.mem_of_getElem? (i := 3) rfl)
theorem mx_X7_byTurns_101 : Cond.selects RX3 yX3_turnWind yX3_turnWind ∈ wsX7_byTurns := mb_X7_byTurns_wsX7_byTurns_r5 (List.mem_of_getElem? (i := 4) rfl)
theorem mx_X7_byTurns_102 : Cond.code yX3_turnWind cX3_turnWind 2 none ∈ wsX7_byTurns := mb_X7_byTurns_wsX7_byTurns_r5 (List.mem_of_getElem? (i := 5) rfl)
theorem mb_X7_byTurns_wsX40 {w : Cond} (h : w ∈ wsX40) : w ∈ wsX7_byTurns := by unfold wsX7_byTurns; exact List.mem_cons_of_mem _ (List.mem_append_right _ (h))
theorem ggX7_byTurns_X4_comesTo : GoodIn wsX7_byTurns wsX4_comesTo := goodIn_sub (by unfold wsX4_comesTo; exact List.forall_mem_cons.mpr ⟨mx_X7_byTurns_15, List.forall_mem_append.mpr ⟨List.forall_mem_append.mpr ⟨List.forall_mem_append.mpr ⟨(by unfold wsX4_comesTo_r1; exact List.forall_mem_cons.mpr ⟨mx_X7_byTurns_16, List.forall_mem_cons.mpr ⟨mx_X7_byTurns_17, List.forall_mem_cons.mpr ⟨mx_X7_byTurns_18, List.forall_mem_cons.mpr ⟨mx_X7_byTurns_19, List.forall_mem_cons.mpr ⟨mx_X7_byTurns_20, List.forall_mem_cons.mpr ⟨mx_X7_byTurns_21, List.forall_mem_cons.mpr ⟨mx_X7_byTurns_22, List.forall_mem_cons.mpr ⟨mx_X7_byTurns_23, List.forall_mem_cons.mpr ⟨mx_X7_byTurns_24, List.forall_mem_cons.mpr ⟨mx_X7_byTurns_8, List.forall_mem_cons.mpr ⟨mx_X7_byTurns_25, List.forall_mem_cons.mpr ⟨mx_X7_byTurns_10, List.forall_mem_cons.mpr ⟨mx_X7_byTurns_26, List.forall_mem_cons.mpr ⟨mx_X7_byTurns_27, List.forall_mem_cons.mpr ⟨mx_X7_byTurns_28, List.forall_mem_cons.mpr ⟨mx_X7_byTurns_29, List.forall_mem_cons.mpr ⟨mx_X7_byTurns_30, List.forall_mem_cons.mpr ⟨mx_X7_byTurns_31, List.forall_mem_cons.mpr ⟨mx_X7_byTurns_32, List.forall_mem_cons.mpr ⟨mx_X7_byTurns_33, List.forall_mem_cons.mpr ⟨mx_X7_byTurns_34, List.forall_mem_cons.mpr ⟨mx_X7_byTurns_35, List.forall_mem_cons.mpr ⟨mx_X7_byTurns_36, List.forall_mem_cons.mpr ⟨mx_X7_byTurns_37, fun _ h_ => absurd h_ List.not_mem_nil⟩⟩⟩⟩⟩⟩⟩⟩⟩⟩⟩⟩⟩⟩⟩⟩⟩⟩⟩⟩⟩⟩⟩⟩), List.forall_mem_append.mpr ⟨(by unfold wsX4_comesTo_r2; exact List.forall_mem_cons.mpr ⟨mx_X7_byTurns_38, List.forall_mem_cons.mpr ⟨mx_X7_byTurns_39, List.forall_mem_cons.mpr ⟨mx_X7_byTurns_40, List.forall_mem_cons.mpr ⟨mx_X7_byTurns_41, List.forall_mem_cons.mpr ⟨mx_X7_byTurns_42, List.forall_mem_cons.mpr ⟨mx_X7_byTurns_43, List.forall_mem_cons.mpr ⟨mx_X7_byTurns_44, List.forall_mem_cons.mpr ⟨mx_X7_byTurns_14, List.forall_mem_cons.mpr ⟨mx_X7_byTurns_45, List.forall_mem_cons.mpr ⟨mx_X7_byTurns_46, List.forall_mem_cons.mpr ⟨mx_X7_byTurns_47, List.forall_mem_cons.mpr ⟨mx_X7_byTurns_48, List.forall_mem_cons.mpr ⟨mx_X7_byTurns_49, List.forall_mem_cons.mpr ⟨mx_X7_byTurns_50, List.forall_mem_cons.mpr ⟨mx_X7_byTurns_51, List.forall_mem_cons.mpr ⟨mx_X7_byTurns_52, List.forall_mem_cons.mpr ⟨mx_X7_byTurns_53, List.forall_mem_cons.mpr ⟨mx_X7_byTurns_54, List.forall_mem_cons.mpr ⟨mx_X7_byTurns_55, List.forall_mem_cons.mpr ⟨mx_X7_byTurns_56, List.forall_mem_cons.mpr ⟨mx_X7_byTurns_57, List.forall_mem_cons.mpr ⟨mx_X7_byTurns_58, List.forall_mem_cons.mpr ⟨mx_X7_byTurns_59, List.forall_mem_cons.mpr ⟨mx_X7_byTurns_60, fun _ h_ => absurd h_ List.not_mem_nil⟩⟩⟩⟩⟩⟩⟩⟩⟩⟩⟩⟩⟩⟩⟩⟩⟩⟩⟩⟩⟩⟩⟩⟩), List.forall_mem_append.mpr ⟨(by unfold wsX4_comesTo_r3; exact List.forall_mem_cons.mpr ⟨mx_X7_byTurns_61, List.forall_mem_cons.mpr ⟨mx_X7_byTurns_62, List.forall_mem_cons.mpr ⟨mx_X7_byTurns_63, List.forall_mem_cons.mpr ⟨mx_X7_byTurns_64, List.forall_mem_cons.mpr ⟨mx_X7_byTurns_65, List.forall_mem_cons.mpr ⟨mx_X7_byTurns_66, List.forall_mem_cons.mpr ⟨mx_X7_byTurns_67, List.forall_mem_cons.mpr ⟨mx_X7_byTurns_68, List.forall_mem_cons.mpr ⟨mx_X7_byTurns_69, List.forall_mem_cons.mpr ⟨mx_X7_byTurns_70, List.forall_mem_cons.mpr ⟨mx_X7_byTurns_71, List.forall_mem_cons.mpr ⟨mx_X7_byTurns_72, List.forall_mem_cons.mpr ⟨mx_X7_byTurns_73, List.forall_mem_cons.mpr ⟨mx_X7_byTurns_74, List.forall_mem_cons.mpr ⟨mx_X7_byTurns_75, List.forall_mem_cons.mpr ⟨mx_X7_byTurns_76, List.forall_mem_cons.mpr ⟨mx_X7_byTurns_77, List.forall_mem_cons.mpr ⟨mx_X7_byTurns_78, List.forall_mem_cons.mpr ⟨mx_X7_byTurns_79, List.forall_mem_cons.mpr ⟨mx_X7_byTurns_80, List.forall_mem_cons.mpr ⟨mx_X7_byTurns_81, List.forall_mem_cons.mpr ⟨mx_X7_byTurns_82, List.forall_mem_cons.mpr ⟨mx_X7_byTurns_83, List.forall_mem_cons.mpr ⟨mx_X7_byTurns_84, fun _ h_ => absurd h_ List.not_mem_nil⟩⟩⟩⟩⟩⟩⟩⟩⟩⟩⟩⟩⟩⟩⟩⟩⟩⟩⟩⟩⟩⟩⟩⟩), (by unfold wsX4_comesTo_r4; exact List.forall_mem_cons.mpr ⟨mx_X7_byTurns_85, List.forall_mem_cons.mpr ⟨mx_X7_byTurns_86, List.forall_mem_cons.mpr ⟨mx_X7_byTurns_87, List.forall_mem_cons.mpr ⟨mx_X7_byTurns_88, List.forall_mem_cons.mpr ⟨mx_X7_byTurns_89, List.forall_mem_cons.mpr ⟨mx_X7_byTurns_90, List.forall_mem_cons.mpr ⟨mx_X7_byTurns_91, List.forall_mem_cons.mpr ⟨mx_X7_byTurns_92, List.forall_mem_cons.mpr ⟨mx_X7_byTurns_93, List.forall_mem_cons.mpr ⟨mx_X7_byTurns_94, List.forall_mem_cons.mpr ⟨mx_X7_byTurns_95, List.forall_mem_cons.mpr ⟨mx_X7_byTurns_96, List.forall_mem_cons.mpr ⟨mx_X7_byTurns_97, List.forall_mem_cons.mpr ⟨mx_X7_byTurns_98, List.forall_mem_cons.mpr ⟨mx_X7_byTurns_99, List.forall_mem_cons.mpr ⟨mx_X7_byTurns_100, List.forall_mem_cons.mpr ⟨mx_X7_byTurns_101, List.forall_mem_cons.mpr ⟨mx_X7_byTurns_102, fun _ h_ => absurd h_ List.not_mem_nil⟩⟩⟩⟩⟩⟩⟩⟩⟩⟩⟩⟩⟩⟩⟩⟩⟩⟩)⟩⟩⟩, (fun _ h_ => mb_X7_byTurns_wsX40 h_)⟩, (fun _ h_ => mb_X7_byTurns_wsX30 h_)⟩⟩) (by decide +kernel)
theorem mx_X7_byTurns_11 : Cond.methodLink RX7 243 yX4_comesTo ∈ wsX7_byTurns := mb_X7_byTurns_wsX7_byTurns_r1 (List.mem_of_getElem? (i := 10) rfl)
theorem mx_X7_byTurns_12 : Cond.instanceMethod yX4_comesTo ∈ wsX7_byTurns := mb_X7_byTurns_wsX7_byTurns_r1 (List.mem_of_getElem? (i := 11) rfl)
theorem mx_X7_byTurns_13 : Cond.selects RX4 yX4_comesTo yX4_comesTo ∈ wsX7_byTurns := mb_X7_byTurns_wsX7_byTurns_r1 (List.mem_of_getElem? (i := 12) rfl)
theorem gX7_byTurns_X4_comesTo : GoodIn wsX7_byTurns (wsV RX7 243 RX4 yX4_comesTo wsX4_comesTo) := goodIn_app (goodIn_sub (List.forall_mem_cons.mpr ⟨mx_X7_byTurns_11, List.forall_mem_cons.mpr ⟨mx_X7_byTurns_12, List.forall_mem_cons.mpr ⟨mx_X7_byTurns_13, List.forall_mem_cons.mpr ⟨mx_X7_byTurns_14, fun _ h_ => absurd h_ List.not_mem_nil⟩⟩⟩⟩) (by decide +kernel)) ggX7_byTurns_X4_comesTo
theorem mb_X7_caps_wsX7_caps_r5 {w : Cond} (h : w ∈ wsX7_caps_r5) : w ∈ wsX7_caps := by unfold wsX7_caps; exact List.mem_cons_of_mem _ (List.mem_append_left _ (List.mem_append_left _ (List.mem_append_left _ (List.mem_append_right _ (List.mem_append_right _ (List.mem_append_right _ (List.mem_append_right _ (h))))))))
theorem mx_X7_caps_109 : Cond.code yX2_bestCap cX2_bestCap 2 (some .int) ∈ wsX7_caps := mb_X7_caps_wsX7_caps_r5 (List.mem_of_getElem? (i := 12) rfl)
theorem mb_X7_caps_wsX7_caps_r1 {w : Cond} (h : w ∈ wsX7_caps_r1) : w ∈ wsX7_caps := by unfold wsX7_caps; exact List.mem_cons_of_mem _ (List.mem_append_left _ (List.mem_append_left _ (List.mem_append_left _ (List.mem_append_left _ (h)))))
theorem mx_X7_caps_24 : Cond.fieldLink RX2 25 "MillTalk$CapSearch" "bestRow" "I" ∈ wsX7_caps := mb_X7_caps_wsX7_caps_r1 (List.mem_of_getElem? (i := 23) rfl)
theorem mx_X7_caps_22 : Cond.fieldLink RX2 18 "MillTalk$CapSearch" "hours" "I" ∈ wsX7_caps := mb_X7_caps_wsX7_caps_r1 (List.mem_of_getElem? (i := 21) rfl)
theorem mb_X7_caps_wsX20 {w : Cond} (h : w ∈ wsX20) : w ∈ wsX7_caps := by unfold wsX7_caps; exact List.mem_cons_of_mem _ (List.mem_append_left _ (List.mem_append_right _ (h)))
theorem ggX7_caps_X2_bestCap : GoodIn wsX7_caps wsX2_bestCap := goodIn_sub (by unfold wsX2_bestCap; exact List.forall_mem_cons.mpr ⟨mx_X7_caps_109, List.forall_mem_append.mpr ⟨List.forall_mem_cons.mpr ⟨mx_X7_caps_24, List.forall_mem_cons.mpr ⟨mx_X7_caps_22, fun _ h_ => absurd h_ List.not_mem_nil⟩⟩, (fun _ h_ => mb_X7_caps_wsX20 h_)⟩⟩) (by decide +kernel)
theorem mx_X7_caps_106 : Cond.methodLink RX7 234 yX2_bestCap ∈ wsX7_caps := mb_X7_caps_wsX7_caps_r5 (List.mem_of_getElem? (i := 9) rfl)
theorem mx_X7_caps_107 : Cond.instanceMethod yX2_bestCap ∈ wsX7_caps := mb_X7_caps_wsX7_caps_r5 (List.mem_of_getElem? (i := 10) rfl)
theorem mx_X7_caps_108 : Cond.selects RX2 yX2_bestCap yX2_bestCap ∈ wsX7_caps := mb_X7_caps_wsX7_caps_r5 (List.mem_of_getElem? (i := 11) rfl)
theorem mx_X7_caps_16 : Cond.initialized RX2 ∈ wsX7_caps := mb_X7_caps_wsX7_caps_r1 (List.mem_of_getElem? (i := 15) rfl)
theorem gX7_caps_X2_bestCap : GoodIn wsX7_caps (wsV RX7 234 RX2 yX2_bestCap wsX2_bestCap) := goodIn_app (goodIn_sub (List.forall_mem_cons.mpr ⟨mx_X7_caps_106, List.forall_mem_cons.mpr ⟨mx_X7_caps_107, List.forall_mem_cons.mpr ⟨mx_X7_caps_108, List.forall_mem_cons.mpr ⟨mx_X7_caps_16, fun _ h_ => absurd h_ List.not_mem_nil⟩⟩⟩⟩) (by decide +kernel)) ggX7_caps_X2_bestCap
theorem mx_X7_caps_17 : Cond.code yX2_isLength cX2_isLength 1 (some .boolean) ∈ wsX7_caps := mb_X7_caps_wsX7_caps_r1 (List.mem_of_getElem? (i := 16) rfl)
theorem ggX7_caps_X2_isLength : GoodIn wsX7_caps wsX2_isLength := goodIn_sub (by unfold wsX2_isLength; exact List.forall_mem_cons.mpr ⟨mx_X7_caps_17, fun _ h_ => absurd h_ List.not_mem_nil⟩) (by decide +kernel)
set_option maxRecDepth 20000 in
theorem gX7_caps_X2_isLength : GoodIn wsX7_caps (va_wsS RX7 221 yX2_isLength wsX2_isLength) := goodIn_app (goodIn_of _ (by decide +kernel)) ggX7_caps_X2_isLength
theorem mx_X7_caps_21 : Cond.code yX2_search cX2_search 4 none ∈ wsX7_caps := mb_X7_caps_wsX7_caps_r1 (List.mem_of_getElem? (i := 20) rfl)
theorem mx_X7_caps_23 : Cond.fieldLink RX2 22 "MillTalk$CapSearch" "wanted" "I" ∈ wsX7_caps := mb_X7_caps_wsX7_caps_r1 (List.mem_of_getElem? (i := 22) rfl)
theorem mb_X7_caps_wsX7_caps_r2 {w : Cond} (h : w ∈ wsX7_caps_r2) : w ∈ wsX7_caps := by unfold wsX7_caps; exact List.mem_cons_of_mem _ (List.mem_append_left _ (List.mem_append_left _ (List.mem_append_left _ (List.mem_append_right _ (List.mem_append_left _ (h))))))
theorem mx_X7_caps_25 : Cond.fieldLink RX2 28 "MillTalk$CapSearch" "bestWorth" "I" ∈ wsX7_caps := mb_X7_caps_wsX7_caps_r2 (List.mem_of_getElem? (i := 0) rfl)
theorem mx_X7_caps_26 : Cond.fieldLink RX2 31 "MillTalk$CapSearch" "bestTurns" "I" ∈ wsX7_caps := mb_X7_caps_wsX7_caps_r2 (List.mem_of_getElem? (i := 1) rfl)
theorem mx_X7_caps_27 : Cond.fieldLink RX2 13 "MillTalk$CapSearch" "behind" "[LMillTalk$Level;" ∈ wsX7_caps := mb_X7_caps_wsX7_caps_r2 (List.mem_of_getElem? (i := 2) rfl)
theorem mx_X7_caps_28 : Cond.methodLink RX2 34 yX3_becomeLike ∈ wsX7_caps := mb_X7_caps_wsX7_caps_r2 (List.mem_of_getElem? (i := 3) rfl)
theorem mx_X7_caps_29 : Cond.instanceMethod yX3_becomeLike ∈ wsX7_caps := mb_X7_caps_wsX7_caps_r2 (List.mem_of_getElem? (i := 4) rfl)
theorem mx_X7_caps_30 : Cond.selects RX3 yX3_becomeLike yX3_becomeLike ∈ wsX7_caps := mb_X7_caps_wsX7_caps_r2 (List.mem_of_getElem? (i := 5) rfl)
theorem mx_X7_caps_11 : Cond.initialized RX3 ∈ wsX7_caps := mb_X7_caps_wsX7_caps_r1 (List.mem_of_getElem? (i := 10) rfl)
theorem mx_X7_caps_31 : Cond.code yX3_becomeLike cX3_becomeLike 2 none ∈ wsX7_caps := mb_X7_caps_wsX7_caps_r2 (List.mem_of_getElem? (i := 6) rfl)
theorem mx_X7_caps_13 : Cond.fieldLink RX3 27 "MillTalk$Level" "cells" "I" ∈ wsX7_caps := mb_X7_caps_wsX7_caps_r1 (List.mem_of_getElem? (i := 12) rfl)
theorem mx_X7_caps_32 : Cond.fieldLink RX3 31 "MillTalk$Level" "mill" "I" ∈ wsX7_caps := mb_X7_caps_wsX7_caps_r2 (List.mem_of_getElem? (i := 7) rfl)
theorem mx_X7_caps_33 : Cond.fieldLink RX3 34 "MillTalk$Level" "reach" "I" ∈ wsX7_caps := mb_X7_caps_wsX7_caps_r2 (List.mem_of_getElem? (i := 8) rfl)
theorem mx_X7_caps_34 : Cond.fieldLink RX3 37 "MillTalk$Level" "cap" "I" ∈ wsX7_caps := mb_X7_caps_wsX7_caps_r2 (List.mem_of_getElem? (i := 9) rfl)
theorem mx_X7_caps_35 : Cond.fieldLink RX3 40 "MillTalk$Level" "hour" "I" ∈ wsX7_caps := mb_X7_caps_wsX7_caps_r2 (List.mem_of_getElem? (i := 10) rfl)
theorem mx_X7_caps_36 : Cond.fieldLink RX3 43 "MillTalk$Level" "meal" "I" ∈ wsX7_caps := mb_X7_caps_wsX7_caps_r2 (List.mem_of_getElem? (i := 11) rfl)
theorem mx_X7_caps_37 : Cond.fieldLink RX3 46 "MillTalk$Level" "windCount" "I" ∈ wsX7_caps := mb_X7_caps_wsX7_caps_r2 (List.mem_of_getElem? (i := 12) rfl)
theorem mx_X7_caps_38 : Cond.fieldLink RX3 49 "MillTalk$Level" "soundCount" "I" ∈ wsX7_caps := mb_X7_caps_wsX7_caps_r2 (List.mem_of_getElem? (i := 13) rfl)
theorem mx_X7_caps_39 : Cond.fieldLink RX3 9 "MillTalk$Level" "winds" "[I" ∈ wsX7_caps := mb_X7_caps_wsX7_caps_r2 (List.mem_of_getElem? (i := 14) rfl)
theorem mx_X7_caps_40 : Cond.methodLink RX3 52 arraycopyName ∈ wsX7_caps := mb_X7_caps_wsX7_caps_r2 (List.mem_of_getElem? (i := 15) rfl)
theorem mx_X7_caps_41 : Cond.native arraycopyName ∈ wsX7_caps := mb_X7_caps_wsX7_caps_r2 (List.mem_of_getElem? (i := 16) rfl)
theorem mx_X7_caps_42 : Cond.static arraycopyName ∈ wsX7_caps := mb_X7_caps_wsX7_caps_r2 (List.mem_of_getElem? (i := 17) rfl)
theorem mx_X7_caps_43 : Cond.initialized "java/lang/System" ∈ wsX7_caps := mb_X7_caps_wsX7_caps_r2 (List.mem_of_getElem? (i := 18) rfl)
theorem mx_X7_caps_44 : Cond.fieldLink RX3 15 "MillTalk$Level" "kinds" "[I" ∈ wsX7_caps := mb_X7_caps_wsX7_caps_r2 (List.mem_of_getElem? (i := 19) rfl)
theorem mx_X7_caps_45 : Cond.fieldLink RX3 18 "MillTalk$Level" "places" "[I" ∈ wsX7_caps := mb_X7_caps_wsX7_caps_r2 (List.mem_of_getElem? (i := 20) rfl)
theorem mx_X7_caps_46 : Cond.fieldLink RX3 21 "MillTalk$Level" "louds" "[I" ∈ wsX7_caps := mb_X7_caps_wsX7_caps_r2 (List.mem_of_getElem? (i := 21) rfl)
theorem mx_X7_caps_47 : Cond.fieldLink RX3 24 "MillTalk$Level" "hows" "[I" ∈ wsX7_caps := mb_X7_caps_wsX7_caps_r2 (List.mem_of_getElem? (i := 22) rfl)
theorem mx_X7_caps_48 : Cond.methodLink RX2 38 yX2_tryRows ∈ wsX7_caps := mb_X7_caps_wsX7_caps_r2 (List.mem_of_getElem? (i := 23) rfl)
theorem mb_X7_caps_wsX7_caps_r3 {w : Cond} (h : w ∈ wsX7_caps_r3) : w ∈ wsX7_caps := by unfold wsX7_caps; exact List.mem_cons_of_mem _ (List.mem_append_left _ (List.mem_append_left _ (List.mem_append_left _ (List.mem_append_right _ (List.mem_append_right _ (List.mem_append_left _ (h)))))))
theorem mx_X7_caps_49 : Cond.instanceMethod yX2_tryRows ∈ wsX7_caps := mb_X7_caps_wsX7_caps_r3 (List.mem_of_getElem? (i := 0) rfl)
theorem mx_X7_caps_50 : Cond.selects RX2 yX2_tryRows yX2_tryRows ∈ wsX7_caps := mb_X7_caps_wsX7_caps_r3 (List.mem_of_getElem? (i := 1) rfl)
theorem mx_X7_caps_51 : Cond.code yX2_tryRows cX2_tryRows 7 none ∈ wsX7_caps := mb_X7_caps_wsX7_caps_r3 (List.mem_of_getElem? (i := 2) rfl)
theorem mx_X7_caps_52 : Cond.fieldLink RX2 46 "MillTalk$Level" "cap" "I" ∈ wsX7_caps := mb_X7_caps_wsX7_caps_r3 (List.mem_of_getElem? (i := 3) rfl)
theorem mx_X7_caps_53 : Cond.methodLink RX2 42 yX2_judge ∈ wsX7_caps := mb_X7_caps_wsX7_caps_r3 (List.mem_of_getElem? (i := 4) rfl)
theorem mx_X7_caps_54 : Cond.instanceMethod yX2_judge ∈ wsX7_caps := mb_X7_caps_wsX7_caps_r3 (List.mem_of_getElem? (i := 5) rfl)
theorem mx_X7_caps_55 : Cond.selects RX2 yX2_judge yX2_judge ∈ wsX7_caps := mb_X7_caps_wsX7_caps_r3 (List.mem_of_getElem? (i := 6) rfl)
theorem mx_X7_caps_56 : Cond.code yX2_judge cX2_judge 5 none ∈ wsX7_caps := mb_X7_caps_wsX7_caps_r3 (List.mem_of_getElem? (i := 7) rfl)
theorem mx_X7_caps_57 : Cond.methodLink RX2 52 yX2_worthOf ∈ wsX7_caps := mb_X7_caps_wsX7_caps_r3 (List.mem_of_getElem? (i := 8) rfl)
theorem mx_X7_caps_58 : Cond.instanceMethod yX2_worthOf ∈ wsX7_caps := mb_X7_caps_wsX7_caps_r3 (List.mem_of_getElem? (i := 9) rfl)
theorem mx_X7_caps_59 : Cond.selects RX2 yX2_worthOf yX2_worthOf ∈ wsX7_caps := mb_X7_caps_wsX7_caps_r3 (List.mem_of_getElem? (i := 10) rfl)
theorem mx_X7_caps_60 : Cond.code yX2_worthOf cX2_worthOf 2 (some .int) ∈ wsX7_caps := mb_X7_caps_wsX7_caps_r3 (List.mem_of_getElem? (i := 11) rfl)
theorem mx_X7_caps_61 : Cond.fieldLink RX2 56 "MillTalk$Level" "meal" "I" ∈ wsX7_caps := mb_X7_caps_wsX7_caps_r3 (List.mem_of_getElem? (i := 12) rfl)
theorem mx_X7_caps_62 : Cond.methodLink RX2 59 yX3_soundsThatAre ∈ wsX7_caps := mb_X7_caps_wsX7_caps_r3 (List.mem_of_getElem? (i := 13) rfl)
theorem mx_X7_caps_63 : Cond.instanceMethod yX3_soundsThatAre ∈ wsX7_caps := mb_X7_caps_wsX7_caps_r3 (List.mem_of_getElem? (i := 14) rfl)
theorem mx_X7_caps_64 : Cond.selects RX3 yX3_soundsThatAre yX3_soundsThatAre ∈ wsX7_caps := mb_X7_caps_wsX7_caps_r3 (List.mem_of_getElem? (i := 15) rfl)
theorem mx_X7_caps_65 : Cond.code yX3_soundsThatAre cX3_soundsThatAre 4 (some .int) ∈ wsX7_caps := mb_X7_caps_wsX7_caps_r3 (List.mem_of_getElem? (i := 16) rfl)
theorem mx_X7_caps_66 : Cond.methodLink RX2 49 yX3_pass ∈ wsX7_caps := mb_X7_caps_wsX7_caps_r3 (List.mem_of_getElem? (i := 17) rfl)
theorem mx_X7_caps_67 : Cond.instanceMethod yX3_pass ∈ wsX7_caps := mb_X7_caps_wsX7_caps_r3 (List.mem_of_getElem? (i := 18) rfl)
theorem mx_X7_caps_68 : Cond.selects RX3 yX3_pass yX3_pass ∈ wsX7_caps := mb_X7_caps_wsX7_caps_r3 (List.mem_of_getElem? (i := 19) rfl)
theorem mx_X7_caps_69 : Cond.code yX3_pass cX3_pass 3 none ∈ wsX7_caps := mb_X7_caps_wsX7_caps_r3 (List.mem_of_getElem? (i := 20) rfl)
theorem mx_X7_caps_70 : Cond.methodLink RX3 87 yX3_windOn ∈ wsX7_caps := mb_X7_caps_wsX7_caps_r3 (List.mem_of_getElem? (i := 21) rfl)
theorem mx_X7_caps_71 : Cond.instanceMethod yX3_windOn ∈ wsX7_caps := mb_X7_caps_wsX7_caps_r3 (List.mem_of_getElem? (i := 22) rfl)
theorem mx_X7_caps_72 : Cond.selects RX3 yX3_windOn yX3_windOn ∈ wsX7_caps := mb_X7_caps_wsX7_caps_r3 (List.mem_of_getElem? (i := 23) rfl)
theorem mb_X7_caps_wsX7_caps_r4 {w : Cond} (h : w ∈ wsX7_caps_r4) : w ∈ wsX7_caps := by unfold wsX7_caps; exact List.mem_cons_of_mem _ (List.mem_append_left _ (List.mem_append_left _ (List.mem_append_left _ (List.mem_append_right _ (List.mem_append_right _ (List.mem_append_right _ (List.mem_append_left _ (h))))))))
theorem mx_X7_caps_73 : Cond.code yX3_windOn cX3_windOn 2 (some .int) ∈ wsX7_caps := mb_X7_caps_wsX7_caps_r4 (List.mem_of_getElem? (i := 0) rfl)
theorem mx_X7_caps_74 : Cond.methodLink RX3 90 yX3_passSound ∈ wsX7_caps := mb_X7_caps_wsX7_caps_r4 (List.mem_of_getElem? (i := 1) rfl)
theorem mx_X7_caps_75 : Cond.instanceMethod yX3_passSound ∈ wsX7_caps := mb_X7_caps_wsX7_caps_r4 (List.mem_of_getElem? (i := 2) rfl)
theorem mx_X7_caps_76 : Cond.selects RX3 yX3_passSound yX3_passSound ∈ wsX7_caps := mb_X7_caps_wsX7_caps_r4 (List.mem_of_getElem? (i := 3) rfl)
theorem mx_X7_caps_77 : Cond.code yX3_passSound cX3_passSound 5 none ∈ wsX7_caps := mb_X7_caps_wsX7_caps_r4 (List.mem_of_getElem? (i := 4) rfl)
theorem mx_X7_caps_78 : Cond.methodLink RX3 63 Lib.Math.min.name ∈ wsX7_caps := mb_X7_caps_wsX7_caps_r4 (List.mem_of_getElem? (i := 5) rfl)
theorem mx_X7_caps_79 : Cond.static Lib.Math.min.name ∈ wsX7_caps := mb_X7_caps_wsX7_caps_r4 (List.mem_of_getElem? (i := 6) rfl)
theorem mx_X7_caps_80 : Cond.initialized "java/lang/Math" ∈ wsX7_caps := mb_X7_caps_wsX7_caps_r4 (List.mem_of_getElem? (i := 7) rfl)
theorem mx_X7_caps_81 : Cond.code Lib.Math.min.name Lib.Math.min.code 2 (some .int) ∈ wsX7_caps := mb_X7_caps_wsX7_caps_r4 (List.mem_of_getElem? (i := 8) rfl)
theorem mx_X7_caps_82 : Cond.methodLink RX3 58 yX3_isLoose ∈ wsX7_caps := mb_X7_caps_wsX7_caps_r4 (List.mem_of_getElem? (i := 9) rfl)
theorem mx_X7_caps_83 : Cond.instanceMethod yX3_isLoose ∈ wsX7_caps := mb_X7_caps_wsX7_caps_r4 (List.mem_of_getElem? (i := 10) rfl)
theorem mx_X7_caps_84 : Cond.selects RX3 yX3_isLoose yX3_isLoose ∈ wsX7_caps := mb_X7_caps_wsX7_caps_r4 (List.mem_of_getElem? (i := 11) rfl)
theorem mx_X7_caps_85 : Cond.code yX3_isLoose cX3_isLoose 2 (some .boolean) ∈ wsX7_caps := mb_X7_caps_wsX7_caps_r4 (List.mem_of_getElem? (i := 12) rfl)
theorem mx_X7_caps_86 : Cond.methodLink RX3 69 yX3_driftOf ∈ wsX7_caps := mb_X7_caps_wsX7_caps_r4 (List.mem_of_getElem? (i := 13) rfl)
theorem mx_X7_caps_87 : Cond.instanceMethod yX3_driftOf ∈ wsX7_caps := mb_X7_caps_wsX7_caps_r4 (List.mem_of_getElem? (i := 14) rfl)
theorem mx_X7_caps_88 : Cond.selects RX3 yX3_driftOf yX3_driftOf ∈ wsX7_caps := mb_X7_caps_wsX7_caps_r4 (List.mem_of_getElem? (i := 15) rfl)
theorem mx_X7_caps_89 : Cond.code yX3_driftOf cX3_driftOf 4 (some .int) ∈ wsX7_caps := mb_X7_caps_wsX7_caps_r4 (List.mem_of_getElem? (i := 16) rfl)
theorem mx_X7_caps_90 : Cond.methodLink RX3 72 yX3_loudBehindHour ∈ wsX7_caps := mb_X7_caps_wsX7_caps_r4 (List.mem_of_getElem? (i := 17) rfl)
theorem mx_X7_caps_91 : Cond.instanceMethod yX3_loudBehindHour ∈ wsX7_caps := mb_X7_caps_wsX7_caps_r4 (List.mem_of_getElem? (i := 18) rfl)
theorem mx_X7_caps_92 : Cond.selects RX3 yX3_loudBehindHour yX3_loudBehindHour ∈ wsX7_caps := mb_X7_caps_wsX7_caps_r4 (List.mem_of_getElem? (i := 19) rfl)
theorem mx_X7_caps_93 : Cond.code yX3_loudBehindHour cX3_loudBehindHour 2 (some .int) ∈ wsX7_caps := mb_X7_caps_wsX7_caps_r4 (List.mem_of_getElem? (i := 20) rfl)
theorem mx_X7_caps_94 : Cond.methodLink RX3 76 yX3_hasCell ∈ wsX7_caps := mb_X7_caps_wsX7_caps_r4 (List.mem_of_getElem? (i := 21) rfl)
theorem mx_X7_caps_95 : Cond.instanceMethod yX3_hasCell ∈ wsX7_caps := mb_X7_caps_wsX7_caps_r4 (List.mem_of_getElem? (i := 22) rfl)
theorem mx_X7_caps_96 : Cond.selects RX3 yX3_hasCell yX3_hasCell ∈ wsX7_caps := mb_X7_caps_wsX7_caps_r4 (List.mem_of_getElem? (i := 23) rfl)
theorem mx_X7_caps_97 : Cond.code yX3_hasCell cX3_hasCell 2 (some .boolean) ∈ wsX7_caps := mb_X7_caps_wsX7_caps_r5 (List.mem_of_getElem? (i := 0) rfl)
theorem mx_X7_caps_98 : Cond.methodLink RX3 79 yX3_letLoose ∈ wsX7_caps := mb_X7_caps_wsX7_caps_r5 (List.mem_of_getElem? (i := 1) rfl)
theorem mx_X7_caps_99 : Cond.instanceMethod yX3_letLoose ∈ wsX7_caps := mb_X7_caps_wsX7_caps_r5 (List.mem_of_getElem? (i := 2) rfl)
theorem mx_X7_caps_100 : Cond.selects RX3 yX3_letLoose yX3_letLoose ∈ wsX7_caps := mb_X7_caps_wsX7_caps_r5 (List.mem_of_getElem? (i := 3) rfl)
theorem mx_X7_caps_101 : Cond.code yX3_letLoose cX3_letLoose 4 none ∈ wsX7_caps := mb_X7_caps_wsX7_caps_r5 (List.mem_of_getElem? (i := 4) rfl)
theorem mx_X7_caps_102 : Cond.methodLink RX3 83 yX3_grindsAt ∈ wsX7_caps := mb_X7_caps_wsX7_caps_r5 (List.mem_of_getElem? (i := 5) rfl)
theorem mx_X7_caps_103 : Cond.instanceMethod yX3_grindsAt ∈ wsX7_caps := mb_X7_caps_wsX7_caps_r5 (List.mem_of_getElem? (i := 6) rfl)
theorem mx_X7_caps_104 : Cond.selects RX3 yX3_grindsAt yX3_grindsAt ∈ wsX7_caps := mb_X7_caps_wsX7_caps_r5 (List.mem_of_getElem? (i := 7) rfl)
theorem mx_X7_caps_105 : Cond.code yX3_grindsAt cX3_grindsAt 4 (some .boolean) ∈ wsX7_caps := mb_X7_caps_wsX7_caps_r5 (List.mem_of_getElem? (i := 8) rfl)
theorem mb_X7_caps_wsX30 {w : Cond} (h : w ∈ wsX30) : w ∈ wsX7_caps := by unfold wsX7_caps; exact List.mem_cons_of_mem _ (List.mem_append_right _ (h))
theorem ggX7_caps_X2_search : GoodIn wsX7_caps wsX2_search := goodIn_sub (by unfold wsX2_search; exact List.forall_mem_cons.mpr ⟨mx_X7_caps_21, List.forall_mem_append.mpr ⟨List.forall_mem_append.mpr ⟨List.forall_mem_append.mpr ⟨(by unfold wsX2_search_r1; exact List.forall_mem_cons.mpr ⟨mx_X7_caps_22, List.forall_mem_cons.mpr ⟨mx_X7_caps_23, List.forall_mem_cons.mpr ⟨mx_X7_caps_24, List.forall_mem_cons.mpr ⟨mx_X7_caps_25, List.forall_mem_cons.mpr ⟨mx_X7_caps_26, List.forall_mem_cons.mpr ⟨mx_X7_caps_27, List.forall_mem_cons.mpr ⟨mx_X7_caps_28, List.forall_mem_cons.mpr ⟨mx_X7_caps_29, List.forall_mem_cons.mpr ⟨mx_X7_caps_30, List.forall_mem_cons.mpr ⟨mx_X7_caps_11, List.forall_mem_cons.mpr ⟨mx_X7_caps_31, List.forall_mem_cons.mpr ⟨mx_X7_caps_13, List.forall_mem_cons.mpr ⟨mx_X7_caps_32, List.forall_mem_cons.mpr ⟨mx_X7_caps_33, List.forall_mem_cons.mpr ⟨mx_X7_caps_34, List.forall_mem_cons.mpr ⟨mx_X7_caps_35, List.forall_mem_cons.mpr ⟨mx_X7_caps_36, List.forall_mem_cons.mpr ⟨mx_X7_caps_37, List.forall_mem_cons.mpr ⟨mx_X7_caps_38, List.forall_mem_cons.mpr ⟨mx_X7_caps_39, List.forall_mem_cons.mpr ⟨mx_X7_caps_40, List.forall_mem_cons.mpr ⟨mx_X7_caps_41, List.forall_mem_cons.mpr ⟨mx_X7_caps_42, List.forall_mem_cons.mpr ⟨mx_X7_caps_43, fun _ h_ => absurd h_ List.not_mem_nil⟩⟩⟩⟩⟩⟩⟩⟩⟩⟩⟩⟩⟩⟩⟩⟩⟩⟩⟩⟩⟩⟩⟩⟩), List.forall_mem_append.mpr ⟨(by unfold wsX2_search_r2; exact List.forall_mem_cons.mpr ⟨mx_X7_caps_44, List.forall_mem_cons.mpr ⟨mx_X7_caps_45, List.forall_mem_cons.mpr ⟨mx_X7_caps_46, List.forall_mem_cons.mpr ⟨mx_X7_caps_47, List.forall_mem_cons.mpr ⟨mx_X7_caps_48, List.forall_mem_cons.mpr ⟨mx_X7_caps_49, List.forall_mem_cons.mpr ⟨mx_X7_caps_50, List.forall_mem_cons.mpr ⟨mx_X7_caps_16, List.forall_mem_cons.mpr ⟨mx_X7_caps_51, List.forall_mem_cons.mpr ⟨mx_X7_caps_52, List.forall_mem_cons.mpr ⟨mx_X7_caps_53, List.forall_mem_cons.mpr ⟨mx_X7_caps_54, List.forall_mem_cons.mpr ⟨mx_X7_caps_55, List.forall_mem_cons.mpr ⟨mx_X7_caps_56, List.forall_mem_cons.mpr ⟨mx_X7_caps_57, List.forall_mem_cons.mpr ⟨mx_X7_caps_58, List.forall_mem_cons.mpr ⟨mx_X7_caps_59, List.forall_mem_cons.mpr ⟨mx_X7_caps_60, List.forall_mem_cons.mpr ⟨mx_X7_caps_61, List.forall_mem_cons.mpr ⟨mx_X7_caps_62, List.forall_mem_cons.mpr ⟨mx_X7_caps_63, List.forall_mem_cons.mpr ⟨mx_X7_caps_64, List.forall_mem_cons.mpr ⟨mx_X7_caps_65, List.forall_mem_cons.mpr ⟨mx_X7_caps_66, fun _ h_ => absurd h_ List.not_mem_nil⟩⟩⟩⟩⟩⟩⟩⟩⟩⟩⟩⟩⟩⟩⟩⟩⟩⟩⟩⟩⟩⟩⟩⟩), List.forall_mem_append.mpr ⟨(by unfold wsX2_search_r3; exact List.forall_mem_cons.mpr ⟨mx_X7_caps_67, List.forall_mem_cons.mpr ⟨mx_X7_caps_68, List.forall_mem_cons.mpr ⟨mx_X7_caps_69, List.forall_mem_cons.mpr ⟨mx_X7_caps_70, List.forall_mem_cons.mpr ⟨mx_X7_caps_71, List.forall_mem_cons.mpr ⟨mx_X7_caps_72, List.forall_mem_cons.mpr ⟨mx_X7_caps_73, List.forall_mem_cons.mpr ⟨mx_X7_caps_74, List.forall_mem_cons.mpr ⟨mx_X7_caps_75, List.forall_mem_cons.mpr ⟨mx_X7_caps_76, List.forall_mem_cons.mpr ⟨mx_X7_caps_77, List.forall_mem_cons.mpr ⟨mx_X7_caps_78, List.forall_mem_cons.mpr ⟨mx_X7_caps_79, List.forall_mem_cons.mpr ⟨mx_X7_caps_80, List.forall_mem_cons.mpr ⟨mx_X7_caps_81, List.forall_mem_cons.mpr ⟨mx_X7_caps_82, List.forall_mem_cons.mpr ⟨mx_X7_caps_83, List.forall_mem_cons.mpr ⟨mx_X7_caps_84, List.forall_mem_cons.mpr ⟨mx_X7_caps_85, List.forall_mem_cons.mpr ⟨mx_X7_caps_86, List.forall_mem_cons.mpr ⟨mx_X7_caps_87, List.forall_mem_cons.mpr ⟨mx_X7_caps_88, List.forall_mem_cons.mpr ⟨mx_X7_caps_89, List.forall_mem_cons.mpr ⟨mx_X7_caps_90, fun _ h_ => absurd h_ List.not_mem_nil⟩⟩⟩⟩⟩⟩⟩⟩⟩⟩⟩⟩⟩⟩⟩⟩⟩⟩⟩⟩⟩⟩⟩⟩), (by unfold wsX2_search_r4; exact List.forall_mem_cons.mpr ⟨mx_X7_caps_91, List.forall_mem_cons.mpr ⟨mx_X7_caps_92, List.forall_mem_cons.mpr ⟨mx_X7_caps_93, List.forall_mem_cons.mpr ⟨mx_X7_caps_94, List.forall_mem_cons.mpr ⟨mx_X7_caps_95, List.forall_mem_cons.mpr ⟨mx_X7_caps_96, List.forall_mem_cons.mpr ⟨mx_X7_caps_97, List.forall_mem_cons.mpr ⟨mx_X7_caps_98, List.forall_mem_cons.mpr ⟨mx_X7_caps_99, List.forall_mem_cons.mpr ⟨mx_X7_caps_100, List.forall_mem_cons.mpr ⟨mx_X7_caps_101, List.forall_mem_cons.mpr ⟨mx_X7_caps_102, List.forall_mem_cons.mpr ⟨mx_X7_caps_103, List.forall_mem_cons.mpr ⟨mx_X7_caps_104, List.forall_mem_cons.mpr ⟨mx_X7_caps_105, fun _ h_ => absurd h_ List.not_mem_nil⟩⟩⟩⟩⟩⟩⟩⟩⟩⟩⟩⟩⟩⟩⟩)⟩⟩⟩, (fun _ h_ => mb_X7_caps_wsX20 h_)⟩, (fun _ h_ => mb_X7_caps_wsX30 h_)⟩⟩) (by decide +kernel)
theorem mx_X7_caps_18 : Cond.methodLink RX7 224 yX2_search ∈ wsX7_caps := mb_X7_caps_wsX7_caps_r1 (List.mem_of_getElem? (i := 17) rfl)
theorem mx_X7_caps_19 : Cond.instanceMethod yX2_search ∈ wsX7_caps := mb_X7_caps_wsX7_caps_r1 (List.mem_of_getElem? (i := 18) rfl)
theorem mx_X7_caps_20 : Cond.selects RX2 yX2_search yX2_search ∈ wsX7_caps := mb_X7_caps_wsX7_caps_r1 (List.mem_of_getElem? (i := 19) rfl)
theorem gX7_caps_X2_search : GoodIn wsX7_caps (wsV RX7 224 RX2 yX2_search wsX2_search) := goodIn_app (goodIn_sub (List.forall_mem_cons.mpr ⟨mx_X7_caps_18, List.forall_mem_cons.mpr ⟨mx_X7_caps_19, List.forall_mem_cons.mpr ⟨mx_X7_caps_20, List.forall_mem_cons.mpr ⟨mx_X7_caps_16, fun _ h_ => absurd h_ List.not_mem_nil⟩⟩⟩⟩) (by decide +kernel)) ggX7_caps_X2_search
theorem mx_X7_caps_12 : Cond.code yX3_isTold cX3_isTold 1 (some .boolean) ∈ wsX7_caps := mb_X7_caps_wsX7_caps_r1 (List.mem_of_getElem? (i := 11) rfl)
theorem ggX7_caps_X3_isTold : GoodIn wsX7_caps wsX3_isTold := goodIn_sub (by unfold wsX3_isTold; exact List.forall_mem_cons.mpr ⟨mx_X7_caps_12, List.forall_mem_append.mpr ⟨List.forall_mem_cons.mpr ⟨mx_X7_caps_13, fun _ h_ => absurd h_ List.not_mem_nil⟩, (fun _ h_ => mb_X7_caps_wsX30 h_)⟩⟩) (by decide +kernel)
theorem mx_X7_caps_8 : Cond.methodLink RX7 145 yX3_isTold ∈ wsX7_caps := mb_X7_caps_wsX7_caps_r1 (List.mem_of_getElem? (i := 7) rfl)
theorem mx_X7_caps_9 : Cond.instanceMethod yX3_isTold ∈ wsX7_caps := mb_X7_caps_wsX7_caps_r1 (List.mem_of_getElem? (i := 8) rfl)
theorem mx_X7_caps_10 : Cond.selects RX3 yX3_isTold yX3_isTold ∈ wsX7_caps := mb_X7_caps_wsX7_caps_r1 (List.mem_of_getElem? (i := 9) rfl)
theorem gX7_caps_X3_isTold : GoodIn wsX7_caps (wsV RX7 145 RX3 yX3_isTold wsX3_isTold) := goodIn_app (goodIn_sub (List.forall_mem_cons.mpr ⟨mx_X7_caps_8, List.forall_mem_cons.mpr ⟨mx_X7_caps_9, List.forall_mem_cons.mpr ⟨mx_X7_caps_10, List.forall_mem_cons.mpr ⟨mx_X7_caps_11, fun _ h_ => absurd h_ List.not_mem_nil⟩⟩⟩⟩) (by decide +kernel)) ggX7_caps_X3_isTold
theorem mb_X7_copy_wsX7_copy_r1 {w : Cond} (h : w ∈ wsX7_copy_r1) : w ∈ wsX7_copy := by unfold wsX7_copy; exact List.mem_cons_of_mem _ (List.mem_append_left _ (List.mem_append_left _ (List.mem_append_left _ (h))))
theorem mx_X7_copy_10 : Cond.code yX5_findingOfMove cX5_findingOfMove 6 (some .int) ∈ wsX7_copy := mb_X7_copy_wsX7_copy_r1 (List.mem_of_getElem? (i := 9) rfl)
theorem mx_X7_copy_11 : Cond.fieldLink RX5 16 "MillTalk$Rows" "lanes" "[I" ∈ wsX7_copy := mb_X7_copy_wsX7_copy_r1 (List.mem_of_getElem? (i := 10) rfl)
theorem mx_X7_copy_12 : Cond.methodLink RX5 29 yX5_isMissing ∈ wsX7_copy := mb_X7_copy_wsX7_copy_r1 (List.mem_of_getElem? (i := 11) rfl)
theorem mx_X7_copy_13 : Cond.instanceMethod yX5_isMissing ∈ wsX7_copy := mb_X7_copy_wsX7_copy_r1 (List.mem_of_getElem? (i := 12) rfl)
theorem mx_X7_copy_14 : Cond.selects RX5 yX5_isMissing yX5_isMissing ∈ wsX7_copy := mb_X7_copy_wsX7_copy_r1 (List.mem_of_getElem? (i := 13) rfl)
theorem mx_X7_copy_5 : Cond.initialized RX5 ∈ wsX7_copy := mb_X7_copy_wsX7_copy_r1 (List.mem_of_getElem? (i := 4) rfl)
theorem mx_X7_copy_15 : Cond.code yX5_isMissing cX5_isMissing 2 (some .boolean) ∈ wsX7_copy := mb_X7_copy_wsX7_copy_r1 (List.mem_of_getElem? (i := 14) rfl)
theorem mx_X7_copy_16 : Cond.methodLink RX5 33 yX5_hasPlaces ∈ wsX7_copy := mb_X7_copy_wsX7_copy_r1 (List.mem_of_getElem? (i := 15) rfl)
theorem mx_X7_copy_17 : Cond.instanceMethod yX5_hasPlaces ∈ wsX7_copy := mb_X7_copy_wsX7_copy_r1 (List.mem_of_getElem? (i := 16) rfl)
theorem mx_X7_copy_18 : Cond.selects RX5 yX5_hasPlaces yX5_hasPlaces ∈ wsX7_copy := mb_X7_copy_wsX7_copy_r1 (List.mem_of_getElem? (i := 17) rfl)
theorem mx_X7_copy_19 : Cond.code yX5_hasPlaces cX5_hasPlaces 4 (some .boolean) ∈ wsX7_copy := mb_X7_copy_wsX7_copy_r1 (List.mem_of_getElem? (i := 18) rfl)
theorem mx_X7_copy_20 : Cond.fieldLink RX5 20 "MillTalk$Rows" "lengths" "[I" ∈ wsX7_copy := mb_X7_copy_wsX7_copy_r1 (List.mem_of_getElem? (i := 19) rfl)
theorem mb_X7_copy_wsX50 {w : Cond} (h : w ∈ wsX50) : w ∈ wsX7_copy := by unfold wsX7_copy; exact List.mem_cons_of_mem _ (List.mem_append_right _ (h))
theorem ggX7_copy_X5_findingOfMove : GoodIn wsX7_copy wsX5_findingOfMove := goodIn_sub (by unfold wsX5_findingOfMove; exact List.forall_mem_cons.mpr ⟨mx_X7_copy_10, List.forall_mem_append.mpr ⟨List.forall_mem_cons.mpr ⟨mx_X7_copy_11, List.forall_mem_cons.mpr ⟨mx_X7_copy_12, List.forall_mem_cons.mpr ⟨mx_X7_copy_13, List.forall_mem_cons.mpr ⟨mx_X7_copy_14, List.forall_mem_cons.mpr ⟨mx_X7_copy_5, List.forall_mem_cons.mpr ⟨mx_X7_copy_15, List.forall_mem_cons.mpr ⟨mx_X7_copy_16, List.forall_mem_cons.mpr ⟨mx_X7_copy_17, List.forall_mem_cons.mpr ⟨mx_X7_copy_18, List.forall_mem_cons.mpr ⟨mx_X7_copy_19, List.forall_mem_cons.mpr ⟨mx_X7_copy_20, fun _ h_ => absurd h_ List.not_mem_nil⟩⟩⟩⟩⟩⟩⟩⟩⟩⟩⟩, (fun _ h_ => mb_X7_copy_wsX50 h_)⟩⟩) (by decide +kernel)
theorem mx_X7_copy_7 : Cond.methodLink RX7 91 yX5_findingOfMove ∈ wsX7_copy := mb_X7_copy_wsX7_copy_r1 (List.mem_of_getElem? (i := 6) rfl)
theorem mx_X7_copy_8 : Cond.instanceMethod yX5_findingOfMove ∈ wsX7_copy := mb_X7_copy_wsX7_copy_r1 (List.mem_of_getElem? (i := 7) rfl)
theorem mx_X7_copy_9 : Cond.selects RX5 yX5_findingOfMove yX5_findingOfMove ∈ wsX7_copy := mb_X7_copy_wsX7_copy_r1 (List.mem_of_getElem? (i := 8) rfl)
theorem gX7_copy_X5_findingOfMove : GoodIn wsX7_copy (wsV RX7 91 RX5 yX5_findingOfMove wsX5_findingOfMove) := goodIn_app (goodIn_sub (List.forall_mem_cons.mpr ⟨mx_X7_copy_7, List.forall_mem_cons.mpr ⟨mx_X7_copy_8, List.forall_mem_cons.mpr ⟨mx_X7_copy_9, List.forall_mem_cons.mpr ⟨mx_X7_copy_5, fun _ h_ => absurd h_ List.not_mem_nil⟩⟩⟩⟩) (by decide +kernel)) ggX7_copy_X5_findingOfMove
theorem mx_X7_copy_6 : Cond.code yX5_isRow cX5_isRow 1 (some .boolean) ∈ wsX7_copy := mb_X7_copy_wsX7_copy_r1 (List.mem_of_getElem? (i := 5) rfl)
theorem ggX7_copy_X5_isRow : GoodIn wsX7_copy wsX5_isRow := goodIn_sub (by unfold wsX5_isRow; exact List.forall_mem_cons.mpr ⟨mx_X7_copy_6, fun _ h_ => absurd h_ List.not_mem_nil⟩) (by decide +kernel)
set_option maxRecDepth 20000 in
theorem gX7_copy_X5_isRow : GoodIn wsX7_copy (va_wsS RX7 65 yX5_isRow wsX5_isRow) := goodIn_app (goodIn_of _ (by decide +kernel)) ggX7_copy_X5_isRow
theorem mb_X7_copy_wsX7_copy_r2 {w : Cond} (h : w ∈ wsX7_copy_r2) : w ∈ wsX7_copy := by unfold wsX7_copy; exact List.mem_cons_of_mem _ (List.mem_append_left _ (List.mem_append_left _ (List.mem_append_right _ (h))))
theorem mx_X7_copy_31 : Cond.code yX5_move cX5_move 6 none ∈ wsX7_copy := mb_X7_copy_wsX7_copy_r2 (List.mem_of_getElem? (i := 6) rfl)
theorem mx_X7_copy_32 : Cond.fieldLink RX5 13 "MillTalk$Rows" "items" "[[I" ∈ wsX7_copy := mb_X7_copy_wsX7_copy_r2 (List.mem_of_getElem? (i := 7) rfl)
theorem mx_X7_copy_33 : Cond.methodLink RX5 37 arraycopyName ∈ wsX7_copy := mb_X7_copy_wsX7_copy_r2 (List.mem_of_getElem? (i := 8) rfl)
theorem mx_X7_copy_34 : Cond.native arraycopyName ∈ wsX7_copy := mb_X7_copy_wsX7_copy_r2 (List.mem_of_getElem? (i := 9) rfl)
theorem mx_X7_copy_35 : Cond.static arraycopyName ∈ wsX7_copy := mb_X7_copy_wsX7_copy_r2 (List.mem_of_getElem? (i := 10) rfl)
theorem mx_X7_copy_36 : Cond.initialized "java/lang/System" ∈ wsX7_copy := mb_X7_copy_wsX7_copy_r2 (List.mem_of_getElem? (i := 11) rfl)
theorem ggX7_copy_X5_move : GoodIn wsX7_copy wsX5_move := goodIn_sub (by unfold wsX5_move; exact List.forall_mem_cons.mpr ⟨mx_X7_copy_31, List.forall_mem_append.mpr ⟨List.forall_mem_cons.mpr ⟨mx_X7_copy_32, List.forall_mem_cons.mpr ⟨mx_X7_copy_33, List.forall_mem_cons.mpr ⟨mx_X7_copy_34, List.forall_mem_cons.mpr ⟨mx_X7_copy_35, List.forall_mem_cons.mpr ⟨mx_X7_copy_36, fun _ h_ => absurd h_ List.not_mem_nil⟩⟩⟩⟩⟩, (fun _ h_ => mb_X7_copy_wsX50 h_)⟩⟩) (by decide +kernel)
theorem mx_X7_copy_28 : Cond.methodLink RX7 95 yX5_move ∈ wsX7_copy := mb_X7_copy_wsX7_copy_r2 (List.mem_of_getElem? (i := 3) rfl)
theorem mx_X7_copy_29 : Cond.instanceMethod yX5_move ∈ wsX7_copy := mb_X7_copy_wsX7_copy_r2 (List.mem_of_getElem? (i := 4) rfl)
theorem mx_X7_copy_30 : Cond.selects RX5 yX5_move yX5_move ∈ wsX7_copy := mb_X7_copy_wsX7_copy_r2 (List.mem_of_getElem? (i := 5) rfl)
theorem gX7_copy_X5_move : GoodIn wsX7_copy (wsV RX7 95 RX5 yX5_move wsX5_move) := goodIn_app (goodIn_sub (List.forall_mem_cons.mpr ⟨mx_X7_copy_28, List.forall_mem_cons.mpr ⟨mx_X7_copy_29, List.forall_mem_cons.mpr ⟨mx_X7_copy_30, List.forall_mem_cons.mpr ⟨mx_X7_copy_5, fun _ h_ => absurd h_ List.not_mem_nil⟩⟩⟩⟩) (by decide +kernel)) ggX7_copy_X5_move
theorem mx_X7_copy_25 : Cond.code yX7_found cX7_found 2 (some .int) ∈ wsX7_copy := mb_X7_copy_wsX7_copy_r2 (List.mem_of_getElem? (i := 0) rfl)
theorem mx_X7_copy_26 : Cond.fieldLink RX7 323 "MillTalk" "latestFinding" "I" ∈ wsX7_copy := mb_X7_copy_wsX7_copy_r2 (List.mem_of_getElem? (i := 1) rfl)
theorem mx_X7_copy_27 : Cond.constant RX7 326 (-1000010) ∈ wsX7_copy := mb_X7_copy_wsX7_copy_r2 (List.mem_of_getElem? (i := 2) rfl)
theorem mb_X7_copy_wsX70 {w : Cond} (h : w ∈ wsX70) : w ∈ wsX7_copy := by unfold wsX7_copy; exact List.mem_cons_of_mem _ (List.mem_append_left _ (List.mem_append_right _ (h)))
theorem ggX7_copy_X7_found : GoodIn wsX7_copy wsX7_found := goodIn_sub (by unfold wsX7_found; exact List.forall_mem_cons.mpr ⟨mx_X7_copy_25, List.forall_mem_append.mpr ⟨List.forall_mem_cons.mpr ⟨mx_X7_copy_26, List.forall_mem_cons.mpr ⟨mx_X7_copy_27, fun _ h_ => absurd h_ List.not_mem_nil⟩⟩, (fun _ h_ => mb_X7_copy_wsX70 h_)⟩⟩) (by decide +kernel)
theorem mx_X7_copy_21 : Cond.methodLink RX7 73 yX7_found ∈ wsX7_copy := mb_X7_copy_wsX7_copy_r1 (List.mem_of_getElem? (i := 20) rfl)
theorem mx_X7_copy_22 : Cond.instanceMethod yX7_found ∈ wsX7_copy := mb_X7_copy_wsX7_copy_r1 (List.mem_of_getElem? (i := 21) rfl)
theorem mx_X7_copy_23 : Cond.selects RX7 yX7_found yX7_found ∈ wsX7_copy := mb_X7_copy_wsX7_copy_r1 (List.mem_of_getElem? (i := 22) rfl)
theorem mx_X7_copy_24 : Cond.initialized RX7 ∈ wsX7_copy := mb_X7_copy_wsX7_copy_r1 (List.mem_of_getElem? (i := 23) rfl)
theorem gX7_copy_X7_found : GoodIn wsX7_copy (wsV RX7 73 RX7 yX7_found wsX7_found) := goodIn_app (goodIn_sub (List.forall_mem_cons.mpr ⟨mx_X7_copy_21, List.forall_mem_cons.mpr ⟨mx_X7_copy_22, List.forall_mem_cons.mpr ⟨mx_X7_copy_23, List.forall_mem_cons.mpr ⟨mx_X7_copy_24, fun _ h_ => absurd h_ List.not_mem_nil⟩⟩⟩⟩) (by decide +kernel)) ggX7_copy_X7_found
theorem mx_X7_copy_40 : Cond.code yX7_foundNothing cX7_foundNothing 2 (some .int) ∈ wsX7_copy := mb_X7_copy_wsX7_copy_r2 (List.mem_of_getElem? (i := 15) rfl)
theorem ggX7_copy_X7_foundNothing : GoodIn wsX7_copy wsX7_foundNothing := goodIn_sub (by unfold wsX7_foundNothing; exact List.forall_mem_cons.mpr ⟨mx_X7_copy_40, List.forall_mem_append.mpr ⟨List.forall_mem_cons.mpr ⟨mx_X7_copy_26, fun _ h_ => absurd h_ List.not_mem_nil⟩, (fun _ h_ => mb_X7_copy_wsX70 h_)⟩⟩) (by decide +kernel)
theorem mx_X7_copy_37 : Cond.methodLink RX7 81 yX7_foundNothing ∈ wsX7_copy := mb_X7_copy_wsX7_copy_r2 (List.mem_of_getElem? (i := 12) rfl)
theorem mx_X7_copy_38 : Cond.instanceMethod yX7_foundNothing ∈ wsX7_copy := mb_X7_copy_wsX7_copy_r2 (List.mem_of_getElem? (i := 13) rfl)
theorem mx_X7_copy_39 : Cond.selects RX7 yX7_foundNothing yX7_foundNothing ∈ wsX7_copy := mb_X7_copy_wsX7_copy_r2 (List.mem_of_getElem? (i := 14) rfl)
theorem gX7_copy_X7_foundNothing : GoodIn wsX7_copy (wsV RX7 81 RX7 yX7_foundNothing wsX7_foundNothing) := goodIn_app (goodIn_sub (List.forall_mem_cons.mpr ⟨mx_X7_copy_37, List.forall_mem_cons.mpr ⟨mx_X7_copy_38, List.forall_mem_cons.mpr ⟨mx_X7_copy_39, List.forall_mem_cons.mpr ⟨mx_X7_copy_24, fun _ h_ => absurd h_ List.not_mem_nil⟩⟩⟩⟩) (by decide +kernel)) ggX7_copy_X7_foundNothing
theorem mb_X7_drop_wsX7_drop_r1 {w : Cond} (h : w ∈ wsX7_drop_r1) : w ∈ wsX7_drop := by unfold wsX7_drop; exact List.mem_cons_of_mem _ (List.mem_append_left _ (List.mem_append_left _ (List.mem_append_left _ (h))))
theorem mx_X7_drop_10 : Cond.code yX5_isMissing cX5_isMissing 2 (some .boolean) ∈ wsX7_drop := mb_X7_drop_wsX7_drop_r1 (List.mem_of_getElem? (i := 9) rfl)
theorem mx_X7_drop_11 : Cond.fieldLink RX5 16 "MillTalk$Rows" "lanes" "[I" ∈ wsX7_drop := mb_X7_drop_wsX7_drop_r1 (List.mem_of_getElem? (i := 10) rfl)
theorem mb_X7_drop_wsX50 {w : Cond} (h : w ∈ wsX50) : w ∈ wsX7_drop := by unfold wsX7_drop; exact List.mem_cons_of_mem _ (List.mem_append_right _ (h))
theorem ggX7_drop_X5_isMissing : GoodIn wsX7_drop wsX5_isMissing := goodIn_sub (by unfold wsX5_isMissing; exact List.forall_mem_cons.mpr ⟨mx_X7_drop_10, List.forall_mem_append.mpr ⟨List.forall_mem_cons.mpr ⟨mx_X7_drop_11, fun _ h_ => absurd h_ List.not_mem_nil⟩, (fun _ h_ => mb_X7_drop_wsX50 h_)⟩⟩) (by decide +kernel)
theorem mx_X7_drop_7 : Cond.methodLink RX7 99 yX5_isMissing ∈ wsX7_drop := mb_X7_drop_wsX7_drop_r1 (List.mem_of_getElem? (i := 6) rfl)
theorem mx_X7_drop_8 : Cond.instanceMethod yX5_isMissing ∈ wsX7_drop := mb_X7_drop_wsX7_drop_r1 (List.mem_of_getElem? (i := 7) rfl)
theorem mx_X7_drop_9 : Cond.selects RX5 yX5_isMissing yX5_isMissing ∈ wsX7_drop := mb_X7_drop_wsX7_drop_r1 (List.mem_of_getElem? (i := 8) rfl)
theorem mx_X7_drop_5 : Cond.initialized RX5 ∈ wsX7_drop := mb_X7_drop_wsX7_drop_r1 (List.mem_of_getElem? (i := 4) rfl)
theorem gX7_drop_X5_isMissing : GoodIn wsX7_drop (wsV RX7 99 RX5 yX5_isMissing wsX5_isMissing) := goodIn_app (goodIn_sub (List.forall_mem_cons.mpr ⟨mx_X7_drop_7, List.forall_mem_cons.mpr ⟨mx_X7_drop_8, List.forall_mem_cons.mpr ⟨mx_X7_drop_9, List.forall_mem_cons.mpr ⟨mx_X7_drop_5, fun _ h_ => absurd h_ List.not_mem_nil⟩⟩⟩⟩) (by decide +kernel)) ggX7_drop_X5_isMissing
theorem mx_X7_drop_6 : Cond.code yX5_isRow cX5_isRow 1 (some .boolean) ∈ wsX7_drop := mb_X7_drop_wsX7_drop_r1 (List.mem_of_getElem? (i := 5) rfl)
theorem ggX7_drop_X5_isRow : GoodIn wsX7_drop wsX5_isRow := goodIn_sub (by unfold wsX5_isRow; exact List.forall_mem_cons.mpr ⟨mx_X7_drop_6, fun _ h_ => absurd h_ List.not_mem_nil⟩) (by decide +kernel)
set_option maxRecDepth 20000 in
theorem gX7_drop_X5_isRow : GoodIn wsX7_drop (va_wsS RX7 65 yX5_isRow wsX5_isRow) := goodIn_app (goodIn_of _ (by decide +kernel)) ggX7_drop_X5_isRow
theorem mx_X7_drop_22 : Cond.code yX5_remove cX5_remove 2 (some .int) ∈ wsX7_drop := mb_X7_drop_wsX7_drop_r1 (List.mem_of_getElem? (i := 21) rfl)
theorem mx_X7_drop_23 : Cond.fieldLink RX5 20 "MillTalk$Rows" "lengths" "[I" ∈ wsX7_drop := mb_X7_drop_wsX7_drop_r1 (List.mem_of_getElem? (i := 22) rfl)
theorem ggX7_drop_X5_remove : GoodIn wsX7_drop wsX5_remove := goodIn_sub (by unfold wsX5_remove; exact List.forall_mem_cons.mpr ⟨mx_X7_drop_22, List.forall_mem_append.mpr ⟨List.forall_mem_cons.mpr ⟨mx_X7_drop_11, List.forall_mem_cons.mpr ⟨mx_X7_drop_23, fun _ h_ => absurd h_ List.not_mem_nil⟩⟩, (fun _ h_ => mb_X7_drop_wsX50 h_)⟩⟩) (by decide +kernel)
theorem mx_X7_drop_19 : Cond.methodLink RX7 102 yX5_remove ∈ wsX7_drop := mb_X7_drop_wsX7_drop_r1 (List.mem_of_getElem? (i := 18) rfl)
theorem mx_X7_drop_20 : Cond.instanceMethod yX5_remove ∈ wsX7_drop := mb_X7_drop_wsX7_drop_r1 (List.mem_of_getElem? (i := 19) rfl)
theorem mx_X7_drop_21 : Cond.selects RX5 yX5_remove yX5_remove ∈ wsX7_drop := mb_X7_drop_wsX7_drop_r1 (List.mem_of_getElem? (i := 20) rfl)
theorem gX7_drop_X5_remove : GoodIn wsX7_drop (wsV RX7 102 RX5 yX5_remove wsX5_remove) := goodIn_app (goodIn_sub (List.forall_mem_cons.mpr ⟨mx_X7_drop_19, List.forall_mem_cons.mpr ⟨mx_X7_drop_20, List.forall_mem_cons.mpr ⟨mx_X7_drop_21, List.forall_mem_cons.mpr ⟨mx_X7_drop_5, fun _ h_ => absurd h_ List.not_mem_nil⟩⟩⟩⟩) (by decide +kernel)) ggX7_drop_X5_remove
theorem mx_X7_drop_16 : Cond.code yX7_found cX7_found 2 (some .int) ∈ wsX7_drop := mb_X7_drop_wsX7_drop_r1 (List.mem_of_getElem? (i := 15) rfl)
theorem mx_X7_drop_17 : Cond.fieldLink RX7 323 "MillTalk" "latestFinding" "I" ∈ wsX7_drop := mb_X7_drop_wsX7_drop_r1 (List.mem_of_getElem? (i := 16) rfl)
theorem mx_X7_drop_18 : Cond.constant RX7 326 (-1000010) ∈ wsX7_drop := mb_X7_drop_wsX7_drop_r1 (List.mem_of_getElem? (i := 17) rfl)
theorem mb_X7_drop_wsX70 {w : Cond} (h : w ∈ wsX70) : w ∈ wsX7_drop := by unfold wsX7_drop; exact List.mem_cons_of_mem _ (List.mem_append_left _ (List.mem_append_right _ (h)))
theorem ggX7_drop_X7_found : GoodIn wsX7_drop wsX7_found := goodIn_sub (by unfold wsX7_found; exact List.forall_mem_cons.mpr ⟨mx_X7_drop_16, List.forall_mem_append.mpr ⟨List.forall_mem_cons.mpr ⟨mx_X7_drop_17, List.forall_mem_cons.mpr ⟨mx_X7_drop_18, fun _ h_ => absurd h_ List.not_mem_nil⟩⟩, (fun _ h_ => mb_X7_drop_wsX70 h_)⟩⟩) (by decide +kernel)
theorem mx_X7_drop_12 : Cond.methodLink RX7 73 yX7_found ∈ wsX7_drop := mb_X7_drop_wsX7_drop_r1 (List.mem_of_getElem? (i := 11) rfl)
theorem mx_X7_drop_13 : Cond.instanceMethod yX7_found ∈ wsX7_drop := mb_X7_drop_wsX7_drop_r1 (List.mem_of_getElem? (i := 12) rfl)
theorem mx_X7_drop_14 : Cond.selects RX7 yX7_found yX7_found ∈ wsX7_drop := mb_X7_drop_wsX7_drop_r1 (List.mem_of_getElem? (i := 13) rfl)
theorem mx_X7_drop_15 : Cond.initialized RX7 ∈ wsX7_drop := mb_X7_drop_wsX7_drop_r1 (List.mem_of_getElem? (i := 14) rfl)
theorem gX7_drop_X7_found : GoodIn wsX7_drop (wsV RX7 73 RX7 yX7_found wsX7_found) := goodIn_app (goodIn_sub (List.forall_mem_cons.mpr ⟨mx_X7_drop_12, List.forall_mem_cons.mpr ⟨mx_X7_drop_13, List.forall_mem_cons.mpr ⟨mx_X7_drop_14, List.forall_mem_cons.mpr ⟨mx_X7_drop_15, fun _ h_ => absurd h_ List.not_mem_nil⟩⟩⟩⟩) (by decide +kernel)) ggX7_drop_X7_found
theorem mb_X7_drop_wsX7_drop_r2 {w : Cond} (h : w ∈ wsX7_drop_r2) : w ∈ wsX7_drop := by unfold wsX7_drop; exact List.mem_cons_of_mem _ (List.mem_append_left _ (List.mem_append_left _ (List.mem_append_right _ (h))))
theorem mx_X7_drop_27 : Cond.code yX7_foundNothing cX7_foundNothing 2 (some .int) ∈ wsX7_drop := mb_X7_drop_wsX7_drop_r2 (List.mem_of_getElem? (i := 2) rfl)
theorem ggX7_drop_X7_foundNothing : GoodIn wsX7_drop wsX7_foundNothing := goodIn_sub (by unfold wsX7_foundNothing; exact List.forall_mem_cons.mpr ⟨mx_X7_drop_27, List.forall_mem_append.mpr ⟨List.forall_mem_cons.mpr ⟨mx_X7_drop_17, fun _ h_ => absurd h_ List.not_mem_nil⟩, (fun _ h_ => mb_X7_drop_wsX70 h_)⟩⟩) (by decide +kernel)
theorem mx_X7_drop_24 : Cond.methodLink RX7 81 yX7_foundNothing ∈ wsX7_drop := mb_X7_drop_wsX7_drop_r1 (List.mem_of_getElem? (i := 23) rfl)
theorem mx_X7_drop_25 : Cond.instanceMethod yX7_foundNothing ∈ wsX7_drop := mb_X7_drop_wsX7_drop_r2 (List.mem_of_getElem? (i := 0) rfl)
theorem mx_X7_drop_26 : Cond.selects RX7 yX7_foundNothing yX7_foundNothing ∈ wsX7_drop := mb_X7_drop_wsX7_drop_r2 (List.mem_of_getElem? (i := 1) rfl)
theorem gX7_drop_X7_foundNothing : GoodIn wsX7_drop (wsV RX7 81 RX7 yX7_foundNothing wsX7_foundNothing) := goodIn_app (goodIn_sub (List.forall_mem_cons.mpr ⟨mx_X7_drop_24, List.forall_mem_cons.mpr ⟨mx_X7_drop_25, List.forall_mem_cons.mpr ⟨mx_X7_drop_26, List.forall_mem_cons.mpr ⟨mx_X7_drop_15, fun _ h_ => absurd h_ List.not_mem_nil⟩⟩⟩⟩) (by decide +kernel)) ggX7_drop_X7_foundNothing
theorem mx_X7_feed_13 : Cond.code yX6_append cX6_append 2 (some .int) ∈ wsX7_feed := by unfold wsX7_feed; exact List.mem_cons_of_mem _ (List.mem_append_left _ (List.mem_append_left _ (List.mem_of_getElem? (i := 12) rfl)))
theorem mx_X7_feed_14 : Cond.fieldLink RX6 11 "MillTalk$Tape" "bytes" "[I" ∈ wsX7_feed := by unfold wsX7_feed; exact List.mem_cons_of_mem _ (List.mem_append_left _ (List.mem_append_left _ (List.mem_of_getElem? (i := 13) rfl)))
theorem mx_X7_feed_9 : Cond.fieldLink RX6 22 "MillTalk$Tape" "size" "I" ∈ wsX7_feed := by unfold wsX7_feed; exact List.mem_cons_of_mem _ (List.mem_append_left _ (List.mem_append_left _ (List.mem_of_getElem? (i := 8) rfl)))
theorem mx_X7_feed_15 : Cond.methodLink RX6 26 yX6_isFull ∈ wsX7_feed := by unfold wsX7_feed; exact List.mem_cons_of_mem _ (List.mem_append_left _ (List.mem_append_left _ (List.mem_of_getElem? (i := 14) rfl)))
theorem mx_X7_feed_5 : Cond.instanceMethod yX6_isFull ∈ wsX7_feed := by unfold wsX7_feed; exact List.mem_cons_of_mem _ (List.mem_append_left _ (List.mem_append_left _ (List.mem_of_getElem? (i := 4) rfl)))
theorem mx_X7_feed_6 : Cond.selects RX6 yX6_isFull yX6_isFull ∈ wsX7_feed := by unfold wsX7_feed; exact List.mem_cons_of_mem _ (List.mem_append_left _ (List.mem_append_left _ (List.mem_of_getElem? (i := 5) rfl)))
theorem mx_X7_feed_7 : Cond.initialized RX6 ∈ wsX7_feed := by unfold wsX7_feed; exact List.mem_cons_of_mem _ (List.mem_append_left _ (List.mem_append_left _ (List.mem_of_getElem? (i := 6) rfl)))
theorem mx_X7_feed_8 : Cond.code yX6_isFull cX6_isFull 1 (some .boolean) ∈ wsX7_feed := by unfold wsX7_feed; exact List.mem_cons_of_mem _ (List.mem_append_left _ (List.mem_append_left _ (List.mem_of_getElem? (i := 7) rfl)))
theorem mb_X7_feed_wsX60 {w : Cond} (h : w ∈ wsX60) : w ∈ wsX7_feed := by unfold wsX7_feed; exact List.mem_cons_of_mem _ (List.mem_append_right _ (h))
theorem ggX7_feed_X6_append : GoodIn wsX7_feed wsX6_append := goodIn_sub (by unfold wsX6_append; exact List.forall_mem_cons.mpr ⟨mx_X7_feed_13, List.forall_mem_append.mpr ⟨List.forall_mem_cons.mpr ⟨mx_X7_feed_14, List.forall_mem_cons.mpr ⟨mx_X7_feed_9, List.forall_mem_cons.mpr ⟨mx_X7_feed_15, List.forall_mem_cons.mpr ⟨mx_X7_feed_5, List.forall_mem_cons.mpr ⟨mx_X7_feed_6, List.forall_mem_cons.mpr ⟨mx_X7_feed_7, List.forall_mem_cons.mpr ⟨mx_X7_feed_8, fun _ h_ => absurd h_ List.not_mem_nil⟩⟩⟩⟩⟩⟩⟩, (fun _ h_ => mb_X7_feed_wsX60 h_)⟩⟩) (by decide +kernel)
theorem mx_X7_feed_10 : Cond.methodLink RX7 110 yX6_append ∈ wsX7_feed := by unfold wsX7_feed; exact List.mem_cons_of_mem _ (List.mem_append_left _ (List.mem_append_left _ (List.mem_of_getElem? (i := 9) rfl)))
theorem mx_X7_feed_11 : Cond.instanceMethod yX6_append ∈ wsX7_feed := by unfold wsX7_feed; exact List.mem_cons_of_mem _ (List.mem_append_left _ (List.mem_append_left _ (List.mem_of_getElem? (i := 10) rfl)))
theorem mx_X7_feed_12 : Cond.selects RX6 yX6_append yX6_append ∈ wsX7_feed := by unfold wsX7_feed; exact List.mem_cons_of_mem _ (List.mem_append_left _ (List.mem_append_left _ (List.mem_of_getElem? (i := 11) rfl)))
theorem gX7_feed_X6_append : GoodIn wsX7_feed (wsV RX7 110 RX6 yX6_append wsX6_append) := goodIn_app (goodIn_sub (List.forall_mem_cons.mpr ⟨mx_X7_feed_10, List.forall_mem_cons.mpr ⟨mx_X7_feed_11, List.forall_mem_cons.mpr ⟨mx_X7_feed_12, List.forall_mem_cons.mpr ⟨mx_X7_feed_7, fun _ h_ => absurd h_ List.not_mem_nil⟩⟩⟩⟩) (by decide +kernel)) ggX7_feed_X6_append
theorem ggX7_feed_X6_isFull : GoodIn wsX7_feed wsX6_isFull := goodIn_sub (by unfold wsX6_isFull; exact List.forall_mem_cons.mpr ⟨mx_X7_feed_8, List.forall_mem_append.mpr ⟨List.forall_mem_cons.mpr ⟨mx_X7_feed_9, fun _ h_ => absurd h_ List.not_mem_nil⟩, (fun _ h_ => mb_X7_feed_wsX60 h_)⟩⟩) (by decide +kernel)
theorem mx_X7_feed_4 : Cond.methodLink RX7 105 yX6_isFull ∈ wsX7_feed := by unfold wsX7_feed; exact List.mem_cons_of_mem _ (List.mem_append_left _ (List.mem_append_left _ (List.mem_of_getElem? (i := 3) rfl)))
theorem gX7_feed_X6_isFull : GoodIn wsX7_feed (wsV RX7 105 RX6 yX6_isFull wsX6_isFull) := goodIn_app (goodIn_sub (List.forall_mem_cons.mpr ⟨mx_X7_feed_4, List.forall_mem_cons.mpr ⟨mx_X7_feed_5, List.forall_mem_cons.mpr ⟨mx_X7_feed_6, List.forall_mem_cons.mpr ⟨mx_X7_feed_7, fun _ h_ => absurd h_ List.not_mem_nil⟩⟩⟩⟩) (by decide +kernel)) ggX7_feed_X6_isFull
theorem mb_X7_had_wsX7_had_r1 {w : Cond} (h : w ∈ wsX7_had_r1) : w ∈ wsX7_had := by unfold wsX7_had; exact List.mem_cons_of_mem _ (List.mem_append_left _ (List.mem_append_left _ (List.mem_append_left _ (List.mem_append_left _ (h)))))
theorem mx_X7_had_18 : Cond.code yX2_isLength cX2_isLength 1 (some .boolean) ∈ wsX7_had := mb_X7_had_wsX7_had_r1 (List.mem_of_getElem? (i := 17) rfl)
theorem ggX7_had_X2_isLength : GoodIn wsX7_had wsX2_isLength := goodIn_sub (by unfold wsX2_isLength; exact List.forall_mem_cons.mpr ⟨mx_X7_had_18, fun _ h_ => absurd h_ List.not_mem_nil⟩) (by decide +kernel)
set_option maxRecDepth 20000 in
theorem gX7_had_X2_isLength : GoodIn wsX7_had (va_wsS RX7 221 yX2_isLength wsX2_isLength) := goodIn_app (goodIn_of _ (by decide +kernel)) ggX7_had_X2_isLength
theorem mx_X7_had_22 : Cond.code yX2_search cX2_search 4 none ∈ wsX7_had := mb_X7_had_wsX7_had_r1 (List.mem_of_getElem? (i := 21) rfl)
theorem mx_X7_had_23 : Cond.fieldLink RX2 18 "MillTalk$CapSearch" "hours" "I" ∈ wsX7_had := mb_X7_had_wsX7_had_r1 (List.mem_of_getElem? (i := 22) rfl)
theorem mx_X7_had_24 : Cond.fieldLink RX2 22 "MillTalk$CapSearch" "wanted" "I" ∈ wsX7_had := mb_X7_had_wsX7_had_r1 (List.mem_of_getElem? (i := 23) rfl)
theorem mb_X7_had_wsX7_had_r2 {w : Cond} (h : w ∈ wsX7_had_r2) : w ∈ wsX7_had := by unfold wsX7_had; exact List.mem_cons_of_mem _ (List.mem_append_left _ (List.mem_append_left _ (List.mem_append_left _ (List.mem_append_right _ (List.mem_append_left _ (h))))))
theorem mx_X7_had_25 : Cond.fieldLink RX2 25 "MillTalk$CapSearch" "bestRow" "I" ∈ wsX7_had := mb_X7_had_wsX7_had_r2 (List.mem_of_getElem? (i := 0) rfl)
theorem mx_X7_had_26 : Cond.fieldLink RX2 28 "MillTalk$CapSearch" "bestWorth" "I" ∈ wsX7_had := mb_X7_had_wsX7_had_r2 (List.mem_of_getElem? (i := 1) rfl)
theorem mx_X7_had_27 : Cond.fieldLink RX2 31 "MillTalk$CapSearch" "bestTurns" "I" ∈ wsX7_had := mb_X7_had_wsX7_had_r2 (List.mem_of_getElem? (i := 2) rfl)
theorem mx_X7_had_28 : Cond.fieldLink RX2 13 "MillTalk$CapSearch" "behind" "[LMillTalk$Level;" ∈ wsX7_had := mb_X7_had_wsX7_had_r2 (List.mem_of_getElem? (i := 3) rfl)
theorem mx_X7_had_29 : Cond.methodLink RX2 34 yX3_becomeLike ∈ wsX7_had := mb_X7_had_wsX7_had_r2 (List.mem_of_getElem? (i := 4) rfl)
theorem mx_X7_had_30 : Cond.instanceMethod yX3_becomeLike ∈ wsX7_had := mb_X7_had_wsX7_had_r2 (List.mem_of_getElem? (i := 5) rfl)
theorem mx_X7_had_31 : Cond.selects RX3 yX3_becomeLike yX3_becomeLike ∈ wsX7_had := mb_X7_had_wsX7_had_r2 (List.mem_of_getElem? (i := 6) rfl)
theorem mx_X7_had_12 : Cond.initialized RX3 ∈ wsX7_had := mb_X7_had_wsX7_had_r1 (List.mem_of_getElem? (i := 11) rfl)
theorem mx_X7_had_32 : Cond.code yX3_becomeLike cX3_becomeLike 2 none ∈ wsX7_had := mb_X7_had_wsX7_had_r2 (List.mem_of_getElem? (i := 7) rfl)
theorem mx_X7_had_14 : Cond.fieldLink RX3 27 "MillTalk$Level" "cells" "I" ∈ wsX7_had := mb_X7_had_wsX7_had_r1 (List.mem_of_getElem? (i := 13) rfl)
theorem mx_X7_had_33 : Cond.fieldLink RX3 31 "MillTalk$Level" "mill" "I" ∈ wsX7_had := mb_X7_had_wsX7_had_r2 (List.mem_of_getElem? (i := 8) rfl)
theorem mx_X7_had_34 : Cond.fieldLink RX3 34 "MillTalk$Level" "reach" "I" ∈ wsX7_had := mb_X7_had_wsX7_had_r2 (List.mem_of_getElem? (i := 9) rfl)
theorem mx_X7_had_35 : Cond.fieldLink RX3 37 "MillTalk$Level" "cap" "I" ∈ wsX7_had := mb_X7_had_wsX7_had_r2 (List.mem_of_getElem? (i := 10) rfl)
theorem mx_X7_had_36 : Cond.fieldLink RX3 40 "MillTalk$Level" "hour" "I" ∈ wsX7_had := mb_X7_had_wsX7_had_r2 (List.mem_of_getElem? (i := 11) rfl)
theorem mx_X7_had_37 : Cond.fieldLink RX3 43 "MillTalk$Level" "meal" "I" ∈ wsX7_had := mb_X7_had_wsX7_had_r2 (List.mem_of_getElem? (i := 12) rfl)
theorem mx_X7_had_38 : Cond.fieldLink RX3 46 "MillTalk$Level" "windCount" "I" ∈ wsX7_had := mb_X7_had_wsX7_had_r2 (List.mem_of_getElem? (i := 13) rfl)
theorem mx_X7_had_39 : Cond.fieldLink RX3 49 "MillTalk$Level" "soundCount" "I" ∈ wsX7_had := mb_X7_had_wsX7_had_r2 (List.mem_of_getElem? (i := 14) rfl)
theorem mx_X7_had_40 : Cond.fieldLink RX3 9 "MillTalk$Level" "winds" "[I" ∈ wsX7_had := mb_X7_had_wsX7_had_r2 (List.mem_of_getElem? (i := 15) rfl)
theorem mx_X7_had_41 : Cond.methodLink RX3 52 arraycopyName ∈ wsX7_had := mb_X7_had_wsX7_had_r2 (List.mem_of_getElem? (i := 16) rfl)
theorem mx_X7_had_42 : Cond.native arraycopyName ∈ wsX7_had := mb_X7_had_wsX7_had_r2 (List.mem_of_getElem? (i := 17) rfl)
theorem mx_X7_had_43 : Cond.static arraycopyName ∈ wsX7_had := mb_X7_had_wsX7_had_r2 (List.mem_of_getElem? (i := 18) rfl)
theorem mx_X7_had_44 : Cond.initialized "java/lang/System" ∈ wsX7_had := mb_X7_had_wsX7_had_r2 (List.mem_of_getElem? (i := 19) rfl)
theorem mx_X7_had_45 : Cond.fieldLink RX3 15 "MillTalk$Level" "kinds" "[I" ∈ wsX7_had := mb_X7_had_wsX7_had_r2 (List.mem_of_getElem? (i := 20) rfl)
theorem mx_X7_had_46 : Cond.fieldLink RX3 18 "MillTalk$Level" "places" "[I" ∈ wsX7_had := mb_X7_had_wsX7_had_r2 (List.mem_of_getElem? (i := 21) rfl)
theorem mx_X7_had_47 : Cond.fieldLink RX3 21 "MillTalk$Level" "louds" "[I" ∈ wsX7_had := mb_X7_had_wsX7_had_r2 (List.mem_of_getElem? (i := 22) rfl)
theorem mx_X7_had_48 : Cond.fieldLink RX3 24 "MillTalk$Level" "hows" "[I" ∈ wsX7_had := mb_X7_had_wsX7_had_r2 (List.mem_of_getElem? (i := 23) rfl)
theorem mb_X7_had_wsX7_had_r3 {w : Cond} (h : w ∈ wsX7_had_r3) : w ∈ wsX7_had := by unfold wsX7_had; exact List.mem_cons_of_mem _ (List.mem_append_left _ (List.mem_append_left _ (List.mem_append_left _ (List.mem_append_right _ (List.mem_append_right _ (List.mem_append_left _ (h)))))))
theorem mx_X7_had_49 : Cond.methodLink RX2 38 yX2_tryRows ∈ wsX7_had := mb_X7_had_wsX7_had_r3 (List.mem_of_getElem? (i := 0) rfl)
theorem mx_X7_had_50 : Cond.instanceMethod yX2_tryRows ∈ wsX7_had := mb_X7_had_wsX7_had_r3 (List.mem_of_getElem? (i := 1) rfl)
theorem mx_X7_had_51 : Cond.selects RX2 yX2_tryRows yX2_tryRows ∈ wsX7_had := mb_X7_had_wsX7_had_r3 (List.mem_of_getElem? (i := 2) rfl)
theorem mx_X7_had_17 : Cond.initialized RX2 ∈ wsX7_had := mb_X7_had_wsX7_had_r1 (List.mem_of_getElem? (i := 16) rfl)
theorem mx_X7_had_52 : Cond.code yX2_tryRows cX2_tryRows 7 none ∈ wsX7_had := mb_X7_had_wsX7_had_r3 (List.mem_of_getElem? (i := 3) rfl)
theorem mx_X7_had_53 : Cond.fieldLink RX2 46 "MillTalk$Level" "cap" "I" ∈ wsX7_had := mb_X7_had_wsX7_had_r3 (List.mem_of_getElem? (i := 4) rfl)
theorem mx_X7_had_54 : Cond.methodLink RX2 42 yX2_judge ∈ wsX7_had := mb_X7_had_wsX7_had_r3 (List.mem_of_getElem? (i := 5) rfl)
theorem mx_X7_had_55 : Cond.instanceMethod yX2_judge ∈ wsX7_had := mb_X7_had_wsX7_had_r3 (List.mem_of_getElem? (i := 6) rfl)
theorem mx_X7_had_56 : Cond.selects RX2 yX2_judge yX2_judge ∈ wsX7_had := mb_X7_had_wsX7_had_r3 (List.mem_of_getElem? (i := 7) rfl)
theorem mx_X7_had_57 : Cond.code yX2_judge cX2_judge 5 none ∈ wsX7_had := mb_X7_had_wsX7_had_r3 (List.mem_of_getElem? (i := 8) rfl)
theorem mx_X7_had_58 : Cond.methodLink RX2 52 yX2_worthOf ∈ wsX7_had := mb_X7_had_wsX7_had_r3 (List.mem_of_getElem? (i := 9) rfl)
theorem mx_X7_had_59 : Cond.instanceMethod yX2_worthOf ∈ wsX7_had := mb_X7_had_wsX7_had_r3 (List.mem_of_getElem? (i := 10) rfl)
theorem mx_X7_had_60 : Cond.selects RX2 yX2_worthOf yX2_worthOf ∈ wsX7_had := mb_X7_had_wsX7_had_r3 (List.mem_of_getElem? (i := 11) rfl)
theorem mx_X7_had_61 : Cond.code yX2_worthOf cX2_worthOf 2 (some .int) ∈ wsX7_had := mb_X7_had_wsX7_had_r3 (List.mem_of_getElem? (i := 12) rfl)
theorem mx_X7_had_62 : Cond.fieldLink RX2 56 "MillTalk$Level" "meal" "I" ∈ wsX7_had := mb_X7_had_wsX7_had_r3 (List.mem_of_getElem? (i := 13) rfl)
theorem mx_X7_had_63 : Cond.methodLink RX2 59 yX3_soundsThatAre ∈ wsX7_had := mb_X7_had_wsX7_had_r3 (List.mem_of_getElem? (i := 14) rfl)
theorem mx_X7_had_64 : Cond.instanceMethod yX3_soundsThatAre ∈ wsX7_had := mb_X7_had_wsX7_had_r3 (List.mem_of_getElem? (i := 15) rfl)
theorem mx_X7_had_65 : Cond.selects RX3 yX3_soundsThatAre yX3_soundsThatAre ∈ wsX7_had := mb_X7_had_wsX7_had_r3 (List.mem_of_getElem? (i := 16) rfl)
theorem mx_X7_had_66 : Cond.code yX3_soundsThatAre cX3_soundsThatAre 4 (some .int) ∈ wsX7_had := mb_X7_had_wsX7_had_r3 (List.mem_of_getElem? (i := 17) rfl)
theorem mx_X7_had_67 : Cond.methodLink RX2 49 yX3_pass ∈ wsX7_had := mb_X7_had_wsX7_had_r3 (List.mem_of_getElem? (i := 18) rfl)
theorem mx_X7_had_68 : Cond.instanceMethod yX3_pass ∈ wsX7_had := mb_X7_had_wsX7_had_r3 (List.mem_of_getElem? (i := 19) rfl)
theorem mx_X7_had_69 : Cond.selects RX3 yX3_pass yX3_pass ∈ wsX7_had := mb_X7_had_wsX7_had_r3 (List.mem_of_getElem? (i := 20) rfl)
theorem mx_X7_had_70 : Cond.code yX3_pass cX3_pass 3 none ∈ wsX7_had := mb_X7_had_wsX7_had_r3 (List.mem_of_getElem? (i := 21) rfl)
theorem mx_X7_had_71 : Cond.methodLink RX3 87 yX3_windOn ∈ wsX7_had := mb_X7_had_wsX7_had_r3 (List.mem_of_getElem? (i := 22) rfl)
theorem mx_X7_had_72 : Cond.instanceMethod yX3_windOn ∈ wsX7_had := mb_X7_had_wsX7_had_r3 (List.mem_of_getElem? (i := 23) rfl)
theorem mb_X7_had_wsX7_had_r4 {w : Cond} (h : w ∈ wsX7_had_r4) : w ∈ wsX7_had := by unfold wsX7_had; exact List.mem_cons_of_mem _ (List.mem_append_left _ (List.mem_append_left _ (List.mem_append_left _ (List.mem_append_right _ (List.mem_append_right _ (List.mem_append_right _ (List.mem_append_left _ (h))))))))
theorem mx_X7_had_73 : Cond.selects RX3 yX3_windOn yX3_windOn ∈ wsX7_had := mb_X7_had_wsX7_had_r4 (List.mem_of_getElem? (i := 0) rfl)
theorem mx_X7_had_74 : Cond.code yX3_windOn cX3_windOn 2 (some .int) ∈ wsX7_had := mb_X7_had_wsX7_had_r4 (List.mem_of_getElem? (i := 1) rfl)
theorem mx_X7_had_75 : Cond.methodLink RX3 90 yX3_passSound ∈ wsX7_had := mb_X7_had_wsX7_had_r4 (List.mem_of_getElem? (i := 2) rfl)
theorem mx_X7_had_76 : Cond.instanceMethod yX3_passSound ∈ wsX7_had := mb_X7_had_wsX7_had_r4 (List.mem_of_getElem? (i := 3) rfl)
theorem mx_X7_had_77 : Cond.selects RX3 yX3_passSound yX3_passSound ∈ wsX7_had := mb_X7_had_wsX7_had_r4 (List.mem_of_getElem? (i := 4) rfl)
theorem mx_X7_had_78 : Cond.code yX3_passSound cX3_passSound 5 none ∈ wsX7_had := mb_X7_had_wsX7_had_r4 (List.mem_of_getElem? (i := 5) rfl)
theorem mx_X7_had_79 : Cond.methodLink RX3 63 Lib.Math.min.name ∈ wsX7_had := mb_X7_had_wsX7_had_r4 (List.mem_of_getElem? (i := 6) rfl)
theorem mx_X7_had_80 : Cond.static Lib.Math.min.name ∈ wsX7_had := mb_X7_had_wsX7_had_r4 (List.mem_of_getElem? (i := 7) rfl)
theorem mx_X7_had_81 : Cond.initialized "java/lang/Math" ∈ wsX7_had := mb_X7_had_wsX7_had_r4 (List.mem_of_getElem? (i := 8) rfl)
theorem mx_X7_had_82 : Cond.code Lib.Math.min.name Lib.Math.min.code 2 (some .int) ∈ wsX7_had := mb_X7_had_wsX7_had_r4 (List.mem_of_getElem? (i := 9) rfl)
theorem mx_X7_had_83 : Cond.methodLink RX3 58 yX3_isLoose ∈ wsX7_had := mb_X7_had_wsX7_had_r4 (List.mem_of_getElem? (i := 10) rfl)
theorem mx_X7_had_84 : Cond.instanceMethod yX3_isLoose ∈ wsX7_had := mb_X7_had_wsX7_had_r4 (List.mem_of_getElem? (i := 11) rfl)
theorem mx_X7_had_85 : Cond.selects RX3 yX3_isLoose yX3_isLoose ∈ wsX7_had := mb_X7_had_wsX7_had_r4 (List.mem_of_getElem? (i := 12) rfl)
theorem mx_X7_had_86 : Cond.code yX3_isLoose cX3_isLoose 2 (some .boolean) ∈ wsX7_had := mb_X7_had_wsX7_had_r4 (List.mem_of_getElem? (i := 13) rfl)
theorem mx_X7_had_87 : Cond.methodLink RX3 69 yX3_driftOf ∈ wsX7_had := mb_X7_had_wsX7_had_r4 (List.mem_of_getElem? (i := 14) rfl)
theorem mx_X7_had_88 : Cond.instanceMethod yX3_driftOf ∈ wsX7_had := mb_X7_had_wsX7_had_r4 (List.mem_of_getElem? (i := 15) rfl)
theorem mx_X7_had_89 : Cond.selects RX3 yX3_driftOf yX3_driftOf ∈ wsX7_had := mb_X7_had_wsX7_had_r4 (List.mem_of_getElem? (i := 16) rfl)
theorem mx_X7_had_90 : Cond.code yX3_driftOf cX3_driftOf 4 (some .int) ∈ wsX7_had := mb_X7_had_wsX7_had_r4 (List.mem_of_getElem? (i := 17) rfl)
theorem mx_X7_had_91 : Cond.methodLink RX3 72 yX3_loudBehindHour ∈ wsX7_had := mb_X7_had_wsX7_had_r4 (List.mem_of_getElem? (i := 18) rfl)
theorem mx_X7_had_92 : Cond.instanceMethod yX3_loudBehindHour ∈ wsX7_had := mb_X7_had_wsX7_had_r4 (List.mem_of_getElem? (i := 19) rfl)
theorem mx_X7_had_93 : Cond.selects RX3 yX3_loudBehindHour yX3_loudBehindHour ∈ wsX7_had := mb_X7_had_wsX7_had_r4 (List.mem_of_getElem? (i := 20) rfl)
theorem mx_X7_had_94 : Cond.code yX3_loudBehindHour cX3_loudBehindHour 2 (some .int) ∈ wsX7_had := mb_X7_had_wsX7_had_r4 (List.mem_of_getElem? (i := 21) rfl)
theorem mx_X7_had_95 : Cond.methodLink RX3 76 yX3_hasCell ∈ wsX7_had := mb_X7_had_wsX7_had_r4 (List.mem_of_getElem? (i := 22) rfl)
theorem mx_X7_had_96 : Cond.instanceMethod yX3_hasCell ∈ wsX7_had := mb_X7_had_wsX7_had_r4 (List.mem_of_getElem? (i := 23) rfl)
theorem mb_X7_had_wsX7_had_r5 {w : Cond} (h : w ∈ wsX7_had_r5) : w ∈ wsX7_had := by unfold wsX7_had; exact List.mem_cons_of_mem _ (List.mem_append_left _ (List.mem_append_left _ (List.mem_append_left _ (List.mem_append_right _ (List.mem_append_right _ (List.mem_append_right _ (List.mem_append_right _ (h))))))))
theorem mx_X7_had_97 : Cond.selects RX3 yX3_hasCell yX3_hasCell ∈ wsX7_had := mb_X7_had_wsX7_had_r5 (List.mem_of_getElem? (i := 0) rfl)
theorem mx_X7_had_98 : Cond.code yX3_hasCell cX3_hasCell 2 (some .boolean) ∈ wsX7_had := mb_X7_had_wsX7_had_r5 (List.mem_of_getElem? (i := 1) rfl)
theorem mx_X7_had_99 : Cond.methodLink RX3 79 yX3_letLoose ∈ wsX7_had := mb_X7_had_wsX7_had_r5 (List.mem_of_getElem? (i := 2) rfl)
theorem mx_X7_had_100 : Cond.instanceMethod yX3_letLoose ∈ wsX7_had := mb_X7_had_wsX7_had_r5 (List.mem_of_getElem? (i := 3) rfl)
theorem mx_X7_had_101 : Cond.selects RX3 yX3_letLoose yX3_letLoose ∈ wsX7_had := mb_X7_had_wsX7_had_r5 (List.mem_of_getElem? (i := 4) rfl)
theorem mx_X7_had_102 : Cond.code yX3_letLoose cX3_letLoose 4 none ∈ wsX7_had := mb_X7_had_wsX7_had_r5 (List.mem_of_getElem? (i := 5) rfl)
theorem mx_X7_had_103 : Cond.methodLink RX3 83 yX3_grindsAt ∈ wsX7_had := mb_X7_had_wsX7_had_r5 (List.mem_of_getElem? (i := 6) rfl)
theorem mx_X7_had_104 : Cond.instanceMethod yX3_grindsAt ∈ wsX7_had := mb_X7_had_wsX7_had_r5 (List.mem_of_getElem? (i := 7) rfl)
theorem mx_X7_had_105 : Cond.selects RX3 yX3_grindsAt yX3_grindsAt ∈ wsX7_had := mb_X7_had_wsX7_had_r5 (List.mem_of_getElem? (i := 8) rfl)
theorem mx_X7_had_106 : Cond.code yX3_grindsAt cX3_grindsAt 4 (some .boolean) ∈ wsX7_had := mb_X7_had_wsX7_had_r5 (List.mem_of_getElem? (i := 9) rfl)
theorem mb_X7_had_wsX20 {w : Cond} (h : w ∈ wsX20) : w ∈ wsX7_had := by unfold wsX7_had; exact List.mem_cons_of_mem _ (List.mem_append_right _ (h))
theorem mb_X7_had_wsX30 {w : Cond} (h : w ∈ wsX30) : w ∈ wsX7_had := by unfold wsX7_had; exact List.mem_cons_of_mem _ (List.mem_append_left _ (List.mem_append_right _ (h)))
theorem ggX7_had_X2_search : GoodIn wsX7_had wsX2_search := goodIn_sub (by unfold wsX2_search; exact List.forall_mem_cons.mpr ⟨mx_X7_had_22, List.forall_mem_append.mpr ⟨List.forall_mem_append.mpr ⟨List.forall_mem_append.mpr ⟨(by unfold wsX2_search_r1; exact List.forall_mem_cons.mpr ⟨mx_X7_had_23, List.forall_mem_cons.mpr ⟨mx_X7_had_24, List.forall_mem_cons.mpr ⟨mx_X7_had_25, List.forall_mem_cons.mpr ⟨mx_X7_had_26, List.forall_mem_cons.mpr ⟨mx_X7_had_27, List.forall_mem_cons.mpr ⟨mx_X7_had_28, List.forall_mem_cons.mpr ⟨mx_X7_had_29, List.forall_mem_cons.mpr ⟨mx_X7_had_30, List.forall_mem_cons.mpr ⟨mx_X7_had_31, List.forall_mem_cons.mpr ⟨mx_X7_had_12, List.forall_mem_cons.mpr ⟨mx_X7_had_32, List.forall_mem_cons.mpr ⟨mx_X7_had_14, List.forall_mem_cons.mpr ⟨mx_X7_had_33, List.forall_mem_cons.mpr ⟨mx_X7_had_34, List.forall_mem_cons.mpr ⟨mx_X7_had_35, List.forall_mem_cons.mpr ⟨mx_X7_had_36, List.forall_mem_cons.mpr ⟨mx_X7_had_37, List.forall_mem_cons.mpr ⟨mx_X7_had_38, List.forall_mem_cons.mpr ⟨mx_X7_had_39, List.forall_mem_cons.mpr ⟨mx_X7_had_40, List.forall_mem_cons.mpr ⟨mx_X7_had_41, List.forall_mem_cons.mpr ⟨mx_X7_had_42, List.forall_mem_cons.mpr ⟨mx_X7_had_43, List.forall_mem_cons.mpr ⟨mx_X7_had_44, fun _ h_ => absurd h_ List.not_mem_nil⟩⟩⟩⟩⟩⟩⟩⟩⟩⟩⟩⟩⟩⟩⟩⟩⟩⟩⟩⟩⟩⟩⟩⟩), List.forall_mem_append.mpr ⟨(by unfold wsX2_search_r2; exact List.forall_mem_cons.mpr ⟨mx_X7_had_45, List.forall_mem_cons.mpr ⟨mx_X7_had_46, List.forall_mem_cons.mpr ⟨mx_X7_had_47, List.forall_mem_cons.mpr ⟨mx_X7_had_48, List.forall_mem_cons.mpr ⟨mx_X7_had_49, List.forall_mem_cons.mpr ⟨mx_X7_had_50, List.forall_mem_cons.mpr ⟨mx_X7_had_51, List.forall_mem_cons.mpr ⟨mx_X7_had_17, List.forall_mem_cons.mpr ⟨mx_X7_had_52, List.forall_mem_cons.mpr ⟨mx_X7_had_53, List.forall_mem_cons.mpr ⟨mx_X7_had_54, List.forall_mem_cons.mpr ⟨mx_X7_had_55, List.forall_mem_cons.mpr ⟨mx_X7_had_56, List.forall_mem_cons.mpr ⟨mx_X7_had_57, List.forall_mem_cons.mpr ⟨mx_X7_had_58, List.forall_mem_cons.mpr ⟨mx_X7_had_59, List.forall_mem_cons.mpr ⟨mx_X7_had_60, List.forall_mem_cons.mpr ⟨mx_X7_had_61, List.forall_mem_cons.mpr ⟨mx_X7_had_62, List.forall_mem_cons.mpr ⟨mx_X7_had_63, List.forall_mem_cons.mpr ⟨mx_X7_had_64, List.forall_mem_cons.mpr ⟨mx_X7_had_65, List.forall_mem_cons.mpr ⟨mx_X7_had_66, List.forall_mem_cons.mpr ⟨mx_X7_had_67, fun _ h_ => absurd h_ List.not_mem_nil⟩⟩⟩⟩⟩⟩⟩⟩⟩⟩⟩⟩⟩⟩⟩⟩⟩⟩⟩⟩⟩⟩⟩⟩), List.forall_mem_append.mpr ⟨(by unfold wsX2_search_r3; exact List.forall_mem_cons.mpr ⟨mx_X7_had_68, List.forall_mem_cons.mpr ⟨mx_X7_had_69, List.forall_mem_cons.mpr ⟨mx_X7_had_70, List.forall_mem_cons.mpr ⟨mx_X7_had_71, List.forall_mem_cons.mpr ⟨mx_X7_had_72, List.forall_mem_cons.mpr ⟨mx_X7_had_73, List.forall_mem_cons.mpr ⟨mx_X7_had_74, List.forall_mem_cons.mpr ⟨mx_X7_had_75, List.forall_mem_cons.mpr ⟨mx_X7_had_76, List.forall_mem_cons.mpr ⟨mx_X7_had_77, List.forall_mem_cons.mpr ⟨mx_X7_had_78, List.forall_mem_cons.mpr ⟨mx_X7_had_79, List.forall_mem_cons.mpr ⟨mx_X7_had_80, List.forall_mem_cons.mpr ⟨mx_X7_had_81, List.forall_mem_cons.mpr ⟨mx_X7_had_82, List.forall_mem_cons.mpr ⟨mx_X7_had_83, List.forall_mem_cons.mpr ⟨mx_X7_had_84, List.forall_mem_cons.mpr ⟨mx_X7_had_85, List.forall_mem_cons.mpr ⟨mx_X7_had_86, List.forall_mem_cons.mpr ⟨mx_X7_had_87, List.forall_mem_cons.mpr ⟨mx_X7_had_88, List.forall_mem_cons.mpr ⟨mx_X7_had_89, List.forall_mem_cons.mpr ⟨mx_X7_had_90, List.forall_mem_cons.mpr ⟨mx_X7_had_91, fun _ h_ => absurd h_ List.not_mem_nil⟩⟩⟩⟩⟩⟩⟩⟩⟩⟩⟩⟩⟩⟩⟩⟩⟩⟩⟩⟩⟩⟩⟩⟩), (by unfold wsX2_search_r4; exact List.forall_mem_cons.mpr ⟨mx_X7_had_92, List.forall_mem_cons.mpr ⟨mx_X7_had_93, List.forall_mem_cons.mpr ⟨mx_X7_had_94, List.forall_mem_cons.mpr ⟨mx_X7_had_95, List.forall_mem_cons.mpr ⟨mx_X7_had_96, List.forall_mem_cons.mpr ⟨mx_X7_had_97, List.forall_mem_cons.mpr ⟨mx_X7_had_98, List.forall_mem_cons.mpr ⟨mx_X7_had_99, List.forall_mem_cons.mpr ⟨mx_X7_had_100, List.forall_mem_cons.mpr ⟨mx_X7_had_101, List.forall_mem_cons.mpr ⟨mx_X7_had_102, List.forall_mem_cons.mpr ⟨mx_X7_had_103, List.forall_mem_cons.mpr ⟨mx_X7_had_104, List.forall_mem_cons.mpr ⟨mx_X7_had_105, List.forall_mem_cons.mpr ⟨mx_X7_had_106, fun _ h_ => absurd h_ List.not_mem_nil⟩⟩⟩⟩⟩⟩⟩⟩⟩⟩⟩⟩⟩⟩⟩)⟩⟩⟩, (fun _ h_ => mb_X7_had_wsX20 h_)⟩, (fun _ h_ => mb_X7_had_wsX30 h_)⟩⟩) (by decide +kernel)
theorem mx_X7_had_19 : Cond.methodLink RX7 224 yX2_search ∈ wsX7_had := mb_X7_had_wsX7_had_r1 (List.mem_of_getElem? (i := 18) rfl)
theorem mx_X7_had_20 : Cond.instanceMethod yX2_search ∈ wsX7_had := mb_X7_had_wsX7_had_r1 (List.mem_of_getElem? (i := 19) rfl)
theorem mx_X7_had_21 : Cond.selects RX2 yX2_search yX2_search ∈ wsX7_had := mb_X7_had_wsX7_had_r1 (List.mem_of_getElem? (i := 20) rfl)
theorem gX7_had_X2_search : GoodIn wsX7_had (wsV RX7 224 RX2 yX2_search wsX2_search) := goodIn_app (goodIn_sub (List.forall_mem_cons.mpr ⟨mx_X7_had_19, List.forall_mem_cons.mpr ⟨mx_X7_had_20, List.forall_mem_cons.mpr ⟨mx_X7_had_21, List.forall_mem_cons.mpr ⟨mx_X7_had_17, fun _ h_ => absurd h_ List.not_mem_nil⟩⟩⟩⟩) (by decide +kernel)) ggX7_had_X2_search
theorem mx_X7_had_13 : Cond.code yX3_isTold cX3_isTold 1 (some .boolean) ∈ wsX7_had := mb_X7_had_wsX7_had_r1 (List.mem_of_getElem? (i := 12) rfl)
theorem ggX7_had_X3_isTold : GoodIn wsX7_had wsX3_isTold := goodIn_sub (by unfold wsX3_isTold; exact List.forall_mem_cons.mpr ⟨mx_X7_had_13, List.forall_mem_append.mpr ⟨List.forall_mem_cons.mpr ⟨mx_X7_had_14, fun _ h_ => absurd h_ List.not_mem_nil⟩, (fun _ h_ => mb_X7_had_wsX30 h_)⟩⟩) (by decide +kernel)
theorem mx_X7_had_9 : Cond.methodLink RX7 145 yX3_isTold ∈ wsX7_had := mb_X7_had_wsX7_had_r1 (List.mem_of_getElem? (i := 8) rfl)
theorem mx_X7_had_10 : Cond.instanceMethod yX3_isTold ∈ wsX7_had := mb_X7_had_wsX7_had_r1 (List.mem_of_getElem? (i := 9) rfl)
theorem mx_X7_had_11 : Cond.selects RX3 yX3_isTold yX3_isTold ∈ wsX7_had := mb_X7_had_wsX7_had_r1 (List.mem_of_getElem? (i := 10) rfl)
theorem gX7_had_X3_isTold : GoodIn wsX7_had (wsV RX7 145 RX3 yX3_isTold wsX3_isTold) := goodIn_app (goodIn_sub (List.forall_mem_cons.mpr ⟨mx_X7_had_9, List.forall_mem_cons.mpr ⟨mx_X7_had_10, List.forall_mem_cons.mpr ⟨mx_X7_had_11, List.forall_mem_cons.mpr ⟨mx_X7_had_12, fun _ h_ => absurd h_ List.not_mem_nil⟩⟩⟩⟩) (by decide +kernel)) ggX7_had_X3_isTold
theorem mb_X7_level_wsX7_level_r5 {w : Cond} (h : w ∈ wsX7_level_r5) : w ∈ wsX7_level := by unfold wsX7_level; exact List.mem_cons_of_mem _ (List.mem_append_left _ (List.mem_append_left _ (List.mem_append_left _ (List.mem_append_left _ (List.mem_append_right _ (List.mem_append_right _ (List.mem_append_right _ (List.mem_append_right _ (h)))))))))
theorem mx_X7_level_107 : Cond.code yX0_forget cX0_forget 1 none ∈ wsX7_level := mb_X7_level_wsX7_level_r5 (List.mem_of_getElem? (i := 10) rfl)
theorem mx_X7_level_108 : Cond.fieldLink RX0 16 "MillTalk$Acts" "size" "I" ∈ wsX7_level := mb_X7_level_wsX7_level_r5 (List.mem_of_getElem? (i := 11) rfl)
theorem mb_X7_level_wsX00 {w : Cond} (h : w ∈ wsX00) : w ∈ wsX7_level := by unfold wsX7_level; exact List.mem_cons_of_mem _ (List.mem_append_right _ (h))
theorem ggX7_level_X0_forget : GoodIn wsX7_level wsX0_forget := goodIn_sub (by unfold wsX0_forget; exact List.forall_mem_cons.mpr ⟨mx_X7_level_107, List.forall_mem_append.mpr ⟨List.forall_mem_cons.mpr ⟨mx_X7_level_108, fun _ h_ => absurd h_ List.not_mem_nil⟩, (fun _ h_ => mb_X7_level_wsX00 h_)⟩⟩) (by decide +kernel)
theorem mx_X7_level_103 : Cond.methodLink RX7 132 yX0_forget ∈ wsX7_level := mb_X7_level_wsX7_level_r5 (List.mem_of_getElem? (i := 6) rfl)
theorem mx_X7_level_104 : Cond.instanceMethod yX0_forget ∈ wsX7_level := mb_X7_level_wsX7_level_r5 (List.mem_of_getElem? (i := 7) rfl)
theorem mx_X7_level_105 : Cond.selects RX0 yX0_forget yX0_forget ∈ wsX7_level := mb_X7_level_wsX7_level_r5 (List.mem_of_getElem? (i := 8) rfl)
theorem mx_X7_level_106 : Cond.initialized RX0 ∈ wsX7_level := mb_X7_level_wsX7_level_r5 (List.mem_of_getElem? (i := 9) rfl)
theorem gX7_level_X0_forget : GoodIn wsX7_level (wsV RX7 132 RX0 yX0_forget wsX0_forget) := goodIn_app (goodIn_sub (List.forall_mem_cons.mpr ⟨mx_X7_level_103, List.forall_mem_cons.mpr ⟨mx_X7_level_104, List.forall_mem_cons.mpr ⟨mx_X7_level_105, List.forall_mem_cons.mpr ⟨mx_X7_level_106, fun _ h_ => absurd h_ List.not_mem_nil⟩⟩⟩⟩) (by decide +kernel)) ggX7_level_X0_forget
theorem mb_X7_level_wsX7_level_r4 {w : Cond} (h : w ∈ wsX7_level_r4) : w ∈ wsX7_level := by unfold wsX7_level; exact List.mem_cons_of_mem _ (List.mem_append_left _ (List.mem_append_left _ (List.mem_append_left _ (List.mem_append_left _ (List.mem_append_right _ (List.mem_append_right _ (List.mem_append_right _ (List.mem_append_left _ (h)))))))))
theorem mx_X7_level_96 : Cond.code yX3_becomeLike cX3_becomeLike 2 none ∈ wsX7_level := mb_X7_level_wsX7_level_r4 (List.mem_of_getElem? (i := 23) rfl)
theorem mb_X7_level_wsX7_level_r1 {w : Cond} (h : w ∈ wsX7_level_r1) : w ∈ wsX7_level := by unfold wsX7_level; exact List.mem_cons_of_mem _ (List.mem_append_left _ (List.mem_append_left _ (List.mem_append_left _ (List.mem_append_left _ (List.mem_append_left _ (h))))))
theorem mx_X7_level_24 : Cond.fieldLink RX3 27 "MillTalk$Level" "cells" "I" ∈ wsX7_level := mb_X7_level_wsX7_level_r1 (List.mem_of_getElem? (i := 23) rfl)
theorem mb_X7_level_wsX7_level_r2 {w : Cond} (h : w ∈ wsX7_level_r2) : w ∈ wsX7_level := by unfold wsX7_level; exact List.mem_cons_of_mem _ (List.mem_append_left _ (List.mem_append_left _ (List.mem_append_left _ (List.mem_append_left _ (List.mem_append_right _ (List.mem_append_left _ (h)))))))
theorem mx_X7_level_25 : Cond.fieldLink RX3 31 "MillTalk$Level" "mill" "I" ∈ wsX7_level := mb_X7_level_wsX7_level_r2 (List.mem_of_getElem? (i := 0) rfl)
theorem mx_X7_level_26 : Cond.fieldLink RX3 34 "MillTalk$Level" "reach" "I" ∈ wsX7_level := mb_X7_level_wsX7_level_r2 (List.mem_of_getElem? (i := 1) rfl)
theorem mx_X7_level_27 : Cond.fieldLink RX3 37 "MillTalk$Level" "cap" "I" ∈ wsX7_level := mb_X7_level_wsX7_level_r2 (List.mem_of_getElem? (i := 2) rfl)
theorem mx_X7_level_28 : Cond.fieldLink RX3 40 "MillTalk$Level" "hour" "I" ∈ wsX7_level := mb_X7_level_wsX7_level_r2 (List.mem_of_getElem? (i := 3) rfl)
theorem mx_X7_level_29 : Cond.fieldLink RX3 43 "MillTalk$Level" "meal" "I" ∈ wsX7_level := mb_X7_level_wsX7_level_r2 (List.mem_of_getElem? (i := 4) rfl)
theorem mx_X7_level_30 : Cond.fieldLink RX3 46 "MillTalk$Level" "windCount" "I" ∈ wsX7_level := mb_X7_level_wsX7_level_r2 (List.mem_of_getElem? (i := 5) rfl)
theorem mx_X7_level_31 : Cond.fieldLink RX3 49 "MillTalk$Level" "soundCount" "I" ∈ wsX7_level := mb_X7_level_wsX7_level_r2 (List.mem_of_getElem? (i := 6) rfl)
theorem mx_X7_level_97 : Cond.fieldLink RX3 9 "MillTalk$Level" "winds" "[I" ∈ wsX7_level := mb_X7_level_wsX7_level_r5 (List.mem_of_getElem? (i := 0) rfl)
theorem mx_X7_level_98 : Cond.methodLink RX3 52 arraycopyName ∈ wsX7_level := mb_X7_level_wsX7_level_r5 (List.mem_of_getElem? (i := 1) rfl)
theorem mx_X7_level_99 : Cond.native arraycopyName ∈ wsX7_level := mb_X7_level_wsX7_level_r5 (List.mem_of_getElem? (i := 2) rfl)
theorem mx_X7_level_100 : Cond.static arraycopyName ∈ wsX7_level := mb_X7_level_wsX7_level_r5 (List.mem_of_getElem? (i := 3) rfl)
theorem mx_X7_level_101 : Cond.initialized "java/lang/System" ∈ wsX7_level := mb_X7_level_wsX7_level_r5 (List.mem_of_getElem? (i := 4) rfl)
theorem mx_X7_level_102 : Cond.fieldLink RX3 15 "MillTalk$Level" "kinds" "[I" ∈ wsX7_level := mb_X7_level_wsX7_level_r5 (List.mem_of_getElem? (i := 5) rfl)
theorem mx_X7_level_90 : Cond.fieldLink RX3 18 "MillTalk$Level" "places" "[I" ∈ wsX7_level := mb_X7_level_wsX7_level_r4 (List.mem_of_getElem? (i := 17) rfl)
theorem mx_X7_level_91 : Cond.fieldLink RX3 21 "MillTalk$Level" "louds" "[I" ∈ wsX7_level := mb_X7_level_wsX7_level_r4 (List.mem_of_getElem? (i := 18) rfl)
theorem mx_X7_level_92 : Cond.fieldLink RX3 24 "MillTalk$Level" "hows" "[I" ∈ wsX7_level := mb_X7_level_wsX7_level_r4 (List.mem_of_getElem? (i := 19) rfl)
theorem mb_X7_level_wsX30 {w : Cond} (h : w ∈ wsX30) : w ∈ wsX7_level := by unfold wsX7_level; exact List.mem_cons_of_mem _ (List.mem_append_left _ (List.mem_append_right _ (h)))
theorem ggX7_level_X3_becomeLike : GoodIn wsX7_level wsX3_becomeLike := goodIn_sub (by unfold wsX3_becomeLike; exact List.forall_mem_cons.mpr ⟨mx_X7_level_96, List.forall_mem_append.mpr ⟨List.forall_mem_cons.mpr ⟨mx_X7_level_24, List.forall_mem_cons.mpr ⟨mx_X7_level_25, List.forall_mem_cons.mpr ⟨mx_X7_level_26, List.forall_mem_cons.mpr ⟨mx_X7_level_27, List.forall_mem_cons.mpr ⟨mx_X7_level_28, List.forall_mem_cons.mpr ⟨mx_X7_level_29, List.forall_mem_cons.mpr ⟨mx_X7_level_30, List.forall_mem_cons.mpr ⟨mx_X7_level_31, List.forall_mem_cons.mpr ⟨mx_X7_level_97, List.forall_mem_cons.mpr ⟨mx_X7_level_98, List.forall_mem_cons.mpr ⟨mx_X7_level_99, List.forall_mem_cons.mpr ⟨mx_X7_level_100, List.forall_mem_cons.mpr ⟨mx_X7_level_101, List.forall_mem_cons.mpr ⟨mx_X7_level_102, List.forall_mem_cons.mpr ⟨mx_X7_level_90, List.forall_mem_cons.mpr ⟨mx_X7_level_91, List.forall_mem_cons.mpr ⟨mx_X7_level_92, fun _ h_ => absurd h_ List.not_mem_nil⟩⟩⟩⟩⟩⟩⟩⟩⟩⟩⟩⟩⟩⟩⟩⟩⟩, (fun _ h_ => mb_X7_level_wsX30 h_)⟩⟩) (by decide +kernel)
theorem mx_X7_level_93 : Cond.methodLink RX7 128 yX3_becomeLike ∈ wsX7_level := mb_X7_level_wsX7_level_r4 (List.mem_of_getElem? (i := 20) rfl)
theorem mx_X7_level_94 : Cond.instanceMethod yX3_becomeLike ∈ wsX7_level := mb_X7_level_wsX7_level_r4 (List.mem_of_getElem? (i := 21) rfl)
theorem mx_X7_level_95 : Cond.selects RX3 yX3_becomeLike yX3_becomeLike ∈ wsX7_level := mb_X7_level_wsX7_level_r4 (List.mem_of_getElem? (i := 22) rfl)
theorem mx_X7_level_22 : Cond.initialized RX3 ∈ wsX7_level := mb_X7_level_wsX7_level_r1 (List.mem_of_getElem? (i := 21) rfl)
theorem gX7_level_X3_becomeLike : GoodIn wsX7_level (wsV RX7 128 RX3 yX3_becomeLike wsX3_becomeLike) := goodIn_app (goodIn_sub (List.forall_mem_cons.mpr ⟨mx_X7_level_93, List.forall_mem_cons.mpr ⟨mx_X7_level_94, List.forall_mem_cons.mpr ⟨mx_X7_level_95, List.forall_mem_cons.mpr ⟨mx_X7_level_22, fun _ h_ => absurd h_ List.not_mem_nil⟩⟩⟩⟩) (by decide +kernel)) ggX7_level_X3_becomeLike
theorem mx_X7_level_13 : Cond.code yX6_read cX6_read 1 (some .int) ∈ wsX7_level := mb_X7_level_wsX7_level_r1 (List.mem_of_getElem? (i := 12) rfl)
theorem mx_X7_level_14 : Cond.fieldLink RX6 30 "MillTalk$Tape" "fault" "I" ∈ wsX7_level := mb_X7_level_wsX7_level_r1 (List.mem_of_getElem? (i := 13) rfl)
theorem mx_X7_level_15 : Cond.fieldLink RX6 33 "MillTalk$Tape" "faultPlace" "I" ∈ wsX7_level := mb_X7_level_wsX7_level_r1 (List.mem_of_getElem? (i := 14) rfl)
theorem mx_X7_level_16 : Cond.fieldLink RX6 36 "MillTalk$Tape" "place" "I" ∈ wsX7_level := mb_X7_level_wsX7_level_r1 (List.mem_of_getElem? (i := 15) rfl)
theorem mx_X7_level_17 : Cond.fieldLink RX6 18 "MillTalk$Tape" "told" "LMillTalk$Level;" ∈ wsX7_level := mb_X7_level_wsX7_level_r1 (List.mem_of_getElem? (i := 16) rfl)
theorem mx_X7_level_18 : Cond.fieldLink RX6 22 "MillTalk$Tape" "size" "I" ∈ wsX7_level := mb_X7_level_wsX7_level_r1 (List.mem_of_getElem? (i := 17) rfl)
theorem mx_X7_level_19 : Cond.methodLink RX6 39 yX3_begin ∈ wsX7_level := mb_X7_level_wsX7_level_r1 (List.mem_of_getElem? (i := 18) rfl)
theorem mx_X7_level_20 : Cond.instanceMethod yX3_begin ∈ wsX7_level := mb_X7_level_wsX7_level_r1 (List.mem_of_getElem? (i := 19) rfl)
theorem mx_X7_level_21 : Cond.selects RX3 yX3_begin yX3_begin ∈ wsX7_level := mb_X7_level_wsX7_level_r1 (List.mem_of_getElem? (i := 20) rfl)
theorem mx_X7_level_23 : Cond.code yX3_begin cX3_begin 1 none ∈ wsX7_level := mb_X7_level_wsX7_level_r1 (List.mem_of_getElem? (i := 22) rfl)
theorem mx_X7_level_32 : Cond.methodLink RX6 42 yX6_readLaw ∈ wsX7_level := mb_X7_level_wsX7_level_r2 (List.mem_of_getElem? (i := 7) rfl)
theorem mx_X7_level_33 : Cond.instanceMethod yX6_readLaw ∈ wsX7_level := mb_X7_level_wsX7_level_r2 (List.mem_of_getElem? (i := 8) rfl)
theorem mx_X7_level_34 : Cond.selects RX6 yX6_readLaw yX6_readLaw ∈ wsX7_level := mb_X7_level_wsX7_level_r2 (List.mem_of_getElem? (i := 9) rfl)
theorem mx_X7_level_12 : Cond.initialized RX6 ∈ wsX7_level := mb_X7_level_wsX7_level_r1 (List.mem_of_getElem? (i := 11) rfl)
theorem mx_X7_level_35 : Cond.code yX6_readLaw cX6_readLaw 1 none ∈ wsX7_level := mb_X7_level_wsX7_level_r2 (List.mem_of_getElem? (i := 10) rfl)
theorem mx_X7_level_36 : Cond.fieldLink RX6 59 "MillTalk$Level" "cells" "I" ∈ wsX7_level := mb_X7_level_wsX7_level_r2 (List.mem_of_getElem? (i := 11) rfl)
theorem mx_X7_level_37 : Cond.fieldLink RX6 62 "MillTalk$Level" "mill" "I" ∈ wsX7_level := mb_X7_level_wsX7_level_r2 (List.mem_of_getElem? (i := 12) rfl)
theorem mx_X7_level_38 : Cond.fieldLink RX6 65 "MillTalk$Level" "reach" "I" ∈ wsX7_level := mb_X7_level_wsX7_level_r2 (List.mem_of_getElem? (i := 13) rfl)
theorem mx_X7_level_39 : Cond.methodLink RX6 51 yX6_readByte ∈ wsX7_level := mb_X7_level_wsX7_level_r2 (List.mem_of_getElem? (i := 14) rfl)
theorem mx_X7_level_40 : Cond.instanceMethod yX6_readByte ∈ wsX7_level := mb_X7_level_wsX7_level_r2 (List.mem_of_getElem? (i := 15) rfl)
theorem mx_X7_level_41 : Cond.selects RX6 yX6_readByte yX6_readByte ∈ wsX7_level := mb_X7_level_wsX7_level_r2 (List.mem_of_getElem? (i := 16) rfl)
theorem mx_X7_level_42 : Cond.code yX6_readByte cX6_readByte 2 none ∈ wsX7_level := mb_X7_level_wsX7_level_r2 (List.mem_of_getElem? (i := 17) rfl)
theorem mx_X7_level_43 : Cond.methodLink RX6 71 yX6_byteAt ∈ wsX7_level := mb_X7_level_wsX7_level_r2 (List.mem_of_getElem? (i := 18) rfl)
theorem mx_X7_level_44 : Cond.instanceMethod yX6_byteAt ∈ wsX7_level := mb_X7_level_wsX7_level_r2 (List.mem_of_getElem? (i := 19) rfl)
theorem mx_X7_level_45 : Cond.selects RX6 yX6_byteAt yX6_byteAt ∈ wsX7_level := mb_X7_level_wsX7_level_r2 (List.mem_of_getElem? (i := 20) rfl)
theorem mx_X7_level_46 : Cond.code yX6_byteAt cX6_byteAt 2 (some .int) ∈ wsX7_level := mb_X7_level_wsX7_level_r2 (List.mem_of_getElem? (i := 21) rfl)
theorem mx_X7_level_47 : Cond.fieldLink RX6 11 "MillTalk$Tape" "bytes" "[I" ∈ wsX7_level := mb_X7_level_wsX7_level_r2 (List.mem_of_getElem? (i := 22) rfl)
theorem mx_X7_level_48 : Cond.methodLink RX6 78 yX6_fail ∈ wsX7_level := mb_X7_level_wsX7_level_r2 (List.mem_of_getElem? (i := 23) rfl)
theorem mb_X7_level_wsX7_level_r3 {w : Cond} (h : w ∈ wsX7_level_r3) : w ∈ wsX7_level := by unfold wsX7_level; exact List.mem_cons_of_mem _ (List.mem_append_left _ (List.mem_append_left _ (List.mem_append_left _ (List.mem_append_left _ (List.mem_append_right _ (List.mem_append_right _ (List.mem_append_left _ (h))))))))
theorem mx_X7_level_49 : Cond.instanceMethod yX6_fail ∈ wsX7_level := mb_X7_level_wsX7_level_r3 (List.mem_of_getElem? (i := 0) rfl)
theorem mx_X7_level_50 : Cond.selects RX6 yX6_fail yX6_fail ∈ wsX7_level := mb_X7_level_wsX7_level_r3 (List.mem_of_getElem? (i := 1) rfl)
theorem mx_X7_level_51 : Cond.code yX6_fail cX6_fail 2 none ∈ wsX7_level := mb_X7_level_wsX7_level_r3 (List.mem_of_getElem? (i := 2) rfl)
theorem mx_X7_level_52 : Cond.methodLink RX6 55 yX6_readNumber ∈ wsX7_level := mb_X7_level_wsX7_level_r3 (List.mem_of_getElem? (i := 3) rfl)
theorem mx_X7_level_53 : Cond.instanceMethod yX6_readNumber ∈ wsX7_level := mb_X7_level_wsX7_level_r3 (List.mem_of_getElem? (i := 4) rfl)
theorem mx_X7_level_54 : Cond.selects RX6 yX6_readNumber yX6_readNumber ∈ wsX7_level := mb_X7_level_wsX7_level_r3 (List.mem_of_getElem? (i := 5) rfl)
theorem mx_X7_level_55 : Cond.code yX6_readNumber cX6_readNumber 6 (some .int) ∈ wsX7_level := mb_X7_level_wsX7_level_r3 (List.mem_of_getElem? (i := 6) rfl)
theorem mx_X7_level_56 : Cond.methodLink RX6 100 yX6_figuresHere ∈ wsX7_level := mb_X7_level_wsX7_level_r3 (List.mem_of_getElem? (i := 7) rfl)
theorem mx_X7_level_57 : Cond.instanceMethod yX6_figuresHere ∈ wsX7_level := mb_X7_level_wsX7_level_r3 (List.mem_of_getElem? (i := 8) rfl)
theorem mx_X7_level_58 : Cond.selects RX6 yX6_figuresHere yX6_figuresHere ∈ wsX7_level := mb_X7_level_wsX7_level_r3 (List.mem_of_getElem? (i := 9) rfl)
theorem mx_X7_level_59 : Cond.code yX6_figuresHere cX6_figuresHere 2 (some .int) ∈ wsX7_level := mb_X7_level_wsX7_level_r3 (List.mem_of_getElem? (i := 10) rfl)
theorem mx_X7_level_60 : Cond.methodLink RX6 104 yX6_isFigure ∈ wsX7_level := mb_X7_level_wsX7_level_r3 (List.mem_of_getElem? (i := 11) rfl)
theorem mx_X7_level_61 : Cond.static yX6_isFigure ∈ wsX7_level := mb_X7_level_wsX7_level_r3 (List.mem_of_getElem? (i := 12) rfl)
theorem mx_X7_level_62 : Cond.code yX6_isFigure cX6_isFigure 1 (some .boolean) ∈ wsX7_level := mb_X7_level_wsX7_level_r3 (List.mem_of_getElem? (i := 13) rfl)
theorem mx_X7_level_63 : Cond.methodLink RX6 45 yX6_readWinds ∈ wsX7_level := mb_X7_level_wsX7_level_r3 (List.mem_of_getElem? (i := 14) rfl)
theorem mx_X7_level_64 : Cond.instanceMethod yX6_readWinds ∈ wsX7_level := mb_X7_level_wsX7_level_r3 (List.mem_of_getElem? (i := 15) rfl)
theorem mx_X7_level_65 : Cond.selects RX6 yX6_readWinds yX6_readWinds ∈ wsX7_level := mb_X7_level_wsX7_level_r3 (List.mem_of_getElem? (i := 16) rfl)
theorem mx_X7_level_66 : Cond.code yX6_readWinds cX6_readWinds 2 none ∈ wsX7_level := mb_X7_level_wsX7_level_r3 (List.mem_of_getElem? (i := 17) rfl)
theorem mx_X7_level_67 : Cond.methodLink RX6 68 yX6_readWind ∈ wsX7_level := mb_X7_level_wsX7_level_r3 (List.mem_of_getElem? (i := 18) rfl)
theorem mx_X7_level_68 : Cond.instanceMethod yX6_readWind ∈ wsX7_level := mb_X7_level_wsX7_level_r3 (List.mem_of_getElem? (i := 19) rfl)
theorem mx_X7_level_69 : Cond.selects RX6 yX6_readWind yX6_readWind ∈ wsX7_level := mb_X7_level_wsX7_level_r3 (List.mem_of_getElem? (i := 20) rfl)
theorem mx_X7_level_70 : Cond.code yX6_readWind cX6_readWind 2 none ∈ wsX7_level := mb_X7_level_wsX7_level_r3 (List.mem_of_getElem? (i := 21) rfl)
theorem mx_X7_level_71 : Cond.fieldLink RX6 75 "MillTalk$Level" "windCount" "I" ∈ wsX7_level := mb_X7_level_wsX7_level_r3 (List.mem_of_getElem? (i := 22) rfl)
theorem mx_X7_level_72 : Cond.fieldLink RX6 81 "MillTalk$Level" "winds" "[I" ∈ wsX7_level := mb_X7_level_wsX7_level_r3 (List.mem_of_getElem? (i := 23) rfl)
theorem mx_X7_level_73 : Cond.methodLink RX6 48 yX6_readSounds ∈ wsX7_level := mb_X7_level_wsX7_level_r4 (List.mem_of_getElem? (i := 0) rfl)
theorem mx_X7_level_74 : Cond.instanceMethod yX6_readSounds ∈ wsX7_level := mb_X7_level_wsX7_level_r4 (List.mem_of_getElem? (i := 1) rfl)
theorem mx_X7_level_75 : Cond.selects RX6 yX6_readSounds yX6_readSounds ∈ wsX7_level := mb_X7_level_wsX7_level_r4 (List.mem_of_getElem? (i := 2) rfl)
theorem mx_X7_level_76 : Cond.code yX6_readSounds cX6_readSounds 2 none ∈ wsX7_level := mb_X7_level_wsX7_level_r4 (List.mem_of_getElem? (i := 3) rfl)
theorem mx_X7_level_77 : Cond.methodLink RX6 84 yX6_readSound ∈ wsX7_level := mb_X7_level_wsX7_level_r4 (List.mem_of_getElem? (i := 4) rfl)
theorem mx_X7_level_78 : Cond.instanceMethod yX6_readSound ∈ wsX7_level := mb_X7_level_wsX7_level_r4 (List.mem_of_getElem? (i := 5) rfl)
theorem mx_X7_level_79 : Cond.selects RX6 yX6_readSound yX6_readSound ∈ wsX7_level := mb_X7_level_wsX7_level_r4 (List.mem_of_getElem? (i := 6) rfl)
theorem mx_X7_level_80 : Cond.code yX6_readSound cX6_readSound 4 none ∈ wsX7_level := mb_X7_level_wsX7_level_r4 (List.mem_of_getElem? (i := 7) rfl)
theorem mx_X7_level_81 : Cond.fieldLink RX6 90 "MillTalk$Level" "soundCount" "I" ∈ wsX7_level := mb_X7_level_wsX7_level_r4 (List.mem_of_getElem? (i := 8) rfl)
theorem mx_X7_level_82 : Cond.fieldLink RX6 93 "MillTalk$Level" "kinds" "[I" ∈ wsX7_level := mb_X7_level_wsX7_level_r4 (List.mem_of_getElem? (i := 9) rfl)
theorem mx_X7_level_83 : Cond.methodLink RX6 87 yX6_kindOf ∈ wsX7_level := mb_X7_level_wsX7_level_r4 (List.mem_of_getElem? (i := 10) rfl)
theorem mx_X7_level_84 : Cond.static yX6_kindOf ∈ wsX7_level := mb_X7_level_wsX7_level_r4 (List.mem_of_getElem? (i := 11) rfl)
theorem mx_X7_level_85 : Cond.code yX6_kindOf cX6_kindOf 1 (some .int) ∈ wsX7_level := mb_X7_level_wsX7_level_r4 (List.mem_of_getElem? (i := 12) rfl)
theorem mx_X7_level_86 : Cond.methodLink RX6 96 yX3_letLoose ∈ wsX7_level := mb_X7_level_wsX7_level_r4 (List.mem_of_getElem? (i := 13) rfl)
theorem mx_X7_level_87 : Cond.instanceMethod yX3_letLoose ∈ wsX7_level := mb_X7_level_wsX7_level_r4 (List.mem_of_getElem? (i := 14) rfl)
theorem mx_X7_level_88 : Cond.selects RX3 yX3_letLoose yX3_letLoose ∈ wsX7_level := mb_X7_level_wsX7_level_r4 (List.mem_of_getElem? (i := 15) rfl)
theorem mx_X7_level_89 : Cond.code yX3_letLoose cX3_letLoose 4 none ∈ wsX7_level := mb_X7_level_wsX7_level_r4 (List.mem_of_getElem? (i := 16) rfl)
theorem mb_X7_level_wsX60 {w : Cond} (h : w ∈ wsX60) : w ∈ wsX7_level := by unfold wsX7_level; exact List.mem_cons_of_mem _ (List.mem_append_left _ (List.mem_append_left _ (List.mem_append_right _ (h))))
theorem ggX7_level_X6_read : GoodIn wsX7_level wsX6_read := goodIn_sub (by unfold wsX6_read; exact List.forall_mem_cons.mpr ⟨mx_X7_level_13, List.forall_mem_append.mpr ⟨List.forall_mem_append.mpr ⟨List.forall_mem_append.mpr ⟨(by unfold wsX6_read_r1; exact List.forall_mem_cons.mpr ⟨mx_X7_level_14, List.forall_mem_cons.mpr ⟨mx_X7_level_15, List.forall_mem_cons.mpr ⟨mx_X7_level_16, List.forall_mem_cons.mpr ⟨mx_X7_level_17, List.forall_mem_cons.mpr ⟨mx_X7_level_18, List.forall_mem_cons.mpr ⟨mx_X7_level_19, List.forall_mem_cons.mpr ⟨mx_X7_level_20, List.forall_mem_cons.mpr ⟨mx_X7_level_21, List.forall_mem_cons.mpr ⟨mx_X7_level_22, List.forall_mem_cons.mpr ⟨mx_X7_level_23, List.forall_mem_cons.mpr ⟨mx_X7_level_24, List.forall_mem_cons.mpr ⟨mx_X7_level_25, List.forall_mem_cons.mpr ⟨mx_X7_level_26, List.forall_mem_cons.mpr ⟨mx_X7_level_27, List.forall_mem_cons.mpr ⟨mx_X7_level_28, List.forall_mem_cons.mpr ⟨mx_X7_level_29, List.forall_mem_cons.mpr ⟨mx_X7_level_30, List.forall_mem_cons.mpr ⟨mx_X7_level_31, List.forall_mem_cons.mpr ⟨mx_X7_level_32, List.forall_mem_cons.mpr ⟨mx_X7_level_33, List.forall_mem_cons.mpr ⟨mx_X7_level_34, List.forall_mem_cons.mpr ⟨mx_X7_level_12, List.forall_mem_cons.mpr ⟨mx_X7_level_35, List.forall_mem_cons.mpr ⟨mx_X7_level_36, fun _ h_ => absurd h_ List.not_mem_nil⟩⟩⟩⟩⟩⟩⟩⟩⟩⟩⟩⟩⟩⟩⟩⟩⟩⟩⟩⟩⟩⟩⟩⟩), List.forall_mem_append.mpr ⟨(by unfold wsX6_read_r2; exact List.forall_mem_cons.mpr ⟨mx_X7_level_37, List.forall_mem_cons.mpr ⟨mx_X7_level_38, List.forall_mem_cons.mpr ⟨mx_X7_level_39, List.forall_mem_cons.mpr ⟨mx_X7_level_40, List.forall_mem_cons.mpr ⟨mx_X7_level_41, List.forall_mem_cons.mpr ⟨mx_X7_level_42, List.forall_mem_cons.mpr ⟨mx_X7_level_43, List.forall_mem_cons.mpr ⟨mx_X7_level_44, List.forall_mem_cons.mpr ⟨mx_X7_level_45, List.forall_mem_cons.mpr ⟨mx_X7_level_46, List.forall_mem_cons.mpr ⟨mx_X7_level_47, List.forall_mem_cons.mpr ⟨mx_X7_level_48, List.forall_mem_cons.mpr ⟨mx_X7_level_49, List.forall_mem_cons.mpr ⟨mx_X7_level_50, List.forall_mem_cons.mpr ⟨mx_X7_level_51, List.forall_mem_cons.mpr ⟨mx_X7_level_52, List.forall_mem_cons.mpr ⟨mx_X7_level_53, List.forall_mem_cons.mpr ⟨mx_X7_level_54, List.forall_mem_cons.mpr ⟨mx_X7_level_55, List.forall_mem_cons.mpr ⟨mx_X7_level_56, List.forall_mem_cons.mpr ⟨mx_X7_level_57, List.forall_mem_cons.mpr ⟨mx_X7_level_58, List.forall_mem_cons.mpr ⟨mx_X7_level_59, List.forall_mem_cons.mpr ⟨mx_X7_level_60, fun _ h_ => absurd h_ List.not_mem_nil⟩⟩⟩⟩⟩⟩⟩⟩⟩⟩⟩⟩⟩⟩⟩⟩⟩⟩⟩⟩⟩⟩⟩⟩), List.forall_mem_append.mpr ⟨(by unfold wsX6_read_r3; exact List.forall_mem_cons.mpr ⟨mx_X7_level_61, List.forall_mem_cons.mpr ⟨mx_X7_level_62, List.forall_mem_cons.mpr ⟨mx_X7_level_63, List.forall_mem_cons.mpr ⟨mx_X7_level_64, List.forall_mem_cons.mpr ⟨mx_X7_level_65, List.forall_mem_cons.mpr ⟨mx_X7_level_66, List.forall_mem_cons.mpr ⟨mx_X7_level_67, List.forall_mem_cons.mpr ⟨mx_X7_level_68, List.forall_mem_cons.mpr ⟨mx_X7_level_69, List.forall_mem_cons.mpr ⟨mx_X7_level_70, List.forall_mem_cons.mpr ⟨mx_X7_level_71, List.forall_mem_cons.mpr ⟨mx_X7_level_72, List.forall_mem_cons.mpr ⟨mx_X7_level_73, List.forall_mem_cons.mpr ⟨mx_X7_level_74, List.forall_mem_cons.mpr ⟨mx_X7_level_75, List.forall_mem_cons.mpr ⟨mx_X7_level_76, List.forall_mem_cons.mpr ⟨mx_X7_level_77, List.forall_mem_cons.mpr ⟨mx_X7_level_78, List.forall_mem_cons.mpr ⟨mx_X7_level_79, List.forall_mem_cons.mpr ⟨mx_X7_level_80, List.forall_mem_cons.mpr ⟨mx_X7_level_81, List.forall_mem_cons.mpr ⟨mx_X7_level_82, List.forall_mem_cons.mpr ⟨mx_X7_level_83, List.forall_mem_cons.mpr ⟨mx_X7_level_84, fun _ h_ => absurd h_ List.not_mem_nil⟩⟩⟩⟩⟩⟩⟩⟩⟩⟩⟩⟩⟩⟩⟩⟩⟩⟩⟩⟩⟩⟩⟩⟩), (by unfold wsX6_read_r4; exact List.forall_mem_cons.mpr ⟨mx_X7_level_85, List.forall_mem_cons.mpr ⟨mx_X7_level_86, List.forall_mem_cons.mpr ⟨mx_X7_level_87, List.forall_mem_cons.mpr ⟨mx_X7_level_88, List.forall_mem_cons.mpr ⟨mx_X7_level_89, List.forall_mem_cons.mpr ⟨mx_X7_level_90, List.forall_mem_cons.mpr ⟨mx_X7_level_91, List.forall_mem_cons.mpr ⟨mx_X7_level_92, fun _ h_ => absurd h_ List.not_mem_nil⟩⟩⟩⟩⟩⟩⟩⟩)⟩⟩⟩, (fun _ h_ => mb_X7_level_wsX60 h_)⟩, (fun _ h_ => mb_X7_level_wsX30 h_)⟩⟩) (by decide +kernel)
theorem mx_X7_level_9 : Cond.methodLink RX7 113 yX6_read ∈ wsX7_level := mb_X7_level_wsX7_level_r1 (List.mem_of_getElem? (i := 8) rfl)
theorem mx_X7_level_10 : Cond.instanceMethod yX6_read ∈ wsX7_level := mb_X7_level_wsX7_level_r1 (List.mem_of_getElem? (i := 9) rfl)
theorem mx_X7_level_11 : Cond.selects RX6 yX6_read yX6_read ∈ wsX7_level := mb_X7_level_wsX7_level_r1 (List.mem_of_getElem? (i := 10) rfl)
theorem gX7_level_X6_read : GoodIn wsX7_level (wsV RX7 113 RX6 yX6_read wsX6_read) := goodIn_app (goodIn_sub (List.forall_mem_cons.mpr ⟨mx_X7_level_9, List.forall_mem_cons.mpr ⟨mx_X7_level_10, List.forall_mem_cons.mpr ⟨mx_X7_level_11, List.forall_mem_cons.mpr ⟨mx_X7_level_12, fun _ h_ => absurd h_ List.not_mem_nil⟩⟩⟩⟩) (by decide +kernel)) ggX7_level_X6_read
theorem mb_X7_row_wsX7_row_r1 {w : Cond} (h : w ∈ wsX7_row_r1) : w ∈ wsX7_row := by unfold wsX7_row; exact List.mem_cons_of_mem _ (List.mem_append_left _ (List.mem_append_left _ (List.mem_append_left _ (h))))
theorem mx_X7_row_9 : Cond.code yX5_isLane cX5_isLane 1 (some .boolean) ∈ wsX7_row := mb_X7_row_wsX7_row_r1 (List.mem_of_getElem? (i := 8) rfl)
theorem ggX7_row_X5_isLane : GoodIn wsX7_row wsX5_isLane := goodIn_sub (by unfold wsX5_isLane; exact List.forall_mem_cons.mpr ⟨mx_X7_row_9, fun _ h_ => absurd h_ List.not_mem_nil⟩) (by decide +kernel)
set_option maxRecDepth 20000 in
theorem gX7_row_X5_isLane : GoodIn wsX7_row (va_wsS RX7 69 yX5_isLane wsX5_isLane) := goodIn_app (goodIn_of _ (by decide +kernel)) ggX7_row_X5_isLane
theorem mx_X7_row_6 : Cond.code yX5_isRow cX5_isRow 1 (some .boolean) ∈ wsX7_row := mb_X7_row_wsX7_row_r1 (List.mem_of_getElem? (i := 5) rfl)
theorem ggX7_row_X5_isRow : GoodIn wsX7_row wsX5_isRow := goodIn_sub (by unfold wsX5_isRow; exact List.forall_mem_cons.mpr ⟨mx_X7_row_6, fun _ h_ => absurd h_ List.not_mem_nil⟩) (by decide +kernel)
set_option maxRecDepth 20000 in
theorem gX7_row_X5_isRow : GoodIn wsX7_row (va_wsS RX7 65 yX5_isRow wsX5_isRow) := goodIn_app (goodIn_of _ (by decide +kernel)) ggX7_row_X5_isRow
theorem mx_X7_row_20 : Cond.code yX5_make cX5_make 4 none ∈ wsX7_row := mb_X7_row_wsX7_row_r1 (List.mem_of_getElem? (i := 19) rfl)
theorem mx_X7_row_21 : Cond.fieldLink RX5 16 "MillTalk$Rows" "lanes" "[I" ∈ wsX7_row := mb_X7_row_wsX7_row_r1 (List.mem_of_getElem? (i := 20) rfl)
theorem mx_X7_row_22 : Cond.fieldLink RX5 20 "MillTalk$Rows" "lengths" "[I" ∈ wsX7_row := mb_X7_row_wsX7_row_r1 (List.mem_of_getElem? (i := 21) rfl)
theorem mx_X7_row_23 : Cond.fieldLink RX5 13 "MillTalk$Rows" "items" "[[I" ∈ wsX7_row := mb_X7_row_wsX7_row_r1 (List.mem_of_getElem? (i := 22) rfl)
theorem mx_X7_row_24 : Cond.methodLink RX5 23 yJ7_fill_53178 ∈ wsX7_row := mb_X7_row_wsX7_row_r1 (List.mem_of_getElem? (i := 23) rfl)
theorem mb_X7_row_wsX7_row_r2 {w : Cond} (h : w ∈ wsX7_row_r2) : w ∈ wsX7_row := by unfold wsX7_row; exact List.mem_cons_of_mem _ (List.mem_append_left _ (List.mem_append_left _ (List.mem_append_right _ (h))))
theorem mx_X7_row_25 : Cond.static yJ7_fill_53178 ∈ wsX7_row := mb_X7_row_wsX7_row_r2 (List.mem_of_getElem? (i := 0) rfl)
theorem mx_X7_row_26 : Cond.initialized RJ7 ∈ wsX7_row := mb_X7_row_wsX7_row_r2 (List.mem_of_getElem? (i := 1) rfl)
theorem mx_X7_row_27 : Cond.code yJ7_fill_53178 cJ7_fill_53178 4 none ∈ wsX7_row := mb_X7_row_wsX7_row_r2 (List.mem_of_getElem? (i := 2) rfl)
theorem mb_X7_row_wsX50 {w : Cond} (h : w ∈ wsX50) : w ∈ wsX7_row := by unfold wsX7_row; exact List.mem_cons_of_mem _ (List.mem_append_right _ (h))
theorem ggX7_row_X5_make : GoodIn wsX7_row wsX5_make := goodIn_sub (by unfold wsX5_make; exact List.forall_mem_cons.mpr ⟨mx_X7_row_20, List.forall_mem_append.mpr ⟨List.forall_mem_cons.mpr ⟨mx_X7_row_21, List.forall_mem_cons.mpr ⟨mx_X7_row_22, List.forall_mem_cons.mpr ⟨mx_X7_row_23, List.forall_mem_cons.mpr ⟨mx_X7_row_24, List.forall_mem_cons.mpr ⟨mx_X7_row_25, List.forall_mem_cons.mpr ⟨mx_X7_row_26, List.forall_mem_cons.mpr ⟨mx_X7_row_27, fun _ h_ => absurd h_ List.not_mem_nil⟩⟩⟩⟩⟩⟩⟩, (fun _ h_ => mb_X7_row_wsX50 h_)⟩⟩) (by decide +kernel)
theorem mx_X7_row_17 : Cond.methodLink RX7 77 yX5_make ∈ wsX7_row := mb_X7_row_wsX7_row_r1 (List.mem_of_getElem? (i := 16) rfl)
theorem mx_X7_row_18 : Cond.instanceMethod yX5_make ∈ wsX7_row := mb_X7_row_wsX7_row_r1 (List.mem_of_getElem? (i := 17) rfl)
theorem mx_X7_row_19 : Cond.selects RX5 yX5_make yX5_make ∈ wsX7_row := mb_X7_row_wsX7_row_r1 (List.mem_of_getElem? (i := 18) rfl)
theorem mx_X7_row_5 : Cond.initialized RX5 ∈ wsX7_row := mb_X7_row_wsX7_row_r1 (List.mem_of_getElem? (i := 4) rfl)
theorem gX7_row_X5_make : GoodIn wsX7_row (wsV RX7 77 RX5 yX5_make wsX5_make) := goodIn_app (goodIn_sub (List.forall_mem_cons.mpr ⟨mx_X7_row_17, List.forall_mem_cons.mpr ⟨mx_X7_row_18, List.forall_mem_cons.mpr ⟨mx_X7_row_19, List.forall_mem_cons.mpr ⟨mx_X7_row_5, fun _ h_ => absurd h_ List.not_mem_nil⟩⟩⟩⟩) (by decide +kernel)) ggX7_row_X5_make
theorem mx_X7_row_14 : Cond.code yX7_found cX7_found 2 (some .int) ∈ wsX7_row := mb_X7_row_wsX7_row_r1 (List.mem_of_getElem? (i := 13) rfl)
theorem mx_X7_row_15 : Cond.fieldLink RX7 323 "MillTalk" "latestFinding" "I" ∈ wsX7_row := mb_X7_row_wsX7_row_r1 (List.mem_of_getElem? (i := 14) rfl)
theorem mx_X7_row_16 : Cond.constant RX7 326 (-1000010) ∈ wsX7_row := mb_X7_row_wsX7_row_r1 (List.mem_of_getElem? (i := 15) rfl)
theorem mb_X7_row_wsX70 {w : Cond} (h : w ∈ wsX70) : w ∈ wsX7_row := by unfold wsX7_row; exact List.mem_cons_of_mem _ (List.mem_append_left _ (List.mem_append_right _ (h)))
theorem ggX7_row_X7_found : GoodIn wsX7_row wsX7_found := goodIn_sub (by unfold wsX7_found; exact List.forall_mem_cons.mpr ⟨mx_X7_row_14, List.forall_mem_append.mpr ⟨List.forall_mem_cons.mpr ⟨mx_X7_row_15, List.forall_mem_cons.mpr ⟨mx_X7_row_16, fun _ h_ => absurd h_ List.not_mem_nil⟩⟩, (fun _ h_ => mb_X7_row_wsX70 h_)⟩⟩) (by decide +kernel)
theorem mx_X7_row_10 : Cond.methodLink RX7 73 yX7_found ∈ wsX7_row := mb_X7_row_wsX7_row_r1 (List.mem_of_getElem? (i := 9) rfl)
theorem mx_X7_row_11 : Cond.instanceMethod yX7_found ∈ wsX7_row := mb_X7_row_wsX7_row_r1 (List.mem_of_getElem? (i := 10) rfl)
theorem mx_X7_row_12 : Cond.selects RX7 yX7_found yX7_found ∈ wsX7_row := mb_X7_row_wsX7_row_r1 (List.mem_of_getElem? (i := 11) rfl)
theorem mx_X7_row_13 : Cond.initialized RX7 ∈ wsX7_row := mb_X7_row_wsX7_row_r1 (List.mem_of_getElem? (i := 12) rfl)
theorem gX7_row_X7_found : GoodIn wsX7_row (wsV RX7 73 RX7 yX7_found wsX7_found) := goodIn_app (goodIn_sub (List.forall_mem_cons.mpr ⟨mx_X7_row_10, List.forall_mem_cons.mpr ⟨mx_X7_row_11, List.forall_mem_cons.mpr ⟨mx_X7_row_12, List.forall_mem_cons.mpr ⟨mx_X7_row_13, fun _ h_ => absurd h_ List.not_mem_nil⟩⟩⟩⟩) (by decide +kernel)) ggX7_row_X7_found
theorem mx_X7_row_31 : Cond.code yX7_foundNothing cX7_foundNothing 2 (some .int) ∈ wsX7_row := mb_X7_row_wsX7_row_r2 (List.mem_of_getElem? (i := 6) rfl)
theorem ggX7_row_X7_foundNothing : GoodIn wsX7_row wsX7_foundNothing := goodIn_sub (by unfold wsX7_foundNothing; exact List.forall_mem_cons.mpr ⟨mx_X7_row_31, List.forall_mem_append.mpr ⟨List.forall_mem_cons.mpr ⟨mx_X7_row_15, fun _ h_ => absurd h_ List.not_mem_nil⟩, (fun _ h_ => mb_X7_row_wsX70 h_)⟩⟩) (by decide +kernel)
theorem mx_X7_row_28 : Cond.methodLink RX7 81 yX7_foundNothing ∈ wsX7_row := mb_X7_row_wsX7_row_r2 (List.mem_of_getElem? (i := 3) rfl)
theorem mx_X7_row_29 : Cond.instanceMethod yX7_foundNothing ∈ wsX7_row := mb_X7_row_wsX7_row_r2 (List.mem_of_getElem? (i := 4) rfl)
theorem mx_X7_row_30 : Cond.selects RX7 yX7_foundNothing yX7_foundNothing ∈ wsX7_row := mb_X7_row_wsX7_row_r2 (List.mem_of_getElem? (i := 5) rfl)
theorem gX7_row_X7_foundNothing : GoodIn wsX7_row (wsV RX7 81 RX7 yX7_foundNothing wsX7_foundNothing) := goodIn_app (goodIn_sub (List.forall_mem_cons.mpr ⟨mx_X7_row_28, List.forall_mem_cons.mpr ⟨mx_X7_row_29, List.forall_mem_cons.mpr ⟨mx_X7_row_30, List.forall_mem_cons.mpr ⟨mx_X7_row_13, fun _ h_ => absurd h_ List.not_mem_nil⟩⟩⟩⟩) (by decide +kernel)) ggX7_row_X7_foundNothing
theorem mb_X7_set_wsX7_set_r1 {w : Cond} (h : w ∈ wsX7_set_r1) : w ∈ wsX7_set := by unfold wsX7_set; exact List.mem_cons_of_mem _ (List.mem_append_left _ (List.mem_append_left _ (List.mem_append_left _ (h))))
theorem mx_X7_set_10 : Cond.code yX5_findingOf cX5_findingOf 4 (some .int) ∈ wsX7_set := mb_X7_set_wsX7_set_r1 (List.mem_of_getElem? (i := 9) rfl)
theorem mx_X7_set_11 : Cond.methodLink RX5 29 yX5_isMissing ∈ wsX7_set := mb_X7_set_wsX7_set_r1 (List.mem_of_getElem? (i := 10) rfl)
theorem mx_X7_set_12 : Cond.instanceMethod yX5_isMissing ∈ wsX7_set := mb_X7_set_wsX7_set_r1 (List.mem_of_getElem? (i := 11) rfl)
theorem mx_X7_set_13 : Cond.selects RX5 yX5_isMissing yX5_isMissing ∈ wsX7_set := mb_X7_set_wsX7_set_r1 (List.mem_of_getElem? (i := 12) rfl)
theorem mx_X7_set_5 : Cond.initialized RX5 ∈ wsX7_set := mb_X7_set_wsX7_set_r1 (List.mem_of_getElem? (i := 4) rfl)
theorem mx_X7_set_14 : Cond.code yX5_isMissing cX5_isMissing 2 (some .boolean) ∈ wsX7_set := mb_X7_set_wsX7_set_r1 (List.mem_of_getElem? (i := 13) rfl)
theorem mx_X7_set_15 : Cond.fieldLink RX5 16 "MillTalk$Rows" "lanes" "[I" ∈ wsX7_set := mb_X7_set_wsX7_set_r1 (List.mem_of_getElem? (i := 14) rfl)
theorem mx_X7_set_16 : Cond.methodLink RX5 33 yX5_hasPlaces ∈ wsX7_set := mb_X7_set_wsX7_set_r1 (List.mem_of_getElem? (i := 15) rfl)
theorem mx_X7_set_17 : Cond.instanceMethod yX5_hasPlaces ∈ wsX7_set := mb_X7_set_wsX7_set_r1 (List.mem_of_getElem? (i := 16) rfl)
theorem mx_X7_set_18 : Cond.selects RX5 yX5_hasPlaces yX5_hasPlaces ∈ wsX7_set := mb_X7_set_wsX7_set_r1 (List.mem_of_getElem? (i := 17) rfl)
theorem mx_X7_set_19 : Cond.code yX5_hasPlaces cX5_hasPlaces 4 (some .boolean) ∈ wsX7_set := mb_X7_set_wsX7_set_r1 (List.mem_of_getElem? (i := 18) rfl)
theorem mx_X7_set_20 : Cond.fieldLink RX5 20 "MillTalk$Rows" "lengths" "[I" ∈ wsX7_set := mb_X7_set_wsX7_set_r1 (List.mem_of_getElem? (i := 19) rfl)
theorem mb_X7_set_wsX50 {w : Cond} (h : w ∈ wsX50) : w ∈ wsX7_set := by unfold wsX7_set; exact List.mem_cons_of_mem _ (List.mem_append_right _ (h))
theorem ggX7_set_X5_findingOf : GoodIn wsX7_set wsX5_findingOf := goodIn_sub (by unfold wsX5_findingOf; exact List.forall_mem_cons.mpr ⟨mx_X7_set_10, List.forall_mem_append.mpr ⟨List.forall_mem_cons.mpr ⟨mx_X7_set_11, List.forall_mem_cons.mpr ⟨mx_X7_set_12, List.forall_mem_cons.mpr ⟨mx_X7_set_13, List.forall_mem_cons.mpr ⟨mx_X7_set_5, List.forall_mem_cons.mpr ⟨mx_X7_set_14, List.forall_mem_cons.mpr ⟨mx_X7_set_15, List.forall_mem_cons.mpr ⟨mx_X7_set_16, List.forall_mem_cons.mpr ⟨mx_X7_set_17, List.forall_mem_cons.mpr ⟨mx_X7_set_18, List.forall_mem_cons.mpr ⟨mx_X7_set_19, List.forall_mem_cons.mpr ⟨mx_X7_set_20, fun _ h_ => absurd h_ List.not_mem_nil⟩⟩⟩⟩⟩⟩⟩⟩⟩⟩⟩, (fun _ h_ => mb_X7_set_wsX50 h_)⟩⟩) (by decide +kernel)
theorem mx_X7_set_7 : Cond.methodLink RX7 84 yX5_findingOf ∈ wsX7_set := mb_X7_set_wsX7_set_r1 (List.mem_of_getElem? (i := 6) rfl)
theorem mx_X7_set_8 : Cond.instanceMethod yX5_findingOf ∈ wsX7_set := mb_X7_set_wsX7_set_r1 (List.mem_of_getElem? (i := 7) rfl)
theorem mx_X7_set_9 : Cond.selects RX5 yX5_findingOf yX5_findingOf ∈ wsX7_set := mb_X7_set_wsX7_set_r1 (List.mem_of_getElem? (i := 8) rfl)
theorem gX7_set_X5_findingOf : GoodIn wsX7_set (wsV RX7 84 RX5 yX5_findingOf wsX5_findingOf) := goodIn_app (goodIn_sub (List.forall_mem_cons.mpr ⟨mx_X7_set_7, List.forall_mem_cons.mpr ⟨mx_X7_set_8, List.forall_mem_cons.mpr ⟨mx_X7_set_9, List.forall_mem_cons.mpr ⟨mx_X7_set_5, fun _ h_ => absurd h_ List.not_mem_nil⟩⟩⟩⟩) (by decide +kernel)) ggX7_set_X5_findingOf
theorem mx_X7_set_6 : Cond.code yX5_isRow cX5_isRow 1 (some .boolean) ∈ wsX7_set := mb_X7_set_wsX7_set_r1 (List.mem_of_getElem? (i := 5) rfl)
theorem ggX7_set_X5_isRow : GoodIn wsX7_set wsX5_isRow := goodIn_sub (by unfold wsX5_isRow; exact List.forall_mem_cons.mpr ⟨mx_X7_set_6, fun _ h_ => absurd h_ List.not_mem_nil⟩) (by decide +kernel)
set_option maxRecDepth 20000 in
theorem gX7_set_X5_isRow : GoodIn wsX7_set (va_wsS RX7 65 yX5_isRow wsX5_isRow) := goodIn_app (goodIn_of _ (by decide +kernel)) ggX7_set_X5_isRow
theorem mb_X7_set_wsX7_set_r2 {w : Cond} (h : w ∈ wsX7_set_r2) : w ∈ wsX7_set := by unfold wsX7_set; exact List.mem_cons_of_mem _ (List.mem_append_left _ (List.mem_append_left _ (List.mem_append_right _ (h))))
theorem mx_X7_set_31 : Cond.code yX5_put cX5_put 5 (some .int) ∈ wsX7_set := mb_X7_set_wsX7_set_r2 (List.mem_of_getElem? (i := 6) rfl)
theorem mx_X7_set_32 : Cond.fieldLink RX5 13 "MillTalk$Rows" "items" "[[I" ∈ wsX7_set := mb_X7_set_wsX7_set_r2 (List.mem_of_getElem? (i := 7) rfl)
theorem ggX7_set_X5_put : GoodIn wsX7_set wsX5_put := goodIn_sub (by unfold wsX5_put; exact List.forall_mem_cons.mpr ⟨mx_X7_set_31, List.forall_mem_append.mpr ⟨List.forall_mem_cons.mpr ⟨mx_X7_set_15, List.forall_mem_cons.mpr ⟨mx_X7_set_32, fun _ h_ => absurd h_ List.not_mem_nil⟩⟩, (fun _ h_ => mb_X7_set_wsX50 h_)⟩⟩) (by decide +kernel)
theorem mx_X7_set_28 : Cond.methodLink RX7 88 yX5_put ∈ wsX7_set := mb_X7_set_wsX7_set_r2 (List.mem_of_getElem? (i := 3) rfl)
theorem mx_X7_set_29 : Cond.instanceMethod yX5_put ∈ wsX7_set := mb_X7_set_wsX7_set_r2 (List.mem_of_getElem? (i := 4) rfl)
theorem mx_X7_set_30 : Cond.selects RX5 yX5_put yX5_put ∈ wsX7_set := mb_X7_set_wsX7_set_r2 (List.mem_of_getElem? (i := 5) rfl)
theorem gX7_set_X5_put : GoodIn wsX7_set (wsV RX7 88 RX5 yX5_put wsX5_put) := goodIn_app (goodIn_sub (List.forall_mem_cons.mpr ⟨mx_X7_set_28, List.forall_mem_cons.mpr ⟨mx_X7_set_29, List.forall_mem_cons.mpr ⟨mx_X7_set_30, List.forall_mem_cons.mpr ⟨mx_X7_set_5, fun _ h_ => absurd h_ List.not_mem_nil⟩⟩⟩⟩) (by decide +kernel)) ggX7_set_X5_put
theorem mx_X7_set_25 : Cond.code yX7_found cX7_found 2 (some .int) ∈ wsX7_set := mb_X7_set_wsX7_set_r2 (List.mem_of_getElem? (i := 0) rfl)
theorem mx_X7_set_26 : Cond.fieldLink RX7 323 "MillTalk" "latestFinding" "I" ∈ wsX7_set := mb_X7_set_wsX7_set_r2 (List.mem_of_getElem? (i := 1) rfl)
theorem mx_X7_set_27 : Cond.constant RX7 326 (-1000010) ∈ wsX7_set := mb_X7_set_wsX7_set_r2 (List.mem_of_getElem? (i := 2) rfl)
theorem mb_X7_set_wsX70 {w : Cond} (h : w ∈ wsX70) : w ∈ wsX7_set := by unfold wsX7_set; exact List.mem_cons_of_mem _ (List.mem_append_left _ (List.mem_append_right _ (h)))
theorem ggX7_set_X7_found : GoodIn wsX7_set wsX7_found := goodIn_sub (by unfold wsX7_found; exact List.forall_mem_cons.mpr ⟨mx_X7_set_25, List.forall_mem_append.mpr ⟨List.forall_mem_cons.mpr ⟨mx_X7_set_26, List.forall_mem_cons.mpr ⟨mx_X7_set_27, fun _ h_ => absurd h_ List.not_mem_nil⟩⟩, (fun _ h_ => mb_X7_set_wsX70 h_)⟩⟩) (by decide +kernel)
theorem mx_X7_set_21 : Cond.methodLink RX7 73 yX7_found ∈ wsX7_set := mb_X7_set_wsX7_set_r1 (List.mem_of_getElem? (i := 20) rfl)
theorem mx_X7_set_22 : Cond.instanceMethod yX7_found ∈ wsX7_set := mb_X7_set_wsX7_set_r1 (List.mem_of_getElem? (i := 21) rfl)
theorem mx_X7_set_23 : Cond.selects RX7 yX7_found yX7_found ∈ wsX7_set := mb_X7_set_wsX7_set_r1 (List.mem_of_getElem? (i := 22) rfl)
theorem mx_X7_set_24 : Cond.initialized RX7 ∈ wsX7_set := mb_X7_set_wsX7_set_r1 (List.mem_of_getElem? (i := 23) rfl)
theorem gX7_set_X7_found : GoodIn wsX7_set (wsV RX7 73 RX7 yX7_found wsX7_found) := goodIn_app (goodIn_sub (List.forall_mem_cons.mpr ⟨mx_X7_set_21, List.forall_mem_cons.mpr ⟨mx_X7_set_22, List.forall_mem_cons.mpr ⟨mx_X7_set_23, List.forall_mem_cons.mpr ⟨mx_X7_set_24, fun _ h_ => absurd h_ List.not_mem_nil⟩⟩⟩⟩) (by decide +kernel)) ggX7_set_X7_found
theorem mx_X7_set_36 : Cond.code yX7_foundNothing cX7_foundNothing 2 (some .int) ∈ wsX7_set := mb_X7_set_wsX7_set_r2 (List.mem_of_getElem? (i := 11) rfl)
theorem ggX7_set_X7_foundNothing : GoodIn wsX7_set wsX7_foundNothing := goodIn_sub (by unfold wsX7_foundNothing; exact List.forall_mem_cons.mpr ⟨mx_X7_set_36, List.forall_mem_append.mpr ⟨List.forall_mem_cons.mpr ⟨mx_X7_set_26, fun _ h_ => absurd h_ List.not_mem_nil⟩, (fun _ h_ => mb_X7_set_wsX70 h_)⟩⟩) (by decide +kernel)
theorem mx_X7_set_33 : Cond.methodLink RX7 81 yX7_foundNothing ∈ wsX7_set := mb_X7_set_wsX7_set_r2 (List.mem_of_getElem? (i := 8) rfl)
theorem mx_X7_set_34 : Cond.instanceMethod yX7_foundNothing ∈ wsX7_set := mb_X7_set_wsX7_set_r2 (List.mem_of_getElem? (i := 9) rfl)
theorem mx_X7_set_35 : Cond.selects RX7 yX7_foundNothing yX7_foundNothing ∈ wsX7_set := mb_X7_set_wsX7_set_r2 (List.mem_of_getElem? (i := 10) rfl)
theorem gX7_set_X7_foundNothing : GoodIn wsX7_set (wsV RX7 81 RX7 yX7_foundNothing wsX7_foundNothing) := goodIn_app (goodIn_sub (List.forall_mem_cons.mpr ⟨mx_X7_set_33, List.forall_mem_cons.mpr ⟨mx_X7_set_34, List.forall_mem_cons.mpr ⟨mx_X7_set_35, List.forall_mem_cons.mpr ⟨mx_X7_set_24, fun _ h_ => absurd h_ List.not_mem_nil⟩⟩⟩⟩) (by decide +kernel)) ggX7_set_X7_foundNothing
theorem i_X4_comesTo_X4 : ∀ w ∈ u_ws RX4 TX4 3, w ∈ wsX4_comesTo := fun _ h_ => mb_X4_comesTo_wsX40 h_
theorem i_X7_as_X3 : ∀ w ∈ u_ws RX3 TX3 13, w ∈ wsX7_as := fun _ h_ => mb_X7_as_wsX30 h_
theorem i_X7_as_X7 : ∀ w ∈ u_ws RX7 TX7 11, w ∈ wsX7_as := fun _ h_ => mb_X7_as_wsX70 h_
theorem mb_X7_ask_wsX70 {w : Cond} (h : w ∈ wsX70) : w ∈ wsX7_ask := by unfold wsX7_ask; exact List.mem_cons_of_mem _ (List.mem_append_left _ (List.mem_append_left _ (List.mem_append_right _ (h))))
theorem i_X7_ask_X7 : ∀ w ∈ u_ws RX7 TX7 11, w ∈ wsX7_ask := fun _ h_ => mb_X7_ask_wsX70 h_
theorem mb_X7_byTurns_wsX70 {w : Cond} (h : w ∈ wsX70) : w ∈ wsX7_byTurns := by unfold wsX7_byTurns; exact List.mem_cons_of_mem _ (List.mem_append_left _ (List.mem_append_left _ (List.mem_append_right _ (h))))
theorem i_X7_byTurns_X7 : ∀ w ∈ u_ws RX7 TX7 11, w ∈ wsX7_byTurns := fun _ h_ => mb_X7_byTurns_wsX70 h_
theorem i_X7_caps_X2 : ∀ w ∈ u_ws RX2 TX2 6, w ∈ wsX7_caps := fun _ h_ => mb_X7_caps_wsX20 h_
theorem mb_X7_caps_wsX70 {w : Cond} (h : w ∈ wsX70) : w ∈ wsX7_caps := by unfold wsX7_caps; exact List.mem_cons_of_mem _ (List.mem_append_left _ (List.mem_append_left _ (List.mem_append_right _ (h))))
theorem i_X7_caps_X7 : ∀ w ∈ u_ws RX7 TX7 11, w ∈ wsX7_caps := fun _ h_ => mb_X7_caps_wsX70 h_
theorem i_X7_copy_X7 : ∀ w ∈ u_ws RX7 TX7 11, w ∈ wsX7_copy := fun _ h_ => mb_X7_copy_wsX70 h_
theorem i_X7_drop_X7 : ∀ w ∈ u_ws RX7 TX7 11, w ∈ wsX7_drop := fun _ h_ => mb_X7_drop_wsX70 h_
theorem mb_X7_feed_wsX70 {w : Cond} (h : w ∈ wsX70) : w ∈ wsX7_feed := by unfold wsX7_feed; exact List.mem_cons_of_mem _ (List.mem_append_left _ (List.mem_append_right _ (h)))
theorem i_X7_feed_X7 : ∀ w ∈ u_ws RX7 TX7 11, w ∈ wsX7_feed := fun _ h_ => mb_X7_feed_wsX70 h_
theorem i_X7_had_X2 : ∀ w ∈ u_ws RX2 TX2 6, w ∈ wsX7_had := fun _ h_ => mb_X7_had_wsX20 h_
theorem i_X7_had_X3 : ∀ w ∈ u_ws RX3 TX3 13, w ∈ wsX7_had := fun _ h_ => mb_X7_had_wsX30 h_
theorem mb_X7_had_wsX70 {w : Cond} (h : w ∈ wsX70) : w ∈ wsX7_had := by unfold wsX7_had; exact List.mem_cons_of_mem _ (List.mem_append_left _ (List.mem_append_left _ (List.mem_append_right _ (h))))
theorem i_X7_had_X7 : ∀ w ∈ u_ws RX7 TX7 11, w ∈ wsX7_had := fun _ h_ => mb_X7_had_wsX70 h_
theorem i_X7_level_X3 : ∀ w ∈ u_ws RX3 TX3 13, w ∈ wsX7_level := fun _ h_ => mb_X7_level_wsX30 h_
theorem i_X7_level_X6 : ∀ w ∈ u_ws RX6 TX6 6, w ∈ wsX7_level := fun _ h_ => mb_X7_level_wsX60 h_
theorem mb_X7_level_wsX70 {w : Cond} (h : w ∈ wsX70) : w ∈ wsX7_level := by unfold wsX7_level; exact List.mem_cons_of_mem _ (List.mem_append_left _ (List.mem_append_left _ (List.mem_append_left _ (List.mem_append_right _ (h)))))
theorem i_X7_level_X7 : ∀ w ∈ u_ws RX7 TX7 11, w ∈ wsX7_level := fun _ h_ => mb_X7_level_wsX70 h_
theorem i_X7_row_X7 : ∀ w ∈ u_ws RX7 TX7 11, w ∈ wsX7_row := fun _ h_ => mb_X7_row_wsX70 h_
theorem i_X7_set_X7 : ∀ w ∈ u_ws RX7 TX7 11, w ∈ wsX7_set := fun _ h_ => mb_X7_set_wsX70 h_
theorem mx_X7_feed_1 : Cond.constant RX7 72 (-1000001) ∈ wsX7_feed := by unfold wsX7_feed; exact List.mem_cons_of_mem _ (List.mem_append_left _ (List.mem_append_left _ (List.mem_of_getElem? (i := 0) rfl)))
theorem mx_X7_feed_2 : Cond.fieldLink RX7 19 "MillTalk" "tape" "LMillTalk$Tape;" ∈ wsX7_feed := by unfold wsX7_feed; exact List.mem_cons_of_mem _ (List.mem_append_left _ (List.mem_append_left _ (List.mem_of_getElem? (i := 1) rfl)))
theorem mx_X7_feed_3 : Cond.constant RX7 109 (-1000003) ∈ wsX7_feed := by unfold wsX7_feed; exact List.mem_cons_of_mem _ (List.mem_append_left _ (List.mem_append_left _ (List.mem_of_getElem? (i := 2) rfl)))
theorem mx_X7_level_1 : Cond.fieldLink RX7 19 "MillTalk" "tape" "LMillTalk$Tape;" ∈ wsX7_level := mb_X7_level_wsX7_level_r1 (List.mem_of_getElem? (i := 0) rfl)
theorem mx_X7_level_5 : Cond.fieldLink RX7 26 "MillTalk" "now" "LMillTalk$Level;" ∈ wsX7_level := mb_X7_level_wsX7_level_r1 (List.mem_of_getElem? (i := 4) rfl)
theorem mx_X7_level_6 : Cond.fieldLink RX7 125 "MillTalk$Tape" "told" "LMillTalk$Level;" ∈ wsX7_level := mb_X7_level_wsX7_level_r1 (List.mem_of_getElem? (i := 5) rfl)
theorem mx_X7_level_7 : Cond.fieldLink RX7 33 "MillTalk" "acts" "LMillTalk$Acts;" ∈ wsX7_level := mb_X7_level_wsX7_level_r1 (List.mem_of_getElem? (i := 6) rfl)
theorem mx_X7_level_8 : Cond.fieldLink RX7 135 "MillTalk$Level" "soundCount" "I" ∈ wsX7_level := mb_X7_level_wsX7_level_r1 (List.mem_of_getElem? (i := 7) rfl)
theorem mx_X7_level_2 : Cond.fieldLink RX7 117 "MillTalk" "latestFault" "I" ∈ wsX7_level := mb_X7_level_wsX7_level_r1 (List.mem_of_getElem? (i := 1) rfl)
theorem mx_X7_level_3 : Cond.constant RX7 121 (-1000100) ∈ wsX7_level := mb_X7_level_wsX7_level_r1 (List.mem_of_getElem? (i := 2) rfl)
theorem mx_X7_level_4 : Cond.fieldLink RX7 122 "MillTalk$Tape" "faultPlace" "I" ∈ wsX7_level := mb_X7_level_wsX7_level_r1 (List.mem_of_getElem? (i := 3) rfl)
theorem mx_X7_row_1 : Cond.constant RX7 72 (-1000001) ∈ wsX7_row := mb_X7_row_wsX7_row_r1 (List.mem_of_getElem? (i := 0) rfl)
theorem mx_X7_row_2 : Cond.fieldLink RX7 10 "MillTalk" "rows" "LMillTalk$Rows;" ∈ wsX7_row := mb_X7_row_wsX7_row_r1 (List.mem_of_getElem? (i := 1) rfl)
theorem mx_X7_set_1 : Cond.constant RX7 72 (-1000001) ∈ wsX7_set := mb_X7_set_wsX7_set_r1 (List.mem_of_getElem? (i := 0) rfl)
theorem mx_X7_set_2 : Cond.fieldLink RX7 10 "MillTalk" "rows" "LMillTalk$Rows;" ∈ wsX7_set := mb_X7_set_wsX7_set_r1 (List.mem_of_getElem? (i := 1) rfl)
theorem mx_X7_copy_1 : Cond.constant RX7 72 (-1000001) ∈ wsX7_copy := mb_X7_copy_wsX7_copy_r1 (List.mem_of_getElem? (i := 0) rfl)
theorem mx_X7_copy_2 : Cond.fieldLink RX7 10 "MillTalk" "rows" "LMillTalk$Rows;" ∈ wsX7_copy := mb_X7_copy_wsX7_copy_r1 (List.mem_of_getElem? (i := 1) rfl)
theorem mx_X7_drop_1 : Cond.constant RX7 72 (-1000001) ∈ wsX7_drop := mb_X7_drop_wsX7_drop_r1 (List.mem_of_getElem? (i := 0) rfl)
theorem mx_X7_drop_2 : Cond.fieldLink RX7 10 "MillTalk" "rows" "LMillTalk$Rows;" ∈ wsX7_drop := mb_X7_drop_wsX7_drop_r1 (List.mem_of_getElem? (i := 1) rfl)
theorem mx_X7_as_1 : Cond.fieldLink RX7 26 "MillTalk" "now" "LMillTalk$Level;" ∈ wsX7_as := by unfold wsX7_as; exact List.mem_cons_of_mem _ (List.mem_append_left _ (List.mem_append_left _ (List.mem_of_getElem? (i := 0) rfl)))
theorem mx_X7_as_2 : Cond.constant RX7 72 (-1000001) ∈ wsX7_as := by unfold wsX7_as; exact List.mem_cons_of_mem _ (List.mem_append_left _ (List.mem_append_left _ (List.mem_of_getElem? (i := 1) rfl)))
theorem mx_X7_as_3 : Cond.fieldLink RX7 301 "MillTalk$Level" "kinds" "[I" ∈ wsX7_as := by unfold wsX7_as; exact List.mem_cons_of_mem _ (List.mem_append_left _ (List.mem_append_left _ (List.mem_of_getElem? (i := 2) rfl)))
theorem mx_X7_ask_1 : Cond.fieldLink RX7 26 "MillTalk" "now" "LMillTalk$Level;" ∈ wsX7_ask := mb_X7_ask_wsX7_ask_r1 (List.mem_of_getElem? (i := 0) rfl)
theorem mx_X7_ask_2 : Cond.constant RX7 72 (-1000001) ∈ wsX7_ask := mb_X7_ask_wsX7_ask_r1 (List.mem_of_getElem? (i := 1) rfl)
theorem mx_X7_ask_3 : Cond.fieldLink RX7 61 "MillTalk" "asks" "LMillTalk$Asks;" ∈ wsX7_ask := mb_X7_ask_wsX7_ask_r1 (List.mem_of_getElem? (i := 2) rfl)
theorem mx_X7_caps_1 : Cond.fieldLink RX7 26 "MillTalk" "now" "LMillTalk$Level;" ∈ wsX7_caps := mb_X7_caps_wsX7_caps_r1 (List.mem_of_getElem? (i := 0) rfl)
theorem mx_X7_caps_2 : Cond.constant RX7 141 (-1000002) ∈ wsX7_caps := mb_X7_caps_wsX7_caps_r1 (List.mem_of_getElem? (i := 1) rfl)
theorem mx_X7_caps_3 : Cond.constant RX7 72 (-1000001) ∈ wsX7_caps := mb_X7_caps_wsX7_caps_r1 (List.mem_of_getElem? (i := 2) rfl)
theorem mx_X7_caps_5 : Cond.fieldLink RX7 54 "MillTalk" "capSearch" "LMillTalk$CapSearch;" ∈ wsX7_caps := mb_X7_caps_wsX7_caps_r1 (List.mem_of_getElem? (i := 4) rfl)
theorem mx_X7_caps_7 : Cond.fieldLink RX7 231 "MillTalk$CapSearch" "bestTurns" "I" ∈ wsX7_caps := mb_X7_caps_wsX7_caps_r1 (List.mem_of_getElem? (i := 6) rfl)
theorem mx_X7_caps_6 : Cond.fieldLink RX7 228 "MillTalk$CapSearch" "bestWorth" "I" ∈ wsX7_caps := mb_X7_caps_wsX7_caps_r1 (List.mem_of_getElem? (i := 5) rfl)
theorem mx_X7_caps_4 : Cond.constant RX7 220 (-1000000) ∈ wsX7_caps := mb_X7_caps_wsX7_caps_r1 (List.mem_of_getElem? (i := 3) rfl)
theorem mx_X7_had_1 : Cond.fieldLink RX7 26 "MillTalk" "now" "LMillTalk$Level;" ∈ wsX7_had := mb_X7_had_wsX7_had_r1 (List.mem_of_getElem? (i := 0) rfl)
theorem mx_X7_had_2 : Cond.constant RX7 141 (-1000002) ∈ wsX7_had := mb_X7_had_wsX7_had_r1 (List.mem_of_getElem? (i := 1) rfl)
theorem mx_X7_had_4 : Cond.constant RX7 72 (-1000001) ∈ wsX7_had := mb_X7_had_wsX7_had_r1 (List.mem_of_getElem? (i := 3) rfl)
theorem mx_X7_had_3 : Cond.fieldLink RX7 135 "MillTalk$Level" "soundCount" "I" ∈ wsX7_had := mb_X7_had_wsX7_had_r1 (List.mem_of_getElem? (i := 2) rfl)
theorem mx_X7_had_5 : Cond.fieldLink RX7 54 "MillTalk" "capSearch" "LMillTalk$CapSearch;" ∈ wsX7_had := mb_X7_had_wsX7_had_r1 (List.mem_of_getElem? (i := 4) rfl)
theorem mx_X7_had_6 : Cond.fieldLink RX7 228 "MillTalk$CapSearch" "bestWorth" "I" ∈ wsX7_had := mb_X7_had_wsX7_had_r1 (List.mem_of_getElem? (i := 5) rfl)
theorem mx_X7_had_8 : Cond.fieldLink RX7 231 "MillTalk$CapSearch" "bestTurns" "I" ∈ wsX7_had := mb_X7_had_wsX7_had_r1 (List.mem_of_getElem? (i := 7) rfl)
theorem mx_X7_had_7 : Cond.constant RX7 220 (-1000000) ∈ wsX7_had := mb_X7_had_wsX7_had_r1 (List.mem_of_getElem? (i := 6) rfl)
theorem mx_X7_byTurns_1 : Cond.fieldLink RX7 26 "MillTalk" "now" "LMillTalk$Level;" ∈ wsX7_byTurns := mb_X7_byTurns_wsX7_byTurns_r1 (List.mem_of_getElem? (i := 0) rfl)
theorem mx_X7_byTurns_2 : Cond.constant RX7 141 (-1000002) ∈ wsX7_byTurns := mb_X7_byTurns_wsX7_byTurns_r1 (List.mem_of_getElem? (i := 1) rfl)
theorem mx_X7_byTurns_3 : Cond.constant RX7 72 (-1000001) ∈ wsX7_byTurns := mb_X7_byTurns_wsX7_byTurns_r1 (List.mem_of_getElem? (i := 2) rfl)
theorem mx_X7_byTurns_4 : Cond.fieldLink RX7 47 "MillTalk" "play" "LMillTalk$Play;" ∈ wsX7_byTurns := mb_X7_byTurns_wsX7_byTurns_r1 (List.mem_of_getElem? (i := 3) rfl)
