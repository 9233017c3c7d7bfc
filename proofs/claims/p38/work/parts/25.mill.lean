theorem lf_X7_found_1 {n : Int32} {v_1 : Int32} (e_1 : v_1 = ((-1000010) - n)) : (n : Int32) = n := by
  first | assumption | rfl
theorem lf_X7_found_2 {n : Int32} {v_1 : Int32} (e_1 : v_1 = ((-1000010) - n)) : v_1 = (-1000010 - n) := by
  first | assumption | rfl
set_option maxHeartbeats 4000000 in
set_option maxRecDepth 100000 in
theorem r_X7_found (l : Launch) (dC : Nat → ClassId) (dI : Nat → Nat → Nat) (cI cZ cL cJ : ClassId) (sz : Nat) (x : Nat) (ro : Nat) (ta : Nat) (no : Nat) (ac : Nat) (im : Nat) (tr : Nat) (pl : Nat) (cs : Nat) (ak : Nat) (xf : Int32) (xg : Int32) (n : Int32)  : Met l yX7_found wsX7_found ({ frames := 0, cells := 0, slots := 0, locals := 0 }) (va_Pc [.ref x, .int n] (fun U => U.heap.size = sz ∧ va_P (dC, dI) vwCl [(xo_7_rrrrrrrrrii x ro ta no ac im tr pl cs ak xf xg)] U.heap ∧ va_K (dC, dI) vwCl [(cI, .int), (cZ, .boolean), (cL, .object RX3), (cJ, .array .int)] U ∧ va_D (fun _ => True) [(xo_7_rrrrrrrrrii x ro ta no ac im tr pl cs ak xf xg)])) (va_Qi (fun r (_ : Unit) => r = (-1000010 - n)) (fun (_ : Unit) t => ∃ (xgn : Int32), va_P (dC, dI) vwCl [(xo_7_rrrrrrrrrii x ro ta no ac im tr pl cs ak xf xgn)] t.heap ∧ va_D (va_A [(xo_7_rrrrrrrrrii x ro ta no ac im tr pl cs ak xf xg)] sz) [(xo_7_rrrrrrrrrii x ro ta no ac im tr pl cs ak xf xgn)] ∧ (xgn : Int32) = n) (va_A [(xo_7_rrrrrrrrrii x ro ta no ac im tr pl cs ak xf xg)] sz)) 0 0 (va_A [(xo_7_rrrrrrrrrii x ro ta no ac im tr pl cs ak xf xg)] sz) := by
  refine Met.ofW (cc := cX7_found) (maxL := 2) (ret := (some .int)) (by decide) rfl ?_
  intro p e s m args below meth c s₁ B hml hv
  obtain ⟨rfl, hsz, hP, hK, hD0⟩ := hv
  have hx := B.exec
  have hb := B.bytes
  have hr := B.returns
  have hts := atoms_spec (ws := wsX7_found) B.pre
  have hown : s.vm.findClass RX7 = some m.cls := findClass_of_methodNamed B.named
  have hlocks := B.notSynchronized
  subst hsz
  have hD := hD0.self (sz := s.heap.size)
  generalize hAe : va_A [(xo_7_rrrrrrrrrii x ro ta no ac im tr pl cs ak xf xg)] s.heap.size = A at hD ⊢
  have hA : ∀ q : Nat, s.heap.size ≤ q → A q := fun q h => by rw [← hAe]; exact Or.inr h
  have hS : va_S A s.heap s.heap [] := va_S.rf
  have hP : va_P (dC, dI) vwCl [(xo_7_rrrrrrrrrii x ro ta no ac im tr pl cs ak xf xg)] s.heap := hP
  have hl := lv_entry ([.ref x, .int n]) (n := 2) (Nat.le_of_ble_eq_true rfl)
  rw [lg_entry_eq]
  generalize (lg_sl ([.ref x, .int n]) ++ List.replicate (2 - (lg_sl ([.ref x, .int n])).length) Slot.unset).toArray = ls at hl ⊢
  have hl : lv_has ls 2 [(0, .ref x), (1, .int n)] := hl
  refine lv_aload_n hx hb dX7_found_0 rfl (lv_at hl 0 rfl) ?_
  refine lv_iload_n hx hb dX7_found_1 rfl (lv_at hl 1 rfl) ?_
  refine va_put (D := (dC, dI)) (ci := 7) (v := .int n) (ty := .int) (C := RX7) (T := TX7) (N := 11) hx hb hts i_X7_found_X7 tyX7 tyX7_ok nmX7 hown hK hP hD hS 0 rfl rfl 10 (by decide) (hts _ mx_X7_found_1) (fun _ h9 => h9) rfl (by decide +kernel) rfl rfl (Nat.le_of_ble_eq_true rfl) dX7_found_2 (fun H locs hP hD hS => ?_)
  have hP : va_P (dC, dI) vwCl [(xo_7_rrrrrrrrrii x ro ta no ac im tr pl cs ak xf n)] H := hP
  have hD := dto hP hD
  refine lv_ldcw (own := RX7) (v := (-1000010)) hx hb hown (hts _ mx_X7_found_2) dX7_found_5 ?_
  refine lv_iload_n hx hb dX7_found_8 rfl (lv_at hl 1 rfl) ?_
  refine lv_isub hx hb dX7_found_9 ?_
  refine lv_topi (fun v_1 e_1 => ?_)
  have hX9 := cut2 (wc := [(xo_7_rrrrrrrrrii x ro ta no ac im tr pl cs ak xf n)]) hP hD [0] (by decide +kernel) rfl
  exact W.iret (v := v_1) hx hb hr (fun t ht hW => ⟨⟨v_1, (), rfl, (lf_X7_found_2 e_1), ⟨n, va_Ht ht hX9.1, hX9.2, (lf_X7_found_1 e_1)⟩⟩, hS.F ht⟩) hS.2.2 dX7_found_10
theorem lf_X7_foundNothing_1   : (0 : Int32) = 0 := by
  first | assumption | rfl
set_option maxHeartbeats 4000000 in
set_option maxRecDepth 100000 in
theorem r_X7_foundNothing (l : Launch) (dC : Nat → ClassId) (dI : Nat → Nat → Nat) (cI cZ cL cJ : ClassId) (sz : Nat) (x : Nat) (ro : Nat) (ta : Nat) (no : Nat) (ac : Nat) (im : Nat) (tr : Nat) (pl : Nat) (cs : Nat) (ak : Nat) (xf : Int32) (xg : Int32) (n : Int32)  : Met l yX7_foundNothing wsX7_foundNothing ({ frames := 0, cells := 0, slots := 0, locals := 0 }) (va_Pc [.ref x, .int n] (fun U => U.heap.size = sz ∧ va_P (dC, dI) vwCl [(xo_7_rrrrrrrrrii x ro ta no ac im tr pl cs ak xf xg)] U.heap ∧ va_K (dC, dI) vwCl [(cI, .int), (cZ, .boolean), (cL, .object RX3), (cJ, .array .int)] U ∧ va_D (fun _ => True) [(xo_7_rrrrrrrrrii x ro ta no ac im tr pl cs ak xf xg)])) (va_Qi (fun r (_ : Unit) => r = n) (fun (_ : Unit) t => ∃ (xgn : Int32), va_P (dC, dI) vwCl [(xo_7_rrrrrrrrrii x ro ta no ac im tr pl cs ak xf xgn)] t.heap ∧ va_D (va_A [(xo_7_rrrrrrrrrii x ro ta no ac im tr pl cs ak xf xg)] sz) [(xo_7_rrrrrrrrrii x ro ta no ac im tr pl cs ak xf xgn)] ∧ (xgn : Int32) = 0) (va_A [(xo_7_rrrrrrrrrii x ro ta no ac im tr pl cs ak xf xg)] sz)) 0 0 (va_A [(xo_7_rrrrrrrrrii x ro ta no ac im tr pl cs ak xf xg)] sz) := by
  refine Met.ofW (cc := cX7_foundNothing) (maxL := 2) (ret := (some .int)) (by decide) rfl ?_
  intro p e s m args below meth c s₁ B hml hv
  obtain ⟨rfl, hsz, hP, hK, hD0⟩ := hv
  have hx := B.exec
  have hb := B.bytes
  have hr := B.returns
  have hts := atoms_spec (ws := wsX7_foundNothing) B.pre
  have hown : s.vm.findClass RX7 = some m.cls := findClass_of_methodNamed B.named
  have hlocks := B.notSynchronized
  subst hsz
  have hD := hD0.self (sz := s.heap.size)
  generalize hAe : va_A [(xo_7_rrrrrrrrrii x ro ta no ac im tr pl cs ak xf xg)] s.heap.size = A at hD ⊢
  have hA : ∀ q : Nat, s.heap.size ≤ q → A q := fun q h => by rw [← hAe]; exact Or.inr h
  have hS : va_S A s.heap s.heap [] := va_S.rf
  have hP : va_P (dC, dI) vwCl [(xo_7_rrrrrrrrrii x ro ta no ac im tr pl cs ak xf xg)] s.heap := hP
  have hl := lv_entry ([.ref x, .int n]) (n := 2) (Nat.le_of_ble_eq_true rfl)
  rw [lg_entry_eq]
  generalize (lg_sl ([.ref x, .int n]) ++ List.replicate (2 - (lg_sl ([.ref x, .int n])).length) Slot.unset).toArray = ls at hl ⊢
  have hl : lv_has ls 2 [(0, .ref x), (1, .int n)] := hl
  refine lv_aload_n hx hb dX7_foundNothing_0 rfl (lv_at hl 0 rfl) ?_
  refine lv_iconst (v := 0) hx hb dX7_foundNothing_1 (by decide) ?_
  refine va_put (D := (dC, dI)) (ci := 7) (v := .int 0) (ty := .int) (C := RX7) (T := TX7) (N := 11) hx hb hts i_X7_foundNothing_X7 tyX7 tyX7_ok nmX7 hown hK hP hD hS 0 rfl rfl 10 (by decide) (hts _ mx_X7_foundNothing_1) (fun _ h9 => h9) rfl (by decide +kernel) rfl rfl (Nat.le_of_ble_eq_true rfl) dX7_foundNothing_2 (fun H locs hP hD hS => ?_)
  have hP : va_P (dC, dI) vwCl [(xo_7_rrrrrrrrrii x ro ta no ac im tr pl cs ak xf 0)] H := hP
  have hD := dto hP hD
  refine lv_iload_n hx hb dX7_foundNothing_5 rfl (lv_at hl 1 rfl) ?_
  have hX9 := cut2 (wc := [(xo_7_rrrrrrrrrii x ro ta no ac im tr pl cs ak xf 0)]) hP hD [0] (by decide +kernel) rfl
  exact W.iret (v := n) hx hb hr (fun t ht hW => ⟨⟨n, (), rfl, rfl, ⟨0, va_Ht ht hX9.1, hX9.2, lf_X7_foundNothing_1⟩⟩, hS.F ht⟩) hS.2.2 dX7_foundNothing_6
theorem lf_X7_isForetold_1 {n : Int32} (c_1 : n < 0) : (n < 0 ∨ 60 < n) := by
  grind
theorem lf_X7_isForetold_2 {n : Int32} (c_1 : ¬ (n < 0)) (c_2 : 60 < n) : (n < 0 ∨ 60 < n) := by
  grind
set_option maxHeartbeats 4000000 in
set_option maxRecDepth 100000 in
theorem r_X7_isForetold (l : Launch) (dC : Nat → ClassId) (dI : Nat → Nat → Nat) (cI cZ cL cJ : ClassId) (n : Int32)  : Met l yX7_isForetold wsX7_isForetold ({ frames := 0, cells := 0, slots := 0, locals := 0 }) (va_Pc [.int n] (fun U => va_P (dC, dI) vwCl [] U.heap ∧ va_K (dC, dI) vwCl [(cI, .int), (cZ, .boolean), (cL, .object RX3), (cJ, .array .int)] U)) (vp_Si (fun r => (r = 0 ∧ (n < 0 ∨ 60 < n)) ∨ (r = 1 ∧ vp_in n 61))) 0 0 (fun _ => False) := by
  refine Met.ofW (cc := cX7_isForetold) (maxL := 1) (ret := (some .boolean)) (by decide) rfl ?_
  intro p e s m args below meth c s₁ B hml hv
  obtain ⟨rfl, hP, hK⟩ := hv
  have hx := B.exec
  have hb := B.bytes
  have hr := B.returns
  have hts := atoms_spec (ws := wsX7_isForetold) B.pre
  have hown : s.vm.findClass RX7 = some m.cls := findClass_of_methodNamed B.named
  have hlocks := B.notSynchronized
  have hP : va_P (dC, dI) vwCl [] s.heap := hP
  have hl := lv_entry ([.int n]) (n := 1) (Nat.le_of_ble_eq_true rfl)
  rw [lg_entry_eq]
  generalize (lg_sl ([.int n]) ++ List.replicate (1 - (lg_sl ([.int n])).length) Slot.unset).toArray = ls at hl ⊢
  have hl : lv_has ls 1 [(0, .int n)] := hl
  refine lv_iload_n hx hb dX7_isForetold_0 rfl (lv_at hl 0 rfl) ?_
  refine lv_if_lt (tgt := 14) hx hb dX7_isForetold_1 (by decide) (fun c_1 => ?_) (fun c_1 => ?_)
  · skip
    refine lv_iconst (v := 0) hx hb dX7_isForetold_14 (by decide) ?_
    exact W.zret (v := 0) hx hb hr (by decide) (fun t ht hW => ⟨0, rfl, Or.inl ⟨rfl, (lf_X7_isForetold_1 c_1)⟩, ht⟩) (fun _ h => by cases h) dX7_isForetold_15
  · skip
    refine lv_iload_n hx hb dX7_isForetold_4 rfl (lv_at hl 0 rfl) ?_
    refine lv_bipush (v := 60) hx hb dX7_isForetold_5 (by decide) ?_
    refine lv_icmp_gt (tgt := 14) hx hb dX7_isForetold_7 (by decide) (fun c_2 => ?_) (fun c_2 => ?_)
    · skip
      refine lv_iconst (v := 0) hx hb dX7_isForetold_14 (by decide) ?_
      exact W.zret (v := 0) hx hb hr (by decide) (fun t ht hW => ⟨0, rfl, Or.inl ⟨rfl, (lf_X7_isForetold_2 c_1 c_2)⟩, ht⟩) (fun _ h => by cases h) dX7_isForetold_15
    · skip
      refine lv_iconst (v := 1) hx hb dX7_isForetold_10 (by decide) ?_
      refine lv_goto (tgt := 15) hx hb dX7_isForetold_11 (by decide) ?_
      exact W.zret (v := 1) hx hb hr (by decide) (fun t ht hW => ⟨1, rfl, Or.inr ⟨rfl, in_61 c_1 c_2⟩, ht⟩) (fun _ h => by cases h) dX7_isForetold_15
theorem lf_X7_isHeard_1 {a : Int32} {n : Int32} (f_1_0_0 : (a < 0 ∨ 8 ≤ a)) : hrB a n := by
  first
  | exact Or.inl (by assumption)
  | exact Or.inr (by grind)
  | grind
theorem lf_X7_isHeard_2 {n : Int32} {j_1 : Nat} (hj_1 : j_1 < 8) (c_5 : n < 1) : hrB (nI j_1) n := by
  first
  | exact Or.inl (by assumption)
  | exact Or.inr (by grind)
  | grind
theorem lf_X7_isHeard_3 {n : Int32} {j_1 : Nat} (hj_1 : j_1 < 8) (c_5 : ¬ (n < 1)) (c_6 : 12 < n) : hrB (nI j_1) n := by
  first
  | exact Or.inl (by assumption)
  | exact Or.inr (by grind)
  | grind
theorem lf_X7_isHeard_4 {n : Int32} {j_1 : Nat} (hj_1 : j_1 < 8) (c_5 : ¬ (n < 1)) (c_6 : ¬ (12 < n)) : ¬ (n < 1 ∨ 12 < n) := by
  first
  | exact Or.inl (by assumption)
  | exact Or.inr (by grind)
  | grind
set_option maxHeartbeats 4000000 in
set_option maxRecDepth 100000 in
theorem r_X7_isHeard (l : Launch) (dC : Nat → ClassId) (dI : Nat → Nat → Nat) (cI cZ cL cJ : ClassId) (a : Int32) (n : Int32)  : Met l yX7_isHeard wsX7_isHeard ({ frames := 1, cells := 0, slots := 0, locals := 20 }) (va_Pc [.int a, .int n] (fun U => va_P (dC, dI) vwCl [] U.heap ∧ va_K (dC, dI) vwCl [(cI, .int), (cZ, .boolean), (cL, .object RX3), (cJ, .array .int)] U)) (vp_Si (fun r => (r = 0 ∧ hrB a n) ∨ (r = 1 ∧ vp_in a 8 ∧ vp_in n 13 ∧ ¬ (n < 1 ∨ 12 < n)))) 0 0 (fun _ => False) := by
  refine Met.ofW (cc := cX7_isHeard) (maxL := 2) (ret := (some .boolean)) (by decide) rfl ?_
  intro p e s m args below meth c s₁ B hml hv
  obtain ⟨rfl, hP, hK⟩ := hv
  have hx := B.exec
  have hb := B.bytes
  have hr := B.returns
  have hts := atoms_spec (ws := wsX7_isHeard) B.pre
  have hown : s.vm.findClass RX7 = some m.cls := findClass_of_methodNamed B.named
  have hlocks := B.notSynchronized
  have hP : va_P (dC, dI) vwCl [] s.heap := hP
  have hl := lv_entry ([.int a, .int n]) (n := 2) (Nat.le_of_ble_eq_true rfl)
  rw [lg_entry_eq]
  generalize (lg_sl ([.int a, .int n]) ++ List.replicate (2 - (lg_sl ([.int a, .int n])).length) Slot.unset).toArray = ls at hl ⊢
  have hl : lv_has ls 2 [(0, .int a), (1, .int n)] := hl
  refine lv_iload_n hx hb dX7_isHeard_0 rfl (lv_at hl 0 rfl) ?_
  have hPc_1 := hP
  refine vp_callSi (W.runS (As := [.int a]) (rest := []) ⟨hx, hb, hml, hown, hts⟩ (r_X5_isRow l dC dI cI cZ cL cJ a ) (va_cwS 1 hts gX7_isHeard_X5_isRow rfl rfl rfl (by decide +kernel) ⟨Nat.le_of_ble_eq_true rfl, Nat.le_of_ble_eq_true rfl⟩) (psP hK hPc_1) rfl rfl hl.1 rfl (lv_room (Nat.le_of_ble_eq_true rfl)) dX7_isHeard_1 ⟨Nat.le_of_ble_eq_true rfl, Nat.le_of_ble_eq_true rfl⟩) (fun r_1 h_1 => ?_)
  rcases h_1 with ⟨h_1, f_1_0_0⟩ | ⟨h_1, f_1_1_0⟩
  · subst h_1
    refine lv_if_eq (tgt := 22) hx hb dX7_isHeard_4 (by decide) (fun _ => ?_) (fun c_ => absurd (by decide) c_)
    refine lv_iconst (v := 0) hx hb dX7_isHeard_22 (by decide) ?_
    exact W.zret (v := 0) hx hb hr (by decide) (fun t ht hW => ⟨0, rfl, Or.inl ⟨rfl, (lf_X7_isHeard_1 f_1_0_0)⟩, ht⟩) (fun _ h => by cases h) dX7_isHeard_23
  · subst h_1
    obtain ⟨j_1, hj_1, rfl⟩ := vp_in_of f_1_1_0 (by omega)
    refine lv_if_eq (tgt := 22) hx hb dX7_isHeard_4 (by decide) (fun c_ => absurd c_ (by decide)) (fun _ => ?_)
    refine lv_iload_n hx hb dX7_isHeard_7 rfl (lv_at hl 1 rfl) ?_
    refine lv_iconst (v := 1) hx hb dX7_isHeard_8 (by decide) ?_
    refine lv_icmp_lt (tgt := 22) hx hb dX7_isHeard_9 (by decide) (fun c_5 => ?_) (fun c_5 => ?_)
    · skip
      refine lv_iconst (v := 0) hx hb dX7_isHeard_22 (by decide) ?_
      exact W.zret (v := 0) hx hb hr (by decide) (fun t ht hW => ⟨0, rfl, Or.inl ⟨rfl, (lf_X7_isHeard_2 hj_1 c_5)⟩, ht⟩) (fun _ h => by cases h) dX7_isHeard_23
    · skip
      refine lv_iload_n hx hb dX7_isHeard_12 rfl (lv_at hl 1 rfl) ?_
      refine lv_bipush (v := 12) hx hb dX7_isHeard_13 (by decide) ?_
      refine lv_icmp_gt (tgt := 22) hx hb dX7_isHeard_15 (by decide) (fun c_6 => ?_) (fun c_6 => ?_)
      · skip
        refine lv_iconst (v := 0) hx hb dX7_isHeard_22 (by decide) ?_
        exact W.zret (v := 0) hx hb hr (by decide) (fun t ht hW => ⟨0, rfl, Or.inl ⟨rfl, (lf_X7_isHeard_3 hj_1 c_5 c_6)⟩, ht⟩) (fun _ h => by cases h) dX7_isHeard_23
      · skip
        refine lv_iconst (v := 1) hx hb dX7_isHeard_18 (by decide) ?_
        refine lv_goto (tgt := 23) hx hb dX7_isHeard_19 (by decide) ?_
        exact W.zret (v := 1) hx hb hr (by decide) (fun t ht hW => ⟨1, rfl, Or.inr ⟨rfl, vp_in_nI (by omega) (by decide), in_13 c_5 c_6, (lf_X7_isHeard_4 hj_1 c_5 c_6)⟩, ht⟩) (fun _ h => by cases h) dX7_isHeard_23
theorem lf_X7_isOfKind_1 {y : Int32} (ha1 : 1 ≤ 1) (ha5 : 1 ≤ 5) (c_4 : ¬ (1 = y)) (c_9 : ¬ (0 = y)) : ¬ isK (nI 1) y := by
  have n1 : nI 1 = 1 := rfl
  have n2 : nI 2 = 2 := rfl
  have n3 : nI 3 = 3 := rfl
  have n4 : nI 4 = 4 := rfl
  have n5 : nI 5 = 5 := rfl
  simp only [isK, n1, n2, n3, n4, n5]
  first | decide | grind
theorem lf_X7_isOfKind_2 {y : Int32} (ha1 : 1 ≤ 1) (ha5 : 1 ≤ 5) (c_4 : ¬ (1 = y)) (c_9 : 0 = y) : isK (nI 1) y := by
  have n1 : nI 1 = 1 := rfl
  have n2 : nI 2 = 2 := rfl
  have n3 : nI 3 = 3 := rfl
  have n4 : nI 4 = 4 := rfl
  have n5 : nI 5 = 5 := rfl
  simp only [isK, n1, n2, n3, n4, n5]
  first | decide | grind
theorem lf_X7_isOfKind_3 {y : Int32} (ha1 : 1 ≤ 1) (ha5 : 1 ≤ 5) (c_4 : 1 = y) : isK (nI 1) y := by
  have n1 : nI 1 = 1 := rfl
  have n2 : nI 2 = 2 := rfl
  have n3 : nI 3 = 3 := rfl
  have n4 : nI 4 = 4 := rfl
  have n5 : nI 5 = 5 := rfl
  simp only [isK, n1, n2, n3, n4, n5]
  first | decide | grind
theorem lf_X7_isOfKind_4 {y : Int32} (ha1 : 1 ≤ 2) (ha5 : 2 ≤ 5) (c_16 : ¬ (2 = y)) (c_21 : ¬ (1 = y)) (c_26 : ¬ (0 = y)) : ¬ isK (nI 2) y := by
  have n1 : nI 1 = 1 := rfl
  have n2 : nI 2 = 2 := rfl
  have n3 : nI 3 = 3 := rfl
  have n4 : nI 4 = 4 := rfl
  have n5 : nI 5 = 5 := rfl
  simp only [isK, n1, n2, n3, n4, n5]
  first | decide | grind
theorem lf_X7_isOfKind_5 {y : Int32} (ha1 : 1 ≤ 2) (ha5 : 2 ≤ 5) (c_16 : ¬ (2 = y)) (c_21 : ¬ (1 = y)) (c_26 : 0 = y) : isK (nI 2) y := by
  have n1 : nI 1 = 1 := rfl
  have n2 : nI 2 = 2 := rfl
  have n3 : nI 3 = 3 := rfl
  have n4 : nI 4 = 4 := rfl
  have n5 : nI 5 = 5 := rfl
  simp only [isK, n1, n2, n3, n4, n5]
  first | decide | grind
theorem lf_X7_isOfKind_6 {y : Int32} (ha1 : 1 ≤ 2) (ha5 : 2 ≤ 5) (c_16 : ¬ (2 = y)) (c_21 : 1 = y) : isK (nI 2) y := by
  have n1 : nI 1 = 1 := rfl
  have n2 : nI 2 = 2 := rfl
  have n3 : nI 3 = 3 := rfl
  have n4 : nI 4 = 4 := rfl
  have n5 : nI 5 = 5 := rfl
  simp only [isK, n1, n2, n3, n4, n5]
  first | decide | grind
theorem lf_X7_isOfKind_7 {y : Int32} (ha1 : 1 ≤ 2) (ha5 : 2 ≤ 5) (c_16 : 2 = y) : isK (nI 2) y := by
  have n1 : nI 1 = 1 := rfl
  have n2 : nI 2 = 2 := rfl
  have n3 : nI 3 = 3 := rfl
  have n4 : nI 4 = 4 := rfl
  have n5 : nI 5 = 5 := rfl
  simp only [isK, n1, n2, n3, n4, n5]
  first | decide | grind
theorem lf_X7_isOfKind_8 {y : Int32} (ha1 : 1 ≤ 3) (ha5 : 3 ≤ 5) (c_33 : ¬ (3 = y)) (c_38 : ¬ (1 = y)) (c_43 : ¬ (0 = y)) : ¬ isK (nI 3) y := by
  have n1 : nI 1 = 1 := rfl
  have n2 : nI 2 = 2 := rfl
  have n3 : nI 3 = 3 := rfl
  have n4 : nI 4 = 4 := rfl
  have n5 : nI 5 = 5 := rfl
  simp only [isK, n1, n2, n3, n4, n5]
  first | decide | grind
theorem lf_X7_isOfKind_9 {y : Int32} (ha1 : 1 ≤ 3) (ha5 : 3 ≤ 5) (c_33 : ¬ (3 = y)) (c_38 : ¬ (1 = y)) (c_43 : 0 = y) : isK (nI 3) y := by
  have n1 : nI 1 = 1 := rfl
  have n2 : nI 2 = 2 := rfl
  have n3 : nI 3 = 3 := rfl
  have n4 : nI 4 = 4 := rfl
  have n5 : nI 5 = 5 := rfl
  simp only [isK, n1, n2, n3, n4, n5]
  first | decide | grind
theorem lf_X7_isOfKind_10 {y : Int32} (ha1 : 1 ≤ 3) (ha5 : 3 ≤ 5) (c_33 : ¬ (3 = y)) (c_38 : 1 = y) : isK (nI 3) y := by
  have n1 : nI 1 = 1 := rfl
  have n2 : nI 2 = 2 := rfl
  have n3 : nI 3 = 3 := rfl
  have n4 : nI 4 = 4 := rfl
  have n5 : nI 5 = 5 := rfl
  simp only [isK, n1, n2, n3, n4, n5]
  first | decide | grind
theorem lf_X7_isOfKind_11 {y : Int32} (ha1 : 1 ≤ 3) (ha5 : 3 ≤ 5) (c_33 : 3 = y) : isK (nI 3) y := by
  have n1 : nI 1 = 1 := rfl
  have n2 : nI 2 = 2 := rfl
  have n3 : nI 3 = 3 := rfl
  have n4 : nI 4 = 4 := rfl
  have n5 : nI 5 = 5 := rfl
  simp only [isK, n1, n2, n3, n4, n5]
  first | decide | grind
theorem lf_X7_isOfKind_12 {y : Int32} (ha1 : 1 ≤ 4) (ha5 : 4 ≤ 5) (c_50 : ¬ (4 = y)) (c_55 : ¬ (0 = y)) : ¬ isK (nI 4) y := by
  have n1 : nI 1 = 1 := rfl
  have n2 : nI 2 = 2 := rfl
  have n3 : nI 3 = 3 := rfl
  have n4 : nI 4 = 4 := rfl
  have n5 : nI 5 = 5 := rfl
  simp only [isK, n1, n2, n3, n4, n5]
  first | decide | grind
theorem lf_X7_isOfKind_13 {y : Int32} (ha1 : 1 ≤ 4) (ha5 : 4 ≤ 5) (c_50 : ¬ (4 = y)) (c_55 : 0 = y) : isK (nI 4) y := by
  have n1 : nI 1 = 1 := rfl
  have n2 : nI 2 = 2 := rfl
  have n3 : nI 3 = 3 := rfl
  have n4 : nI 4 = 4 := rfl
  have n5 : nI 5 = 5 := rfl
  simp only [isK, n1, n2, n3, n4, n5]
  first | decide | grind
theorem lf_X7_isOfKind_14 {y : Int32} (ha1 : 1 ≤ 4) (ha5 : 4 ≤ 5) (c_50 : 4 = y) : isK (nI 4) y := by
  have n1 : nI 1 = 1 := rfl
  have n2 : nI 2 = 2 := rfl
  have n3 : nI 3 = 3 := rfl
  have n4 : nI 4 = 4 := rfl
  have n5 : nI 5 = 5 := rfl
  simp only [isK, n1, n2, n3, n4, n5]
  first | decide | grind
theorem lf_X7_isOfKind_15 {y : Int32} (ha1 : 1 ≤ 5) (ha5 : 5 ≤ 5) (c_62 : ¬ (5 = y)) (c_67 : ¬ (4 = y)) (c_72 : ¬ (0 = y)) : ¬ isK (nI 5) y := by
  have n1 : nI 1 = 1 := rfl
  have n2 : nI 2 = 2 := rfl
  have n3 : nI 3 = 3 := rfl
  have n4 : nI 4 = 4 := rfl
  have n5 : nI 5 = 5 := rfl
  simp only [isK, n1, n2, n3, n4, n5]
  first | decide | grind
theorem lf_X7_isOfKind_16 {y : Int32} (ha1 : 1 ≤ 5) (ha5 : 5 ≤ 5) (c_62 : ¬ (5 = y)) (c_67 : ¬ (4 = y)) (c_72 : 0 = y) : isK (nI 5) y := by
  have n1 : nI 1 = 1 := rfl
  have n2 : nI 2 = 2 := rfl
  have n3 : nI 3 = 3 := rfl
  have n4 : nI 4 = 4 := rfl
  have n5 : nI 5 = 5 := rfl
  simp only [isK, n1, n2, n3, n4, n5]
  first | decide | grind
theorem lf_X7_isOfKind_17 {y : Int32} (ha1 : 1 ≤ 5) (ha5 : 5 ≤ 5) (c_62 : ¬ (5 = y)) (c_67 : 4 = y) : isK (nI 5) y := by
  have n1 : nI 1 = 1 := rfl
  have n2 : nI 2 = 2 := rfl
  have n3 : nI 3 = 3 := rfl
  have n4 : nI 4 = 4 := rfl
  have n5 : nI 5 = 5 := rfl
  simp only [isK, n1, n2, n3, n4, n5]
  first | decide | grind
theorem lf_X7_isOfKind_18 {y : Int32} (ha1 : 1 ≤ 5) (ha5 : 5 ≤ 5) (c_62 : 5 = y) : isK (nI 5) y := by
  have n1 : nI 1 = 1 := rfl
  have n2 : nI 2 = 2 := rfl
  have n3 : nI 3 = 3 := rfl
  have n4 : nI 4 = 4 := rfl
  have n5 : nI 5 = 5 := rfl
  simp only [isK, n1, n2, n3, n4, n5]
  first | decide | grind
set_option maxHeartbeats 4000000 in
set_option maxRecDepth 100000 in
theorem r_X7_isOfKind (l : Launch) (dC : Nat → ClassId) (dI : Nat → Nat → Nat) (cI cZ cL cJ : ClassId) (a : Nat) (y : Int32) (ha1 : 1 ≤ a) (ha5 : a ≤ 5) : Met l yX7_isOfKind wsX7_isOfKind ({ frames := 0, cells := 0, slots := 0, locals := 0 }) (va_Pc [.int (nI a), .int y] (fun U => va_P (dC, dI) vwCl [] U.heap ∧ va_K (dC, dI) vwCl [(cI, .int), (cZ, .boolean), (cL, .object RX3), (cJ, .array .int)] U ∧ stt (fun _ => False) U U.heap)) (vp_Si (fun r => (r = 0 ∧ ¬ isK (nI a) y) ∨ (r = 1 ∧ isK (nI a) y))) 0 0 (fun _ => False) := by
  refine Met.ofW (cc := cX7_isOfKind) (maxL := 4) (ret := (some .boolean)) (by decide) rfl ?_
  intro p e s m args below meth c s₁ B hml hv
  obtain ⟨rfl, hP, hK, hst⟩ := hv
  have hx := B.exec
  have hb := B.bytes
  have hr := B.returns
  have hts := atoms_spec (ws := wsX7_isOfKind) B.pre
  have hown : s.vm.findClass RX7 = some m.cls := findClass_of_methodNamed B.named
  have hlocks := B.notSynchronized
  have hP : va_P (dC, dI) vwCl [] s.heap := hP
  obtain ⟨⟨tb1, hZ1, hT1⟩, ⟨tb2, hZ2, hT2⟩, ⟨tb3, hZ3, hT3⟩, hNk⟩ := id hst
  have hl := lv_entry ([.int (nI a), .int y]) (n := 4) (Nat.le_of_ble_eq_true rfl)
  rw [lg_entry_eq]
  generalize (lg_sl ([.int (nI a), .int y]) ++ List.replicate (4 - (lg_sl ([.int (nI a), .int y])).length) Slot.unset).toArray = ls at hl ⊢
  have hl : lv_has ls 4 [(0, .int (nI a)), (1, .int y)] := hl
  rcases (show a = 1 ∨ a = 2 ∨ a = 3 ∨ a = 4 ∨ a = 5 by omega) with rfl | rfl | rfl | rfl | rfl
  · skip
    have hl : lv_has ls 4 [(0, .int 1), (1, .int y)] := hl
    refine lv_iload_n hx hb dX7_isOfKind_0 rfl (lv_at hl 0 rfl) ?_
    refine lv_istore_n (lv' := [(2, .int 1), (0, .int 1), (1, .int y)]) hx hb dX7_isOfKind_1 rfl hl (by decide) rfl (fun ls hl => ?_)
    refine lv_iconst (v := 0) hx hb dX7_isOfKind_2 (by decide) ?_
    refine lv_istore_n (lv' := [(3, .int 0), (2, .int 1), (0, .int 1), (1, .int y)]) hx hb dX7_isOfKind_3 rfl hl (by decide) rfl (fun ls hl => ?_)
    refine lv_iload_n hx hb dX7_isOfKind_4 rfl (lv_at hl 0 rfl) ?_
    refine va_gets hx hb hZ1 va_S.rf hown (hts _ mx_X7_isOfKind_1) (fun _ h9 => h9) dX7_isOfKind_5 ?_
    refine va_tlen (v := 6) hx hb hT1 va_S.rf (by decide) dX7_isOfKind_8 ?_
    refine lv_icmp_ge (tgt := 43) hx hb dX7_isOfKind_9 (by decide) (fun c_ => absurd c_ (by decide)) (fun _ => ?_)
    refine lv_iload_n hx hb dX7_isOfKind_12 rfl (lv_at hl 1 rfl) ?_
    refine lv_if_lt (tgt := 43) hx hb dX7_isOfKind_13 (by decide) (fun c_ => absurd c_ (by decide)) (fun _ => ?_)
    refine lv_iload_n hx hb dX7_isOfKind_16 rfl (lv_at hl 1 rfl) ?_
    refine va_gets hx hb hZ1 va_S.rf hown (hts _ mx_X7_isOfKind_1) (fun _ h9 => h9) dX7_isOfKind_17 ?_
    refine va_tlen (v := 6) hx hb hT1 va_S.rf (by decide) dX7_isOfKind_20 ?_
    refine lv_icmp_ge (tgt := 43) hx hb dX7_isOfKind_21 (by decide) (fun c_ => absurd c_ (by decide)) (fun _ => ?_)
    refine lv_iload_n hx hb dX7_isOfKind_24 rfl (lv_at hl 1 rfl) ?_
    refine lv_iload_n hx hb dX7_isOfKind_25 rfl (lv_at hl 3 rfl) ?_
    refine lv_icmp_ne (tgt := 31) hx hb dX7_isOfKind_26 (by decide) (fun c_4 => ?_) (fun c_4 => ?_)
    · skip
      refine va_gets hx hb hZ1 va_S.rf hown (hts _ mx_X7_isOfKind_1) (fun _ h9 => h9) dX7_isOfKind_31 ?_
      refine lv_iload_n hx hb dX7_isOfKind_34 rfl (lv_at hl 1 rfl) ?_
      refine va_ti hx hb hT1 va_S.rf (by unfold vp_in; decide) rfl dX7_isOfKind_35 ?_
      refine lv_topi (fun v_5 e_5 => ?_)
      obtain rfl : v_5 = 0 := (e_5).trans (by decide)
      refine lv_istore_n (lv' := [(2, .int 0), (3, .int 0), (0, .int 1), (1, .int y)]) hx hb dX7_isOfKind_36 rfl hl (by decide) rfl (fun ls hl => ?_)
      refine lv_iinc (v := 1) (lv' := [(3, .int 1), (2, .int 0), (0, .int 1), (1, .int y)]) hx hb dX7_isOfKind_37 hl (k := 1) rfl (by decide) (by decide) rfl (fun ls hl => ?_)
      refine lv_goto (tgt := 4) hx hb dX7_isOfKind_40 (by decide) ?_
      refine lv_iload_n hx hb dX7_isOfKind_4 rfl (lv_at hl 0 rfl) ?_
      refine va_gets hx hb hZ1 va_S.rf hown (hts _ mx_X7_isOfKind_1) (fun _ h9 => h9) dX7_isOfKind_5 ?_
      refine va_tlen (v := 6) hx hb hT1 va_S.rf (by decide) dX7_isOfKind_8 ?_
      refine lv_icmp_ge (tgt := 43) hx hb dX7_isOfKind_9 (by decide) (fun c_ => absurd c_ (by decide)) (fun _ => ?_)
      refine lv_iload_n hx hb dX7_isOfKind_12 rfl (lv_at hl 1 rfl) ?_
      refine lv_if_lt (tgt := 43) hx hb dX7_isOfKind_13 (by decide) (fun c_ => absurd c_ (by decide)) (fun _ => ?_)
      refine lv_iload_n hx hb dX7_isOfKind_16 rfl (lv_at hl 1 rfl) ?_
      refine va_gets hx hb hZ1 va_S.rf hown (hts _ mx_X7_isOfKind_1) (fun _ h9 => h9) dX7_isOfKind_17 ?_
      refine va_tlen (v := 6) hx hb hT1 va_S.rf (by decide) dX7_isOfKind_20 ?_
      refine lv_icmp_ge (tgt := 43) hx hb dX7_isOfKind_21 (by decide) (fun c_ => absurd c_ (by decide)) (fun _ => ?_)
      refine lv_iload_n hx hb dX7_isOfKind_24 rfl (lv_at hl 1 rfl) ?_
      refine lv_iload_n hx hb dX7_isOfKind_25 rfl (lv_at hl 3 rfl) ?_
      refine lv_icmp_ne (tgt := 31) hx hb dX7_isOfKind_26 (by decide) (fun c_9 => ?_) (fun c_9 => ?_)
      · skip
        refine va_gets hx hb hZ1 va_S.rf hown (hts _ mx_X7_isOfKind_1) (fun _ h9 => h9) dX7_isOfKind_31 ?_
        refine lv_iload_n hx hb dX7_isOfKind_34 rfl (lv_at hl 1 rfl) ?_
        refine va_ti hx hb hT1 va_S.rf (by unfold vp_in; decide) rfl dX7_isOfKind_35 ?_
        refine lv_topi (fun v_10 e_10 => ?_)
        obtain rfl : v_10 = (-1) := (e_10).trans (by decide)
        refine lv_istore_n (lv' := [(2, .int (-1)), (3, .int 1), (0, .int 1), (1, .int y)]) hx hb dX7_isOfKind_36 rfl hl (by decide) rfl (fun ls hl => ?_)
        refine lv_iinc (v := 2) (lv' := [(3, .int 2), (2, .int (-1)), (0, .int 1), (1, .int y)]) hx hb dX7_isOfKind_37 hl (k := 1) rfl (by decide) (by decide) rfl (fun ls hl => ?_)
        refine lv_goto (tgt := 4) hx hb dX7_isOfKind_40 (by decide) ?_
        refine lv_iload_n hx hb dX7_isOfKind_4 rfl (lv_at hl 0 rfl) ?_
        refine va_gets hx hb hZ1 va_S.rf hown (hts _ mx_X7_isOfKind_1) (fun _ h9 => h9) dX7_isOfKind_5 ?_
        refine va_tlen (v := 6) hx hb hT1 va_S.rf (by decide) dX7_isOfKind_8 ?_
        refine lv_icmp_ge (tgt := 43) hx hb dX7_isOfKind_9 (by decide) (fun c_ => absurd c_ (by decide)) (fun _ => ?_)
        refine lv_iload_n hx hb dX7_isOfKind_12 rfl (lv_at hl 1 rfl) ?_
        refine lv_if_lt (tgt := 43) hx hb dX7_isOfKind_13 (by decide) (fun _ => ?_) (fun c_ => absurd (by decide) c_)
        refine lv_iconst (v := 0) hx hb dX7_isOfKind_43 (by decide) ?_
        exact W.zret (v := 0) hx hb hr (by decide) (fun t ht hW => ⟨0, rfl, Or.inl (⟨rfl, (lf_X7_isOfKind_1 ha1 ha5 c_4 c_9)⟩), ht⟩) (fun _ h => by cases h) dX7_isOfKind_44
      · skip
        refine lv_iconst (v := 1) hx hb dX7_isOfKind_29 (by decide) ?_
        exact W.zret (v := 1) hx hb hr (by decide) (fun t ht hW => ⟨1, rfl, Or.inr (⟨rfl, (lf_X7_isOfKind_2 ha1 ha5 c_4 c_9)⟩), ht⟩) (fun _ h => by cases h) dX7_isOfKind_30
    · skip
      refine lv_iconst (v := 1) hx hb dX7_isOfKind_29 (by decide) ?_
      exact W.zret (v := 1) hx hb hr (by decide) (fun t ht hW => ⟨1, rfl, Or.inr (⟨rfl, (lf_X7_isOfKind_3 ha1 ha5 c_4)⟩), ht⟩) (fun _ h => by cases h) dX7_isOfKind_30
  · skip
    have hl : lv_has ls 4 [(0, .int 2), (1, .int y)] := hl
    refine lv_iload_n hx hb dX7_isOfKind_0 rfl (lv_at hl 0 rfl) ?_
    refine lv_istore_n (lv' := [(2, .int 2), (0, .int 2), (1, .int y)]) hx hb dX7_isOfKind_1 rfl hl (by decide) rfl (fun ls hl => ?_)
    refine lv_iconst (v := 0) hx hb dX7_isOfKind_2 (by decide) ?_
    refine lv_istore_n (lv' := [(3, .int 0), (2, .int 2), (0, .int 2), (1, .int y)]) hx hb dX7_isOfKind_3 rfl hl (by decide) rfl (fun ls hl => ?_)
    refine lv_iload_n hx hb dX7_isOfKind_4 rfl (lv_at hl 0 rfl) ?_
    refine va_gets hx hb hZ1 va_S.rf hown (hts _ mx_X7_isOfKind_1) (fun _ h9 => h9) dX7_isOfKind_5 ?_
    refine va_tlen (v := 6) hx hb hT1 va_S.rf (by decide) dX7_isOfKind_8 ?_
    refine lv_icmp_ge (tgt := 43) hx hb dX7_isOfKind_9 (by decide) (fun c_ => absurd c_ (by decide)) (fun _ => ?_)
    refine lv_iload_n hx hb dX7_isOfKind_12 rfl (lv_at hl 1 rfl) ?_
    refine lv_if_lt (tgt := 43) hx hb dX7_isOfKind_13 (by decide) (fun c_ => absurd c_ (by decide)) (fun _ => ?_)
    refine lv_iload_n hx hb dX7_isOfKind_16 rfl (lv_at hl 1 rfl) ?_
    refine va_gets hx hb hZ1 va_S.rf hown (hts _ mx_X7_isOfKind_1) (fun _ h9 => h9) dX7_isOfKind_17 ?_
    refine va_tlen (v := 6) hx hb hT1 va_S.rf (by decide) dX7_isOfKind_20 ?_
    refine lv_icmp_ge (tgt := 43) hx hb dX7_isOfKind_21 (by decide) (fun c_ => absurd c_ (by decide)) (fun _ => ?_)
    refine lv_iload_n hx hb dX7_isOfKind_24 rfl (lv_at hl 1 rfl) ?_
    refine lv_iload_n hx hb dX7_isOfKind_25 rfl (lv_at hl 3 rfl) ?_
    refine lv_icmp_ne (tgt := 31) hx hb dX7_isOfKind_26 (by decide) (fun c_16 => ?_) (fun c_16 => ?_)
    · skip
      refine va_gets hx hb hZ1 va_S.rf hown (hts _ mx_X7_isOfKind_1) (fun _ h9 => h9) dX7_isOfKind_31 ?_
      refine lv_iload_n hx hb dX7_isOfKind_34 rfl (lv_at hl 1 rfl) ?_
      refine va_ti hx hb hT1 va_S.rf (by unfold vp_in; decide) rfl dX7_isOfKind_35 ?_
      refine lv_topi (fun v_17 e_17 => ?_)
      obtain rfl : v_17 = 1 := (e_17).trans (by decide)
      refine lv_istore_n (lv' := [(2, .int 1), (3, .int 0), (0, .int 2), (1, .int y)]) hx hb dX7_isOfKind_36 rfl hl (by decide) rfl (fun ls hl => ?_)
      refine lv_iinc (v := 1) (lv' := [(3, .int 1), (2, .int 1), (0, .int 2), (1, .int y)]) hx hb dX7_isOfKind_37 hl (k := 1) rfl (by decide) (by decide) rfl (fun ls hl => ?_)
      refine lv_goto (tgt := 4) hx hb dX7_isOfKind_40 (by decide) ?_
      refine lv_iload_n hx hb dX7_isOfKind_4 rfl (lv_at hl 0 rfl) ?_
      refine va_gets hx hb hZ1 va_S.rf hown (hts _ mx_X7_isOfKind_1) (fun _ h9 => h9) dX7_isOfKind_5 ?_
      refine va_tlen (v := 6) hx hb hT1 va_S.rf (by decide) dX7_isOfKind_8 ?_
      refine lv_icmp_ge (tgt := 43) hx hb dX7_isOfKind_9 (by decide) (fun c_ => absurd c_ (by decide)) (fun _ => ?_)
      refine lv_iload_n hx hb dX7_isOfKind_12 rfl (lv_at hl 1 rfl) ?_
      refine lv_if_lt (tgt := 43) hx hb dX7_isOfKind_13 (by decide) (fun c_ => absurd c_ (by decide)) (fun _ => ?_)
      refine lv_iload_n hx hb dX7_isOfKind_16 rfl (lv_at hl 1 rfl) ?_
      refine va_gets hx hb hZ1 va_S.rf hown (hts _ mx_X7_isOfKind_1) (fun _ h9 => h9) dX7_isOfKind_17 ?_
      refine va_tlen (v := 6) hx hb hT1 va_S.rf (by decide) dX7_isOfKind_20 ?_
      refine lv_icmp_ge (tgt := 43) hx hb dX7_isOfKind_21 (by decide) (fun c_ => absurd c_ (by decide)) (fun _ => ?_)
      refine lv_iload_n hx hb dX7_isOfKind_24 rfl (lv_at hl 1 rfl) ?_
      refine lv_iload_n hx hb dX7_isOfKind_25 rfl (lv_at hl 3 rfl) ?_
      refine lv_icmp_ne (tgt := 31) hx hb dX7_isOfKind_26 (by decide) (fun c_21 => ?_) (fun c_21 => ?_)
      · skip
        refine va_gets hx hb hZ1 va_S.rf hown (hts _ mx_X7_isOfKind_1) (fun _ h9 => h9) dX7_isOfKind_31 ?_
        refine lv_iload_n hx hb dX7_isOfKind_34 rfl (lv_at hl 1 rfl) ?_
        refine va_ti hx hb hT1 va_S.rf (by unfold vp_in; decide) rfl dX7_isOfKind_35 ?_
        refine lv_topi (fun v_22 e_22 => ?_)
        obtain rfl : v_22 = 0 := (e_22).trans (by decide)
        refine lv_istore_n (lv' := [(2, .int 0), (3, .int 1), (0, .int 2), (1, .int y)]) hx hb dX7_isOfKind_36 rfl hl (by decide) rfl (fun ls hl => ?_)
        refine lv_iinc (v := 2) (lv' := [(3, .int 2), (2, .int 0), (0, .int 2), (1, .int y)]) hx hb dX7_isOfKind_37 hl (k := 1) rfl (by decide) (by decide) rfl (fun ls hl => ?_)
        refine lv_goto (tgt := 4) hx hb dX7_isOfKind_40 (by decide) ?_
        refine lv_iload_n hx hb dX7_isOfKind_4 rfl (lv_at hl 0 rfl) ?_
        refine va_gets hx hb hZ1 va_S.rf hown (hts _ mx_X7_isOfKind_1) (fun _ h9 => h9) dX7_isOfKind_5 ?_
        refine va_tlen (v := 6) hx hb hT1 va_S.rf (by decide) dX7_isOfKind_8 ?_
        refine lv_icmp_ge (tgt := 43) hx hb dX7_isOfKind_9 (by decide) (fun c_ => absurd c_ (by decide)) (fun _ => ?_)
        refine lv_iload_n hx hb dX7_isOfKind_12 rfl (lv_at hl 1 rfl) ?_
        refine lv_if_lt (tgt := 43) hx hb dX7_isOfKind_13 (by decide) (fun c_ => absurd c_ (by decide)) (fun _ => ?_)
        refine lv_iload_n hx hb dX7_isOfKind_16 rfl (lv_at hl 1 rfl) ?_
        refine va_gets hx hb hZ1 va_S.rf hown (hts _ mx_X7_isOfKind_1) (fun _ h9 => h9) dX7_isOfKind_17 ?_
        refine va_tlen (v := 6) hx hb hT1 va_S.rf (by decide) dX7_isOfKind_20 ?_
        refine lv_icmp_ge (tgt := 43) hx hb dX7_isOfKind_21 (by decide) (fun c_ => absurd c_ (by decide)) (fun _ => ?_)
        refine lv_iload_n hx hb dX7_isOfKind_24 rfl (lv_at hl 1 rfl) ?_
        refine lv_iload_n hx hb dX7_isOfKind_25 rfl (lv_at hl 3 rfl) ?_
        refine lv_icmp_ne (tgt := 31) hx hb dX7_isOfKind_26 (by decide) (fun c_26 => ?_) (fun c_26 => ?_)
        · skip
          refine va_gets hx hb hZ1 va_S.rf hown (hts _ mx_X7_isOfKind_1) (fun _ h9 => h9) dX7_isOfKind_31 ?_
          refine lv_iload_n hx hb dX7_isOfKind_34 rfl (lv_at hl 1 rfl) ?_
          refine va_ti hx hb hT1 va_S.rf (by unfold vp_in; decide) rfl dX7_isOfKind_35 ?_
          refine lv_topi (fun v_27 e_27 => ?_)
          obtain rfl : v_27 = (-1) := (e_27).trans (by decide)
          refine lv_istore_n (lv' := [(2, .int (-1)), (3, .int 2), (0, .int 2), (1, .int y)]) hx hb dX7_isOfKind_36 rfl hl (by decide) rfl (fun ls hl => ?_)
          refine lv_iinc (v := 3) (lv' := [(3, .int 3), (2, .int (-1)), (0, .int 2), (1, .int y)]) hx hb dX7_isOfKind_37 hl (k := 1) rfl (by decide) (by decide) rfl (fun ls hl => ?_)
          refine lv_goto (tgt := 4) hx hb dX7_isOfKind_40 (by decide) ?_
          refine lv_iload_n hx hb dX7_isOfKind_4 rfl (lv_at hl 0 rfl) ?_
          refine va_gets hx hb hZ1 va_S.rf hown (hts _ mx_X7_isOfKind_1) (fun _ h9 => h9) dX7_isOfKind_5 ?_
          refine va_tlen (v := 6) hx hb hT1 va_S.rf (by decide) dX7_isOfKind_8 ?_
          refine lv_icmp_ge (tgt := 43) hx hb dX7_isOfKind_9 (by decide) (fun c_ => absurd c_ (by decide)) (fun _ => ?_)
          refine lv_iload_n hx hb dX7_isOfKind_12 rfl (lv_at hl 1 rfl) ?_
          refine lv_if_lt (tgt := 43) hx hb dX7_isOfKind_13 (by decide) (fun _ => ?_) (fun c_ => absurd (by decide) c_)
          refine lv_iconst (v := 0) hx hb dX7_isOfKind_43 (by decide) ?_
          exact W.zret (v := 0) hx hb hr (by decide) (fun t ht hW => ⟨0, rfl, Or.inl (⟨rfl, (lf_X7_isOfKind_4 ha1 ha5 c_16 c_21 c_26)⟩), ht⟩) (fun _ h => by cases h) dX7_isOfKind_44
        · skip
          refine lv_iconst (v := 1) hx hb dX7_isOfKind_29 (by decide) ?_
          exact W.zret (v := 1) hx hb hr (by decide) (fun t ht hW => ⟨1, rfl, Or.inr (⟨rfl, (lf_X7_isOfKind_5 ha1 ha5 c_16 c_21 c_26)⟩), ht⟩) (fun _ h => by cases h) dX7_isOfKind_30
      · skip
        refine lv_iconst (v := 1) hx hb dX7_isOfKind_29 (by decide) ?_
        exact W.zret (v := 1) hx hb hr (by decide) (fun t ht hW => ⟨1, rfl, Or.inr (⟨rfl, (lf_X7_isOfKind_6 ha1 ha5 c_16 c_21)⟩), ht⟩) (fun _ h => by cases h) dX7_isOfKind_30
    · skip
      refine lv_iconst (v := 1) hx hb dX7_isOfKind_29 (by decide) ?_
      exact W.zret (v := 1) hx hb hr (by decide) (fun t ht hW => ⟨1, rfl, Or.inr (⟨rfl, (lf_X7_isOfKind_7 ha1 ha5 c_16)⟩), ht⟩) (fun _ h => by cases h) dX7_isOfKind_30
  · skip
    have hl : lv_has ls 4 [(0, .int 3), (1, .int y)] := hl
    refine lv_iload_n hx hb dX7_isOfKind_0 rfl (lv_at hl 0 rfl) ?_
    refine lv_istore_n (lv' := [(2, .int 3), (0, .int 3), (1, .int y)]) hx hb dX7_isOfKind_1 rfl hl (by decide) rfl (fun ls hl => ?_)
    refine lv_iconst (v := 0) hx hb dX7_isOfKind_2 (by decide) ?_
    refine lv_istore_n (lv' := [(3, .int 0), (2, .int 3), (0, .int 3), (1, .int y)]) hx hb dX7_isOfKind_3 rfl hl (by decide) rfl (fun ls hl => ?_)
    refine lv_iload_n hx hb dX7_isOfKind_4 rfl (lv_at hl 0 rfl) ?_
    refine va_gets hx hb hZ1 va_S.rf hown (hts _ mx_X7_isOfKind_1) (fun _ h9 => h9) dX7_isOfKind_5 ?_
    refine va_tlen (v := 6) hx hb hT1 va_S.rf (by decide) dX7_isOfKind_8 ?_
    refine lv_icmp_ge (tgt := 43) hx hb dX7_isOfKind_9 (by decide) (fun c_ => absurd c_ (by decide)) (fun _ => ?_)
    refine lv_iload_n hx hb dX7_isOfKind_12 rfl (lv_at hl 1 rfl) ?_
    refine lv_if_lt (tgt := 43) hx hb dX7_isOfKind_13 (by decide) (fun c_ => absurd c_ (by decide)) (fun _ => ?_)
    refine lv_iload_n hx hb dX7_isOfKind_16 rfl (lv_at hl 1 rfl) ?_
    refine va_gets hx hb hZ1 va_S.rf hown (hts _ mx_X7_isOfKind_1) (fun _ h9 => h9) dX7_isOfKind_17 ?_
    refine va_tlen (v := 6) hx hb hT1 va_S.rf (by decide) dX7_isOfKind_20 ?_
    refine lv_icmp_ge (tgt := 43) hx hb dX7_isOfKind_21 (by decide) (fun c_ => absurd c_ (by decide)) (fun _ => ?_)
    refine lv_iload_n hx hb dX7_isOfKind_24 rfl (lv_at hl 1 rfl) ?_
    refine lv_iload_n hx hb dX7_isOfKind_25 rfl (lv_at hl 3 rfl) ?_
    refine lv_icmp_ne (tgt := 31) hx hb dX7_isOfKind_26 (by decide) (fun c_33 => ?_) (fun c_33 => ?_)
    · skip
      refine va_gets hx hb hZ1 va_S.rf hown (hts _ mx_X7_isOfKind_1) (fun _ h9 => h9) dX7_isOfKind_31 ?_
      refine lv_iload_n hx hb dX7_isOfKind_34 rfl (lv_at hl 1 rfl) ?_
      refine va_ti hx hb hT1 va_S.rf (by unfold vp_in; decide) rfl dX7_isOfKind_35 ?_
      refine lv_topi (fun v_34 e_34 => ?_)
      obtain rfl : v_34 = 1 := (e_34).trans (by decide)
      refine lv_istore_n (lv' := [(2, .int 1), (3, .int 0), (0, .int 3), (1, .int y)]) hx hb dX7_isOfKind_36 rfl hl (by decide) rfl (fun ls hl => ?_)
      refine lv_iinc (v := 1) (lv' := [(3, .int 1), (2, .int 1), (0, .int 3), (1, .int y)]) hx hb dX7_isOfKind_37 hl (k := 1) rfl (by decide) (by decide) rfl (fun ls hl => ?_)
      refine lv_goto (tgt := 4) hx hb dX7_isOfKind_40 (by decide) ?_
      refine lv_iload_n hx hb dX7_isOfKind_4 rfl (lv_at hl 0 rfl) ?_
      refine va_gets hx hb hZ1 va_S.rf hown (hts _ mx_X7_isOfKind_1) (fun _ h9 => h9) dX7_isOfKind_5 ?_
      refine va_tlen (v := 6) hx hb hT1 va_S.rf (by decide) dX7_isOfKind_8 ?_
      refine lv_icmp_ge (tgt := 43) hx hb dX7_isOfKind_9 (by decide) (fun c_ => absurd c_ (by decide)) (fun _ => ?_)
      refine lv_iload_n hx hb dX7_isOfKind_12 rfl (lv_at hl 1 rfl) ?_
      refine lv_if_lt (tgt := 43) hx hb dX7_isOfKind_13 (by decide) (fun c_ => absurd c_ (by decide)) (fun _ => ?_)
      refine lv_iload_n hx hb dX7_isOfKind_16 rfl (lv_at hl 1 rfl) ?_
      refine va_gets hx hb hZ1 va_S.rf hown (hts _ mx_X7_isOfKind_1) (fun _ h9 => h9) dX7_isOfKind_17 ?_
      refine va_tlen (v := 6) hx hb hT1 va_S.rf (by decide) dX7_isOfKind_20 ?_
      refine lv_icmp_ge (tgt := 43) hx hb dX7_isOfKind_21 (by decide) (fun c_ => absurd c_ (by decide)) (fun _ => ?_)
      refine lv_iload_n hx hb dX7_isOfKind_24 rfl (lv_at hl 1 rfl) ?_
      refine lv_iload_n hx hb dX7_isOfKind_25 rfl (lv_at hl 3 rfl) ?_
      refine lv_icmp_ne (tgt := 31) hx hb dX7_isOfKind_26 (by decide) (fun c_38 => ?_) (fun c_38 => ?_)
      · skip
        refine va_gets hx hb hZ1 va_S.rf hown (hts _ mx_X7_isOfKind_1) (fun _ h9 => h9) dX7_isOfKind_31 ?_
        refine lv_iload_n hx hb dX7_isOfKind_34 rfl (lv_at hl 1 rfl) ?_
        refine va_ti hx hb hT1 va_S.rf (by unfold vp_in; decide) rfl dX7_isOfKind_35 ?_
        refine lv_topi (fun v_39 e_39 => ?_)
        obtain rfl : v_39 = 0 := (e_39).trans (by decide)
        refine lv_istore_n (lv' := [(2, .int 0), (3, .int 1), (0, .int 3), (1, .int y)]) hx hb dX7_isOfKind_36 rfl hl (by decide) rfl (fun ls hl => ?_)
        refine lv_iinc (v := 2) (lv' := [(3, .int 2), (2, .int 0), (0, .int 3), (1, .int y)]) hx hb dX7_isOfKind_37 hl (k := 1) rfl (by decide) (by decide) rfl (fun ls hl => ?_)
        refine lv_goto (tgt := 4) hx hb dX7_isOfKind_40 (by decide) ?_
        refine lv_iload_n hx hb dX7_isOfKind_4 rfl (lv_at hl 0 rfl) ?_
        refine va_gets hx hb hZ1 va_S.rf hown (hts _ mx_X7_isOfKind_1) (fun _ h9 => h9) dX7_isOfKind_5 ?_
        refine va_tlen (v := 6) hx hb hT1 va_S.rf (by decide) dX7_isOfKind_8 ?_
        refine lv_icmp_ge (tgt := 43) hx hb dX7_isOfKind_9 (by decide) (fun c_ => absurd c_ (by decide)) (fun _ => ?_)
        refine lv_iload_n hx hb dX7_isOfKind_12 rfl (lv_at hl 1 rfl) ?_
        refine lv_if_lt (tgt := 43) hx hb dX7_isOfKind_13 (by decide) (fun c_ => absurd c_ (by decide)) (fun _ => ?_)
        refine lv_iload_n hx hb dX7_isOfKind_16 rfl (lv_at hl 1 rfl) ?_
        refine va_gets hx hb hZ1 va_S.rf hown (hts _ mx_X7_isOfKind_1) (fun _ h9 => h9) dX7_isOfKind_17 ?_
        refine va_tlen (v := 6) hx hb hT1 va_S.rf (by decide) dX7_isOfKind_20 ?_
        refine lv_icmp_ge (tgt := 43) hx hb dX7_isOfKind_21 (by decide) (fun c_ => absurd c_ (by decide)) (fun _ => ?_)
        refine lv_iload_n hx hb dX7_isOfKind_24 rfl (lv_at hl 1 rfl) ?_
        refine lv_iload_n hx hb dX7_isOfKind_25 rfl (lv_at hl 3 rfl) ?_
        refine lv_icmp_ne (tgt := 31) hx hb dX7_isOfKind_26 (by decide) (fun c_43 => ?_) (fun c_43 => ?_)
        · skip
          refine va_gets hx hb hZ1 va_S.rf hown (hts _ mx_X7_isOfKind_1) (fun _ h9 => h9) dX7_isOfKind_31 ?_
          refine lv_iload_n hx hb dX7_isOfKind_34 rfl (lv_at hl 1 rfl) ?_
          refine va_ti hx hb hT1 va_S.rf (by unfold vp_in; decide) rfl dX7_isOfKind_35 ?_
          refine lv_topi (fun v_44 e_44 => ?_)
          obtain rfl : v_44 = (-1) := (e_44).trans (by decide)
          refine lv_istore_n (lv' := [(2, .int (-1)), (3, .int 2), (0, .int 3), (1, .int y)]) hx hb dX7_isOfKind_36 rfl hl (by decide) rfl (fun ls hl => ?_)
          refine lv_iinc (v := 3) (lv' := [(3, .int 3), (2, .int (-1)), (0, .int 3), (1, .int y)]) hx hb dX7_isOfKind_37 hl (k := 1) rfl (by decide) (by decide) rfl (fun ls hl => ?_)
          refine lv_goto (tgt := 4) hx hb dX7_isOfKind_40 (by decide) ?_
          refine lv_iload_n hx hb dX7_isOfKind_4 rfl (lv_at hl 0 rfl) ?_
          refine va_gets hx hb hZ1 va_S.rf hown (hts _ mx_X7_isOfKind_1) (fun _ h9 => h9) dX7_isOfKind_5 ?_
          refine va_tlen (v := 6) hx hb hT1 va_S.rf (by decide) dX7_isOfKind_8 ?_
          refine lv_icmp_ge (tgt := 43) hx hb dX7_isOfKind_9 (by decide) (fun c_ => absurd c_ (by decide)) (fun _ => ?_)
          refine lv_iload_n hx hb dX7_isOfKind_12 rfl (lv_at hl 1 rfl) ?_
          refine lv_if_lt (tgt := 43) hx hb dX7_isOfKind_13 (by decide) (fun _ => ?_) (fun c_ => absurd (by decide) c_)
          refine lv_iconst (v := 0) hx hb dX7_isOfKind_43 (by decide) ?_
          exact W.zret (v := 0) hx hb hr (by decide) (fun t ht hW => ⟨0, rfl, Or.inl (⟨rfl, (lf_X7_isOfKind_8 ha1 ha5 c_33 c_38 c_43)⟩), ht⟩) (fun _ h => by cases h) dX7_isOfKind_44
        · skip
          refine lv_iconst (v := 1) hx hb dX7_isOfKind_29 (by decide) ?_
          exact W.zret (v := 1) hx hb hr (by decide) (fun t ht hW => ⟨1, rfl, Or.inr (⟨rfl, (lf_X7_isOfKind_9 ha1 ha5 c_33 c_38 c_43)⟩), ht⟩) (fun _ h => by cases h) dX7_isOfKind_30
      · skip
        refine lv_iconst (v := 1) hx hb dX7_isOfKind_29 (by decide) ?_
        exact W.zret (v := 1) hx hb hr (by decide) (fun t ht hW => ⟨1, rfl, Or.inr (⟨rfl, (lf_X7_isOfKind_10 ha1 ha5 c_33 c_38)⟩), ht⟩) (fun _ h => by cases h) dX7_isOfKind_30
    · skip
      refine lv_iconst (v := 1) hx hb dX7_isOfKind_29 (by decide) ?_
      exact W.zret (v := 1) hx hb hr (by decide) (fun t ht hW => ⟨1, rfl, Or.inr (⟨rfl, (lf_X7_isOfKind_11 ha1 ha5 c_33)⟩), ht⟩) (fun _ h => by cases h) dX7_isOfKind_30
  · skip
    have hl : lv_has ls 4 [(0, .int 4), (1, .int y)] := hl
    refine lv_iload_n hx hb dX7_isOfKind_0 rfl (lv_at hl 0 rfl) ?_
    refine lv_istore_n (lv' := [(2, .int 4), (0, .int 4), (1, .int y)]) hx hb dX7_isOfKind_1 rfl hl (by decide) rfl (fun ls hl => ?_)
    refine lv_iconst (v := 0) hx hb dX7_isOfKind_2 (by decide) ?_
    refine lv_istore_n (lv' := [(3, .int 0), (2, .int 4), (0, .int 4), (1, .int y)]) hx hb dX7_isOfKind_3 rfl hl (by decide) rfl (fun ls hl => ?_)
    refine lv_iload_n hx hb dX7_isOfKind_4 rfl (lv_at hl 0 rfl) ?_
    refine va_gets hx hb hZ1 va_S.rf hown (hts _ mx_X7_isOfKind_1) (fun _ h9 => h9) dX7_isOfKind_5 ?_
    refine va_tlen (v := 6) hx hb hT1 va_S.rf (by decide) dX7_isOfKind_8 ?_
    refine lv_icmp_ge (tgt := 43) hx hb dX7_isOfKind_9 (by decide) (fun c_ => absurd c_ (by decide)) (fun _ => ?_)
    refine lv_iload_n hx hb dX7_isOfKind_12 rfl (lv_at hl 1 rfl) ?_
    refine lv_if_lt (tgt := 43) hx hb dX7_isOfKind_13 (by decide) (fun c_ => absurd c_ (by decide)) (fun _ => ?_)
    refine lv_iload_n hx hb dX7_isOfKind_16 rfl (lv_at hl 1 rfl) ?_
    refine va_gets hx hb hZ1 va_S.rf hown (hts _ mx_X7_isOfKind_1) (fun _ h9 => h9) dX7_isOfKind_17 ?_
    refine va_tlen (v := 6) hx hb hT1 va_S.rf (by decide) dX7_isOfKind_20 ?_
    refine lv_icmp_ge (tgt := 43) hx hb dX7_isOfKind_21 (by decide) (fun c_ => absurd c_ (by decide)) (fun _ => ?_)
    refine lv_iload_n hx hb dX7_isOfKind_24 rfl (lv_at hl 1 rfl) ?_
    refine lv_iload_n hx hb dX7_isOfKind_25 rfl (lv_at hl 3 rfl) ?_
    refine lv_icmp_ne (tgt := 31) hx hb dX7_isOfKind_26 (by decide) (fun c_50 => ?_) (fun c_50 => ?_)
    · skip
      refine va_gets hx hb hZ1 va_S.rf hown (hts _ mx_X7_isOfKind_1) (fun _ h9 => h9) dX7_isOfKind_31 ?_
      refine lv_iload_n hx hb dX7_isOfKind_34 rfl (lv_at hl 1 rfl) ?_
      refine va_ti hx hb hT1 va_S.rf (by unfold vp_in; decide) rfl dX7_isOfKind_35 ?_
      refine lv_topi (fun v_51 e_51 => ?_)
      obtain rfl : v_51 = 0 := (e_51).trans (by decide)
      refine lv_istore_n (lv' := [(2, .int 0), (3, .int 0), (0, .int 4), (1, .int y)]) hx hb dX7_isOfKind_36 rfl hl (by decide) rfl (fun ls hl => ?_)
      refine lv_iinc (v := 1) (lv' := [(3, .int 1), (2, .int 0), (0, .int 4), (1, .int y)]) hx hb dX7_isOfKind_37 hl (k := 1) rfl (by decide) (by decide) rfl (fun ls hl => ?_)
      refine lv_goto (tgt := 4) hx hb dX7_isOfKind_40 (by decide) ?_
      refine lv_iload_n hx hb dX7_isOfKind_4 rfl (lv_at hl 0 rfl) ?_
      refine va_gets hx hb hZ1 va_S.rf hown (hts _ mx_X7_isOfKind_1) (fun _ h9 => h9) dX7_isOfKind_5 ?_
      refine va_tlen (v := 6) hx hb hT1 va_S.rf (by decide) dX7_isOfKind_8 ?_
      refine lv_icmp_ge (tgt := 43) hx hb dX7_isOfKind_9 (by decide) (fun c_ => absurd c_ (by decide)) (fun _ => ?_)
      refine lv_iload_n hx hb dX7_isOfKind_12 rfl (lv_at hl 1 rfl) ?_
      refine lv_if_lt (tgt := 43) hx hb dX7_isOfKind_13 (by decide) (fun c_ => absurd c_ (by decide)) (fun _ => ?_)
      refine lv_iload_n hx hb dX7_isOfKind_16 rfl (lv_at hl 1 rfl) ?_
      refine va_gets hx hb hZ1 va_S.rf hown (hts _ mx_X7_isOfKind_1) (fun _ h9 => h9) dX7_isOfKind_17 ?_
      refine va_tlen (v := 6) hx hb hT1 va_S.rf (by decide) dX7_isOfKind_20 ?_
      refine lv_icmp_ge (tgt := 43) hx hb dX7_isOfKind_21 (by decide) (fun c_ => absurd c_ (by decide)) (fun _ => ?_)
      refine lv_iload_n hx hb dX7_isOfKind_24 rfl (lv_at hl 1 rfl) ?_
      refine lv_iload_n hx hb dX7_isOfKind_25 rfl (lv_at hl 3 rfl) ?_
      refine lv_icmp_ne (tgt := 31) hx hb dX7_isOfKind_26 (by decide) (fun c_55 => ?_) (fun c_55 => ?_)
      · skip
        refine va_gets hx hb hZ1 va_S.rf hown (hts _ mx_X7_isOfKind_1) (fun _ h9 => h9) dX7_isOfKind_31 ?_
        refine lv_iload_n hx hb dX7_isOfKind_34 rfl (lv_at hl 1 rfl) ?_
        refine va_ti hx hb hT1 va_S.rf (by unfold vp_in; decide) rfl dX7_isOfKind_35 ?_
        refine lv_topi (fun v_56 e_56 => ?_)
        obtain rfl : v_56 = (-1) := (e_56).trans (by decide)
        refine lv_istore_n (lv' := [(2, .int (-1)), (3, .int 1), (0, .int 4), (1, .int y)]) hx hb dX7_isOfKind_36 rfl hl (by decide) rfl (fun ls hl => ?_)
        refine lv_iinc (v := 2) (lv' := [(3, .int 2), (2, .int (-1)), (0, .int 4), (1, .int y)]) hx hb dX7_isOfKind_37 hl (k := 1) rfl (by decide) (by decide) rfl (fun ls hl => ?_)
        refine lv_goto (tgt := 4) hx hb dX7_isOfKind_40 (by decide) ?_
        refine lv_iload_n hx hb dX7_isOfKind_4 rfl (lv_at hl 0 rfl) ?_
        refine va_gets hx hb hZ1 va_S.rf hown (hts _ mx_X7_isOfKind_1) (fun _ h9 => h9) dX7_isOfKind_5 ?_
        refine va_tlen (v := 6) hx hb hT1 va_S.rf (by decide) dX7_isOfKind_8 ?_
        refine lv_icmp_ge (tgt := 43) hx hb dX7_isOfKind_9 (by decide) (fun c_ => absurd c_ (by decide)) (fun _ => ?_)
        refine lv_iload_n hx hb dX7_isOfKind_12 rfl (lv_at hl 1 rfl) ?_
        refine lv_if_lt (tgt := 43) hx hb dX7_isOfKind_13 (by decide) (fun _ => ?_) (fun c_ => absurd (by decide) c_)
        refine lv_iconst (v := 0) hx hb dX7_isOfKind_43 (by decide) ?_
        exact W.zret (v := 0) hx hb hr (by decide) (fun t ht hW => ⟨0, rfl, Or.inl (⟨rfl, (lf_X7_isOfKind_12 ha1 ha5 c_50 c_55)⟩), ht⟩) (fun _ h => by cases h) dX7_isOfKind_44
      · skip
        refine lv_iconst (v := 1) hx hb dX7_isOfKind_29 (by decide) ?_
        exact W.zret (v := 1) hx hb hr (by decide) (fun t ht hW => ⟨1, rfl, Or.inr (⟨rfl, (lf_X7_isOfKind_13 ha1 ha5 c_50 c_55)⟩), ht⟩) (fun _ h => by cases h) dX7_isOfKind_30
    · skip
      refine lv_iconst (v := 1) hx hb dX7_isOfKind_29 (by decide) ?_
      exact W.zret (v := 1) hx hb hr (by decide) (fun t ht hW => ⟨1, rfl, Or.inr (⟨rfl, (lf_X7_isOfKind_14 ha1 ha5 c_50)⟩), ht⟩) (fun _ h => by cases h) dX7_isOfKind_30
  · skip
    have hl : lv_has ls 4 [(0, .int 5), (1, .int y)] := hl
    refine lv_iload_n hx hb dX7_isOfKind_0 rfl (lv_at hl 0 rfl) ?_
    refine lv_istore_n (lv' := [(2, .int 5), (0, .int 5), (1, .int y)]) hx hb dX7_isOfKind_1 rfl hl (by decide) rfl (fun ls hl => ?_)
    refine lv_iconst (v := 0) hx hb dX7_isOfKind_2 (by decide) ?_
    refine lv_istore_n (lv' := [(3, .int 0), (2, .int 5), (0, .int 5), (1, .int y)]) hx hb dX7_isOfKind_3 rfl hl (by decide) rfl (fun ls hl => ?_)
    refine lv_iload_n hx hb dX7_isOfKind_4 rfl (lv_at hl 0 rfl) ?_
    refine va_gets hx hb hZ1 va_S.rf hown (hts _ mx_X7_isOfKind_1) (fun _ h9 => h9) dX7_isOfKind_5 ?_
    refine va_tlen (v := 6) hx hb hT1 va_S.rf (by decide) dX7_isOfKind_8 ?_
    refine lv_icmp_ge (tgt := 43) hx hb dX7_isOfKind_9 (by decide) (fun c_ => absurd c_ (by decide)) (fun _ => ?_)
    refine lv_iload_n hx hb dX7_isOfKind_12 rfl (lv_at hl 1 rfl) ?_
    refine lv_if_lt (tgt := 43) hx hb dX7_isOfKind_13 (by decide) (fun c_ => absurd c_ (by decide)) (fun _ => ?_)
    refine lv_iload_n hx hb dX7_isOfKind_16 rfl (lv_at hl 1 rfl) ?_
    refine va_gets hx hb hZ1 va_S.rf hown (hts _ mx_X7_isOfKind_1) (fun _ h9 => h9) dX7_isOfKind_17 ?_
    refine va_tlen (v := 6) hx hb hT1 va_S.rf (by decide) dX7_isOfKind_20 ?_
    refine lv_icmp_ge (tgt := 43) hx hb dX7_isOfKind_21 (by decide) (fun c_ => absurd c_ (by decide)) (fun _ => ?_)
    refine lv_iload_n hx hb dX7_isOfKind_24 rfl (lv_at hl 1 rfl) ?_
    refine lv_iload_n hx hb dX7_isOfKind_25 rfl (lv_at hl 3 rfl) ?_
    refine lv_icmp_ne (tgt := 31) hx hb dX7_isOfKind_26 (by decide) (fun c_62 => ?_) (fun c_62 => ?_)
    · skip
      refine va_gets hx hb hZ1 va_S.rf hown (hts _ mx_X7_isOfKind_1) (fun _ h9 => h9) dX7_isOfKind_31 ?_
      refine lv_iload_n hx hb dX7_isOfKind_34 rfl (lv_at hl 1 rfl) ?_
      refine va_ti hx hb hT1 va_S.rf (by unfold vp_in; decide) rfl dX7_isOfKind_35 ?_
      refine lv_topi (fun v_63 e_63 => ?_)
      obtain rfl : v_63 = 4 := (e_63).trans (by decide)
      refine lv_istore_n (lv' := [(2, .int 4), (3, .int 0), (0, .int 5), (1, .int y)]) hx hb dX7_isOfKind_36 rfl hl (by decide) rfl (fun ls hl => ?_)
      refine lv_iinc (v := 1) (lv' := [(3, .int 1), (2, .int 4), (0, .int 5), (1, .int y)]) hx hb dX7_isOfKind_37 hl (k := 1) rfl (by decide) (by decide) rfl (fun ls hl => ?_)
      refine lv_goto (tgt := 4) hx hb dX7_isOfKind_40 (by decide) ?_
      refine lv_iload_n hx hb dX7_isOfKind_4 rfl (lv_at hl 0 rfl) ?_
      refine va_gets hx hb hZ1 va_S.rf hown (hts _ mx_X7_isOfKind_1) (fun _ h9 => h9) dX7_isOfKind_5 ?_
      refine va_tlen (v := 6) hx hb hT1 va_S.rf (by decide) dX7_isOfKind_8 ?_
      refine lv_icmp_ge (tgt := 43) hx hb dX7_isOfKind_9 (by decide) (fun c_ => absurd c_ (by decide)) (fun _ => ?_)
      refine lv_iload_n hx hb dX7_isOfKind_12 rfl (lv_at hl 1 rfl) ?_
      refine lv_if_lt (tgt := 43) hx hb dX7_isOfKind_13 (by decide) (fun c_ => absurd c_ (by decide)) (fun _ => ?_)
      refine lv_iload_n hx hb dX7_isOfKind_16 rfl (lv_at hl 1 rfl) ?_
      refine va_gets hx hb hZ1 va_S.rf hown (hts _ mx_X7_isOfKind_1) (fun _ h9 => h9) dX7_isOfKind_17 ?_
      refine va_tlen (v := 6) hx hb hT1 va_S.rf (by decide) dX7_isOfKind_20 ?_
      refine lv_icmp_ge (tgt := 43) hx hb dX7_isOfKind_21 (by decide) (fun c_ => absurd c_ (by decide)) (fun _ => ?_)
      refine lv_iload_n hx hb dX7_isOfKind_24 rfl (lv_at hl 1 rfl) ?_
      refine lv_iload_n hx hb dX7_isOfKind_25 rfl (lv_at hl 3 rfl) ?_
      refine lv_icmp_ne (tgt := 31) hx hb dX7_isOfKind_26 (by decide) (fun c_67 => ?_) (fun c_67 => ?_)
      · skip
        refine va_gets hx hb hZ1 va_S.rf hown (hts _ mx_X7_isOfKind_1) (fun _ h9 => h9) dX7_isOfKind_31 ?_
        refine lv_iload_n hx hb dX7_isOfKind_34 rfl (lv_at hl 1 rfl) ?_
        refine va_ti hx hb hT1 va_S.rf (by unfold vp_in; decide) rfl dX7_isOfKind_35 ?_
        refine lv_topi (fun v_68 e_68 => ?_)
        obtain rfl : v_68 = 0 := (e_68).trans (by decide)
        refine lv_istore_n (lv' := [(2, .int 0), (3, .int 1), (0, .int 5), (1, .int y)]) hx hb dX7_isOfKind_36 rfl hl (by decide) rfl (fun ls hl => ?_)
        refine lv_iinc (v := 2) (lv' := [(3, .int 2), (2, .int 0), (0, .int 5), (1, .int y)]) hx hb dX7_isOfKind_37 hl (k := 1) rfl (by decide) (by decide) rfl (fun ls hl => ?_)
        refine lv_goto (tgt := 4) hx hb dX7_isOfKind_40 (by decide) ?_
        refine lv_iload_n hx hb dX7_isOfKind_4 rfl (lv_at hl 0 rfl) ?_
        refine va_gets hx hb hZ1 va_S.rf hown (hts _ mx_X7_isOfKind_1) (fun _ h9 => h9) dX7_isOfKind_5 ?_
        refine va_tlen (v := 6) hx hb hT1 va_S.rf (by decide) dX7_isOfKind_8 ?_
        refine lv_icmp_ge (tgt := 43) hx hb dX7_isOfKind_9 (by decide) (fun c_ => absurd c_ (by decide)) (fun _ => ?_)
        refine lv_iload_n hx hb dX7_isOfKind_12 rfl (lv_at hl 1 rfl) ?_
        refine lv_if_lt (tgt := 43) hx hb dX7_isOfKind_13 (by decide) (fun c_ => absurd c_ (by decide)) (fun _ => ?_)
        refine lv_iload_n hx hb dX7_isOfKind_16 rfl (lv_at hl 1 rfl) ?_
        refine va_gets hx hb hZ1 va_S.rf hown (hts _ mx_X7_isOfKind_1) (fun _ h9 => h9) dX7_isOfKind_17 ?_
        refine va_tlen (v := 6) hx hb hT1 va_S.rf (by decide) dX7_isOfKind_20 ?_
        refine lv_icmp_ge (tgt := 43) hx hb dX7_isOfKind_21 (by decide) (fun c_ => absurd c_ (by decide)) (fun _ => ?_)
        refine lv_iload_n hx hb dX7_isOfKind_24 rfl (lv_at hl 1 rfl) ?_
        refine lv_iload_n hx hb dX7_isOfKind_25 rfl (lv_at hl 3 rfl) ?_
        refine lv_icmp_ne (tgt := 31) hx hb dX7_isOfKind_26 (by decide) (fun c_72 => ?_) (fun c_72 => ?_)
        · skip
          refine va_gets hx hb hZ1 va_S.rf hown (hts _ mx_X7_isOfKind_1) (fun _ h9 => h9) dX7_isOfKind_31 ?_
          refine lv_iload_n hx hb dX7_isOfKind_34 rfl (lv_at hl 1 rfl) ?_
          refine va_ti hx hb hT1 va_S.rf (by unfold vp_in; decide) rfl dX7_isOfKind_35 ?_
          refine lv_topi (fun v_73 e_73 => ?_)
          obtain rfl : v_73 = (-1) := (e_73).trans (by decide)
          refine lv_istore_n (lv' := [(2, .int (-1)), (3, .int 2), (0, .int 5), (1, .int y)]) hx hb dX7_isOfKind_36 rfl hl (by decide) rfl (fun ls hl => ?_)
          refine lv_iinc (v := 3) (lv' := [(3, .int 3), (2, .int (-1)), (0, .int 5), (1, .int y)]) hx hb dX7_isOfKind_37 hl (k := 1) rfl (by decide) (by decide) rfl (fun ls hl => ?_)
          refine lv_goto (tgt := 4) hx hb dX7_isOfKind_40 (by decide) ?_
          refine lv_iload_n hx hb dX7_isOfKind_4 rfl (lv_at hl 0 rfl) ?_
          refine va_gets hx hb hZ1 va_S.rf hown (hts _ mx_X7_isOfKind_1) (fun _ h9 => h9) dX7_isOfKind_5 ?_
          refine va_tlen (v := 6) hx hb hT1 va_S.rf (by decide) dX7_isOfKind_8 ?_
          refine lv_icmp_ge (tgt := 43) hx hb dX7_isOfKind_9 (by decide) (fun c_ => absurd c_ (by decide)) (fun _ => ?_)
          refine lv_iload_n hx hb dX7_isOfKind_12 rfl (lv_at hl 1 rfl) ?_
          refine lv_if_lt (tgt := 43) hx hb dX7_isOfKind_13 (by decide) (fun _ => ?_) (fun c_ => absurd (by decide) c_)
          refine lv_iconst (v := 0) hx hb dX7_isOfKind_43 (by decide) ?_
          exact W.zret (v := 0) hx hb hr (by decide) (fun t ht hW => ⟨0, rfl, Or.inl (⟨rfl, (lf_X7_isOfKind_15 ha1 ha5 c_62 c_67 c_72)⟩), ht⟩) (fun _ h => by cases h) dX7_isOfKind_44
        · skip
          refine lv_iconst (v := 1) hx hb dX7_isOfKind_29 (by decide) ?_
          exact W.zret (v := 1) hx hb hr (by decide) (fun t ht hW => ⟨1, rfl, Or.inr (⟨rfl, (lf_X7_isOfKind_16 ha1 ha5 c_62 c_67 c_72)⟩), ht⟩) (fun _ h => by cases h) dX7_isOfKind_30
      · skip
        refine lv_iconst (v := 1) hx hb dX7_isOfKind_29 (by decide) ?_
        exact W.zret (v := 1) hx hb hr (by decide) (fun t ht hW => ⟨1, rfl, Or.inr (⟨rfl, (lf_X7_isOfKind_17 ha1 ha5 c_62 c_67)⟩), ht⟩) (fun _ h => by cases h) dX7_isOfKind_30
    · skip
      refine lv_iconst (v := 1) hx hb dX7_isOfKind_29 (by decide) ?_
      exact W.zret (v := 1) hx hb hr (by decide) (fun t ht hW => ⟨1, rfl, Or.inr (⟨rfl, (lf_X7_isOfKind_18 ha1 ha5 c_62)⟩), ht⟩) (fun _ h => by cases h) dX7_isOfKind_30
set_option maxHeartbeats 4000000 in
set_option maxRecDepth 100000 in
theorem r_X7_fault (l : Launch) (dC : Nat → ClassId) (dI : Nat → Nat → Nat) (cI cZ cL cJ : ClassId) (x : Nat) (ro : Nat) (ta : Nat) (no : Nat) (ac : Nat) (im : Nat) (tr : Nat) (pl : Nat) (cs : Nat) (ak : Nat) (xf : Int32) (xg : Int32)  : Met l yX7_fault wsX7_fault ({ frames := 0, cells := 0, slots := 0, locals := 0 }) (va_Pc [.ref x] (fun U => va_P (dC, dI) vwCl [(xo_7_rrrrrrrrrii x ro ta no ac im tr pl cs ak xf xg)] U.heap ∧ va_K (dC, dI) vwCl [(cI, .int), (cZ, .boolean), (cL, .object RX3), (cJ, .array .int)] U)) (vp_Si (fun r => r = xf)) 0 0 (fun _ => False) := by
  refine Met.ofW (cc := cX7_fault) (maxL := 1) (ret := (some .int)) (by decide) rfl ?_
  intro p e s m args below meth c s₁ B hml hv
  obtain ⟨rfl, hP, hK⟩ := hv
  have hx := B.exec
  have hb := B.bytes
  have hr := B.returns
  have hts := atoms_spec (ws := wsX7_fault) B.pre
  have hown : s.vm.findClass RX7 = some m.cls := findClass_of_methodNamed B.named
  have hlocks := B.notSynchronized
  have hP : va_P (dC, dI) vwCl [(xo_7_rrrrrrrrrii x ro ta no ac im tr pl cs ak xf xg)] s.heap := hP
  have hl := lv_entry ([.ref x]) (n := 1) (Nat.le_of_ble_eq_true rfl)
  rw [lg_entry_eq]
  generalize (lg_sl ([.ref x]) ++ List.replicate (1 - (lg_sl ([.ref x])).length) Slot.unset).toArray = ls at hl ⊢
  have hl : lv_has ls 1 [(0, .ref x)] := hl
  refine lv_aload_n hx hb dX7_fault_0 rfl (lv_at hl 0 rfl) ?_
  refine va_get (D := (dC, dI)) (ci := 7) (v := .int xf) (C := RX7) (T := TX7) (N := 11) hx hb hts i_X7_fault_X7 hown hK hP 0 rfl rfl 9 (by decide) (hts _ mx_X7_fault_1) (fun _ h9 => h9) rfl dX7_fault_1 ?_
  exact W.iret (v := xf) hx hb hr (fun t ht hW => ⟨xf, rfl, rfl, ht⟩) (fun _ h => by cases h) dX7_fault_4
set_option maxHeartbeats 4000000 in
set_option maxRecDepth 100000 in
theorem r_X7_status (l : Launch) (dC : Nat → ClassId) (dI : Nat → Nat → Nat) (cI cZ cL cJ : ClassId) (x : Nat) (ro : Nat) (ta : Nat) (no : Nat) (ac : Nat) (im : Nat) (tr : Nat) (pl : Nat) (cs : Nat) (ak : Nat) (xf : Int32) (xg : Int32)  : Met l yX7_status wsX7_status ({ frames := 0, cells := 0, slots := 0, locals := 0 }) (va_Pc [.ref x] (fun U => va_P (dC, dI) vwCl [(xo_7_rrrrrrrrrii x ro ta no ac im tr pl cs ak xf xg)] U.heap ∧ va_K (dC, dI) vwCl [(cI, .int), (cZ, .boolean), (cL, .object RX3), (cJ, .array .int)] U)) (vp_Si (fun r => r = xg)) 0 0 (fun _ => False) := by
  refine Met.ofW (cc := cX7_status) (maxL := 1) (ret := (some .int)) (by decide) rfl ?_
  intro p e s m args below meth c s₁ B hml hv
  obtain ⟨rfl, hP, hK⟩ := hv
  have hx := B.exec
  have hb := B.bytes
  have hr := B.returns
  have hts := atoms_spec (ws := wsX7_status) B.pre
  have hown : s.vm.findClass RX7 = some m.cls := findClass_of_methodNamed B.named
  have hlocks := B.notSynchronized
  have hP : va_P (dC, dI) vwCl [(xo_7_rrrrrrrrrii x ro ta no ac im tr pl cs ak xf xg)] s.heap := hP
  have hl := lv_entry ([.ref x]) (n := 1) (Nat.le_of_ble_eq_true rfl)
  rw [lg_entry_eq]
  generalize (lg_sl ([.ref x]) ++ List.replicate (1 - (lg_sl ([.ref x])).length) Slot.unset).toArray = ls at hl ⊢
  have hl : lv_has ls 1 [(0, .ref x)] := hl
  refine lv_aload_n hx hb dX7_status_0 rfl (lv_at hl 0 rfl) ?_
  refine va_get (D := (dC, dI)) (ci := 7) (v := .int xg) (C := RX7) (T := TX7) (N := 11) hx hb hts i_X7_status_X7 hown hK hP 0 rfl rfl 10 (by decide) (hts _ mx_X7_status_1) (fun _ h9 => h9) rfl dX7_status_1 ?_
  exact W.iret (v := xg) hx hb hr (fun t ht hW => ⟨xg, rfl, rfl, ht⟩) (fun _ h => by cases h) dX7_status_4
theorem lf_X7_kind_1 {nv0 : Int32} {nv1 : Int32} {nv2 : Int32} {nv3 : Int32} {nv5 : Int32} {nhh : Nat} {nww : Nat} {nkk : Nat} {ng1 : Nat → Int32} {ng2 : Nat → Int32} {ng3 : Nat → Int32} {ng4 : Nat → Int32} {ng5 : Nat → Int32} {k0 : Int32} (nhb : nhh ≤ 999) (nwb : nww ≤ 6) (nkb : nkk ≤ 6) (hLv : okLv (nrm nv0 nv1 nv2 nv3 nhh nv5 nww nkk ng1 ng2 ng3 ng4 ng5)) (f_1_0_0 : (k0 < 0 ∨ (nI nkk) ≤ k0)) : (-1000001) = (a_kind (nrm nv0 nv1 nv2 nv3 nhh nv5 nww nkk ng1 ng2 ng3 ng4 ng5) k0) := by
  obtain ⟨t0, t1⟩ := tX hLv nwb nkb (by omega)
  simp only [a_kind, nr0, nr1, nr2, nr3, nr4, nr5, nr6, nr7] at *
  grind [nI_clamp, nrg1, nrg2, nrg3, nrg4, nrg5, sB_ok, th_nrm, gu_nrm, df_eq, dfX, tlX, nI_pos, n60]
theorem lf_X7_kind_2 {nv0 : Int32} {nv1 : Int32} {nv2 : Int32} {nv3 : Int32} {nv5 : Int32} {nhh : Nat} {nww : Nat} {nkk : Nat} {ng1 : Nat → Int32} {ng2 : Nat → Int32} {ng3 : Nat → Int32} {ng4 : Nat → Int32} {ng5 : Nat → Int32} {j_1 : Nat} {v_5 : Int32} (nhb : nhh ≤ 999) (nwb : nww ≤ 6) (nkb : nkk ≤ 6) (hLv : okLv (nrm nv0 nv1 nv2 nv3 nhh nv5 nww nkk ng1 ng2 ng3 ng4 ng5)) (hj_1 : j_1 < nkk) (e_5 : v_5 = ng2 j_1) : v_5 = (a_kind (nrm nv0 nv1 nv2 nv3 nhh nv5 nww nkk ng1 ng2 ng3 ng4 ng5) (nI j_1)) := by
  obtain ⟨t0, t1⟩ := tX hLv nwb nkb (by omega)
  simp only [a_kind, nr0, nr1, nr2, nr3, nr4, nr5, nr6, nr7] at *
  grind [nI_clamp, nrg1, nrg2, nrg3, nrg4, nrg5, sB_ok, th_nrm, gu_nrm, df_eq, dfX, tlX, nI_pos, n60]
set_option maxHeartbeats 4000000 in
set_option maxRecDepth 100000 in
theorem r_X7_kind (l : Launch) (dC : Nat → ClassId) (dI : Nat → Nat → Nat) (cI cZ cL cJ : ClassId) (x : Nat) (ro : Nat) (ta : Nat) (no : Nat) (ac : Nat) (im : Nat) (tr : Nat) (pl : Nat) (cs : Nat) (ak : Nat) (xf : Int32) (xg : Int32) (nv0 : Int32) (nv1 : Int32) (nv2 : Int32) (nv3 : Int32) (nv5 : Int32) (nhh : Nat) (nww : Nat) (nkk : Nat) (nb1 : Nat) (nb2 : Nat) (nb3 : Nat) (nb4 : Nat) (nb5 : Nat) (ng1 : Nat → Int32) (ng2 : Nat → Int32) (ng3 : Nat → Int32) (ng4 : Nat → Int32) (ng5 : Nat → Int32) (k0 : Int32) (nhb : nhh ≤ 999) (nwb : nww ≤ 6) (nkb : nkk ≤ 6) (hLv : okLv (nrm nv0 nv1 nv2 nv3 nhh nv5 nww nkk ng1 ng2 ng3 ng4 ng5)) : Met l yX7_kind wsX7_kind ({ frames := 1, cells := 0, slots := 0, locals := 21 }) (va_Pc [.ref x, .int k0] (fun U => va_P (dC, dI) vwCl [(xo_7_rrrrrrrrrii x ro ta no ac im tr pl cs ak xf xg), (xo_3_iiiiiiiirrrrr no nv0 nv1 nv2 nv3 (nI nhh) nv5 (nI nww) (nI nkk) nb1 nb2 nb3 nb4 nb5), (xI nb1 cI 6 ng1), (xI nb2 cI 6 ng2), (xI nb3 cI 6 ng3), (xI nb4 cI 6 ng4), (xI nb5 cI 6 ng5)] U.heap ∧ va_K (dC, dI) vwCl [(cI, .int), (cZ, .boolean), (cL, .object RX3), (cJ, .array .int)] U)) (vp_Si (fun r => r = (a_kind (nrm nv0 nv1 nv2 nv3 nhh nv5 nww nkk ng1 ng2 ng3 ng4 ng5) k0))) 0 0 (fun _ => False) := by
  refine Met.ofW (cc := cX7_kind) (maxL := 2) (ret := (some .int)) (by decide) rfl ?_
  intro p e s m args below meth c s₁ B hml hv
  obtain ⟨rfl, hP, hK⟩ := hv
  have hx := B.exec
  have hb := B.bytes
  have hr := B.returns
  have hts := atoms_spec (ws := wsX7_kind) B.pre
  have hown : s.vm.findClass RX7 = some m.cls := findClass_of_methodNamed B.named
  have hlocks := B.notSynchronized
  have hP : va_P (dC, dI) vwCl [(xo_7_rrrrrrrrrii x ro ta no ac im tr pl cs ak xf xg), (xo_3_iiiiiiiirrrrr no nv0 nv1 nv2 nv3 (nI nhh) nv5 (nI nww) (nI nkk) nb1 nb2 nb3 nb4 nb5), (xI nb1 cI 6 ng1), (xI nb2 cI 6 ng2), (xI nb3 cI 6 ng3), (xI nb4 cI 6 ng4), (xI nb5 cI 6 ng5)] s.heap := hP
  have hl := lv_entry ([.ref x, .int k0]) (n := 2) (Nat.le_of_ble_eq_true rfl)
  rw [lg_entry_eq]
  generalize (lg_sl ([.ref x, .int k0]) ++ List.replicate (2 - (lg_sl ([.ref x, .int k0])).length) Slot.unset).toArray = ls at hl ⊢
  have hl : lv_has ls 2 [(0, .ref x), (1, .int k0)] := hl
  refine lv_aload_n hx hb dX7_kind_0 rfl (lv_at hl 0 rfl) ?_
  refine va_get (D := (dC, dI)) (ci := 7) (v := .ref no) (C := RX7) (T := TX7) (N := 11) hx hb hts i_X7_kind_X7 hown hK hP 0 rfl rfl 2 (by decide) (hts _ mx_X7_kind_1) (fun _ h9 => h9) rfl dX7_kind_1 ?_
  refine lv_iload_n hx hb dX7_kind_4 rfl (lv_at hl 1 rfl) ?_
  have hPc_1 := hP.sub (ws' := [(xo_3_iiiiiiiirrrrr no nv0 nv1 nv2 nv3 (nI nhh) nv5 (nI nww) (nI nkk) nb1 nb2 nb3 nb4 nb5), (xI nb1 cI 6 ng1), (xI nb2 cI 6 ng2), (xI nb3 cI 6 ng3), (xI nb4 cI 6 ng4), (xI nb5 cI 6 ng5)]) [1, 2, 3, 4, 5, 6] rfl
  refine vp_callSi (W.runV (As := [.int k0]) (rest := []) ⟨hx, hb, hml, hown, hts⟩ (r_X3_hasSound l dC dI cI cZ cL cJ no nv0 nv1 nv2 nv3 nv5 nhh nww nkk nb1 nb2 nb3 nb4 nb5 ng1 ng2 ng3 ng4 ng5 k0 (by omega) (nwb) (nkb)) (cwV 1 hts gX7_kind_X3_hasSound rfl rfl rfl (by decide +kernel) ⟨Nat.le_of_ble_eq_true rfl, Nat.le_of_ble_eq_true rfl⟩) (pvP 3 1 hK hP rfl rfl hPc_1) rfl rfl hl.1 rfl (lv_room (Nat.le_of_ble_eq_true rfl)) dX7_kind_5 ⟨Nat.le_of_ble_eq_true rfl, Nat.le_of_ble_eq_true rfl⟩) (fun r_1 h_1 => ?_)
  rcases h_1 with ⟨h_1, f_1_0_0⟩ | ⟨h_1, f_1_1_0⟩
  · subst h_1
    refine lv_if_eq (tgt := 23) hx hb dX7_kind_8 (by decide) (fun _ => ?_) (fun c_ => absurd (by decide) c_)
    refine lv_ldc (own := RX7) (v := (-1000001)) hx hb hown (hts _ mx_X7_kind_3) dX7_kind_23 ?_
    exact W.iret (v := (-1000001)) hx hb hr (fun t ht hW => ⟨(-1000001), rfl, (lf_X7_kind_1 nhb nwb nkb hLv f_1_0_0), ht⟩) (fun _ h => by cases h) dX7_kind_25
  · subst h_1
    obtain ⟨j_1, hj_1, rfl⟩ := vp_in_of f_1_1_0 (by omega)
    refine lv_if_eq (tgt := 23) hx hb dX7_kind_8 (by decide) (fun c_ => absurd c_ (by decide)) (fun _ => ?_)
    refine lv_aload_n hx hb dX7_kind_11 rfl (lv_at hl 0 rfl) ?_
    refine va_get (D := (dC, dI)) (ci := 7) (v := .ref no) (C := RX7) (T := TX7) (N := 11) hx hb hts i_X7_kind_X7 hown hK hP 0 rfl rfl 2 (by decide) (hts _ mx_X7_kind_1) (fun _ h9 => h9) rfl dX7_kind_12 ?_
    refine va_get (D := (dC, dI)) (ci := 3) (v := .ref nb2) (C := RX3) (T := TX3) (N := 13) hx hb hts i_X7_kind_X3 hown hK hP 1 rfl rfl 9 (by decide) (hts _ mx_X7_kind_2) (fun _ h9 => h9) rfl dX7_kind_15 ?_
    refine lv_iload_n hx hb dX7_kind_18 rfl (lv_at hl 1 rfl) ?_
    refine va_iald hx hb hK hP 3 0 rfl rfl (vp_in_nI (by omega) (by omega)) dX7_kind_19 ?_
    refine lv_topi (fun v_5 e_5 => ?_)
    have e_5 : v_5 = ng2 j_1 := e_5.trans (congrArg ng2 (nI_clamp (by omega)))
    refine lv_goto (tgt := 25) hx hb dX7_kind_20 (by decide) ?_
    exact W.iret (v := v_5) hx hb hr (fun t ht hW => ⟨v_5, rfl, (lf_X7_kind_2 nhb nwb nkb hLv hj_1 e_5), ht⟩) (fun _ h => by cases h) dX7_kind_25
theorem lf_X7_stand_1 {nv0 : Int32} {nv1 : Int32} {nv2 : Int32} {nv3 : Int32} {nv5 : Int32} {nhh : Nat} {nww : Nat} {nkk : Nat} {ng1 : Nat → Int32} {ng2 : Nat → Int32} {ng3 : Nat → Int32} {ng4 : Nat → Int32} {ng5 : Nat → Int32} {k0 : Int32} (nhb : nhh ≤ 999) (nwb : nww ≤ 6) (nkb : nkk ≤ 6) (hLv : okLv (nrm nv0 nv1 nv2 nv3 nhh nv5 nww nkk ng1 ng2 ng3 ng4 ng5)) (f_1_0_0 : ¬ 0 < nv0) : (-1000002) = (a_stand (nrm nv0 nv1 nv2 nv3 nhh nv5 nww nkk ng1 ng2 ng3 ng4 ng5) k0) := by
  obtain ⟨t0, t1⟩ := tX hLv nwb nkb (by omega)
  simp only [a_stand, nr0, nr1, nr2, nr3, nr4, nr5, nr6, nr7] at *
  grind [nI_clamp, nrg1, nrg2, nrg3, nrg4, nrg5, sB_ok, th_nrm, gu_nrm, df_eq, dfX, tlX, nI_pos, n60]
theorem lf_X7_stand_2 {nv0 : Int32} {nv1 : Int32} {nv2 : Int32} {nv3 : Int32} {nv5 : Int32} {nhh : Nat} {nww : Nat} {nkk : Nat} {ng1 : Nat → Int32} {ng2 : Nat → Int32} {ng3 : Nat → Int32} {ng4 : Nat → Int32} {ng5 : Nat → Int32} (nhb : nhh ≤ 999) (nwb : nww ≤ 6) (nkb : nkk ≤ 6) (hLv : okLv (nrm nv0 nv1 nv2 nv3 nhh nv5 nww nkk ng1 ng2 ng3 ng4 ng5)) (f_1_1_0 : 0 < nv0) : nv0 = (a_stand (nrm nv0 nv1 nv2 nv3 nhh nv5 nww nkk ng1 ng2 ng3 ng4 ng5) (0 : Int32)) := by
  obtain ⟨t0, t1⟩ := tX hLv nwb nkb (by omega)
  simp only [a_stand, nr0, nr1, nr2, nr3, nr4, nr5, nr6, nr7] at *
  grind [nI_clamp, nrg1, nrg2, nrg3, nrg4, nrg5, sB_ok, th_nrm, gu_nrm, df_eq, dfX, tlX, nI_pos, n60]
theorem lf_X7_stand_3 {nv0 : Int32} {nv1 : Int32} {nv2 : Int32} {nv3 : Int32} {nv5 : Int32} {nhh : Nat} {nww : Nat} {nkk : Nat} {ng1 : Nat → Int32} {ng2 : Nat → Int32} {ng3 : Nat → Int32} {ng4 : Nat → Int32} {ng5 : Nat → Int32} (nhb : nhh ≤ 999) (nwb : nww ≤ 6) (nkb : nkk ≤ 6) (hLv : okLv (nrm nv0 nv1 nv2 nv3 nhh nv5 nww nkk ng1 ng2 ng3 ng4 ng5)) (f_1_1_0 : 0 < nv0) (k_4 : ¬ (1 : Int32) = 0) : nv1 = (a_stand (nrm nv0 nv1 nv2 nv3 nhh nv5 nww nkk ng1 ng2 ng3 ng4 ng5) (1 : Int32)) := by
  obtain ⟨t0, t1⟩ := tX hLv nwb nkb (by omega)
  simp only [a_stand, nr0, nr1, nr2, nr3, nr4, nr5, nr6, nr7] at *
  grind [nI_clamp, nrg1, nrg2, nrg3, nrg4, nrg5, sB_ok, th_nrm, gu_nrm, df_eq, dfX, tlX, nI_pos, n60]
theorem lf_X7_stand_4 {nv0 : Int32} {nv1 : Int32} {nv2 : Int32} {nv3 : Int32} {nv5 : Int32} {nhh : Nat} {nww : Nat} {nkk : Nat} {ng1 : Nat → Int32} {ng2 : Nat → Int32} {ng3 : Nat → Int32} {ng4 : Nat → Int32} {ng5 : Nat → Int32} (nhb : nhh ≤ 999) (nwb : nww ≤ 6) (nkb : nkk ≤ 6) (hLv : okLv (nrm nv0 nv1 nv2 nv3 nhh nv5 nww nkk ng1 ng2 ng3 ng4 ng5)) (f_1_1_0 : 0 < nv0) (k_4 : ¬ (2 : Int32) = 0) (k_5 : ¬ (2 : Int32) = 1) : nv2 = (a_stand (nrm nv0 nv1 nv2 nv3 nhh nv5 nww nkk ng1 ng2 ng3 ng4 ng5) (2 : Int32)) := by
  obtain ⟨t0, t1⟩ := tX hLv nwb nkb (by omega)
  simp only [a_stand, nr0, nr1, nr2, nr3, nr4, nr5, nr6, nr7] at *
  grind [nI_clamp, nrg1, nrg2, nrg3, nrg4, nrg5, sB_ok, th_nrm, gu_nrm, df_eq, dfX, tlX, nI_pos, n60]
theorem lf_X7_stand_5 {nv0 : Int32} {nv1 : Int32} {nv2 : Int32} {nv3 : Int32} {nv5 : Int32} {nhh : Nat} {nww : Nat} {nkk : Nat} {ng1 : Nat → Int32} {ng2 : Nat → Int32} {ng3 : Nat → Int32} {ng4 : Nat → Int32} {ng5 : Nat → Int32} (nhb : nhh ≤ 999) (nwb : nww ≤ 6) (nkb : nkk ≤ 6) (hLv : okLv (nrm nv0 nv1 nv2 nv3 nhh nv5 nww nkk ng1 ng2 ng3 ng4 ng5)) (f_1_1_0 : 0 < nv0) (k_4 : ¬ (3 : Int32) = 0) (k_5 : ¬ (3 : Int32) = 1) (k_6 : ¬ (3 : Int32) = 2) : nv3 = (a_stand (nrm nv0 nv1 nv2 nv3 nhh nv5 nww nkk ng1 ng2 ng3 ng4 ng5) (3 : Int32)) := by
  obtain ⟨t0, t1⟩ := tX hLv nwb nkb (by omega)
  simp only [a_stand, nr0, nr1, nr2, nr3, nr4, nr5, nr6, nr7] at *
  grind [nI_clamp, nrg1, nrg2, nrg3, nrg4, nrg5, sB_ok, th_nrm, gu_nrm, df_eq, dfX, tlX, nI_pos, n60]
theorem lf_X7_stand_6 {nv0 : Int32} {nv1 : Int32} {nv2 : Int32} {nv3 : Int32} {nv5 : Int32} {nhh : Nat} {nww : Nat} {nkk : Nat} {ng1 : Nat → Int32} {ng2 : Nat → Int32} {ng3 : Nat → Int32} {ng4 : Nat → Int32} {ng5 : Nat → Int32} {r_9 : Int32} (nhb : nhh ≤ 999) (nwb : nww ≤ 6) (nkb : nkk ≤ 6) (hLv : okLv (nrm nv0 nv1 nv2 nv3 nhh nv5 nww nkk ng1 ng2 ng3 ng4 ng5)) (f_1_1_0 : 0 < nv0) (k_4 : ¬ (4 : Int32) = 0) (k_5 : ¬ (4 : Int32) = 1) (k_6 : ¬ (4 : Int32) = 2) (k_7 : ¬ (4 : Int32) = 3) (h_9 : r_9 = (thR ng5 0 nkk)) : r_9 = (a_stand (nrm nv0 nv1 nv2 nv3 nhh nv5 nww nkk ng1 ng2 ng3 ng4 ng5) (4 : Int32)) := by
  obtain ⟨t0, t1⟩ := tX hLv nwb nkb (by omega)
  simp only [a_stand, nr0, nr1, nr2, nr3, nr4, nr5, nr6, nr7] at *
  grind [nI_clamp, nrg1, nrg2, nrg3, nrg4, nrg5, sB_ok, th_nrm, gu_nrm, df_eq, dfX, tlX, nI_pos, n60]
theorem lf_X7_stand_7 {nv0 : Int32} {nv1 : Int32} {nv2 : Int32} {nv3 : Int32} {nv5 : Int32} {nhh : Nat} {nww : Nat} {nkk : Nat} {ng1 : Nat → Int32} {ng2 : Nat → Int32} {ng3 : Nat → Int32} {ng4 : Nat → Int32} {ng5 : Nat → Int32} {r_11 : Int32} (nhb : nhh ≤ 999) (nwb : nww ≤ 6) (nkb : nkk ≤ 6) (hLv : okLv (nrm nv0 nv1 nv2 nv3 nhh nv5 nww nkk ng1 ng2 ng3 ng4 ng5)) (f_1_1_0 : 0 < nv0) (k_4 : ¬ (5 : Int32) = 0) (k_5 : ¬ (5 : Int32) = 1) (k_6 : ¬ (5 : Int32) = 2) (k_7 : ¬ (5 : Int32) = 3) (k_8 : ¬ (5 : Int32) = 4) (h_11 : r_11 = (thR ng5 1 nkk)) : r_11 = (a_stand (nrm nv0 nv1 nv2 nv3 nhh nv5 nww nkk ng1 ng2 ng3 ng4 ng5) (5 : Int32)) := by
  obtain ⟨t0, t1⟩ := tX hLv nwb nkb (by omega)
  simp only [a_stand, nr0, nr1, nr2, nr3, nr4, nr5, nr6, nr7] at *
  grind [nI_clamp, nrg1, nrg2, nrg3, nrg4, nrg5, sB_ok, th_nrm, gu_nrm, df_eq, dfX, tlX, nI_pos, n60]
theorem lf_X7_stand_8 {nv0 : Int32} {nv1 : Int32} {nv2 : Int32} {nv3 : Int32} {nv5 : Int32} {nhh : Nat} {nww : Nat} {nkk : Nat} {ng1 : Nat → Int32} {ng2 : Nat → Int32} {ng3 : Nat → Int32} {ng4 : Nat → Int32} {ng5 : Nat → Int32} {r_13 : Int32} (nhb : nhh ≤ 999) (nwb : nww ≤ 6) (nkb : nkk ≤ 6) (hLv : okLv (nrm nv0 nv1 nv2 nv3 nhh nv5 nww nkk ng1 ng2 ng3 ng4 ng5)) (f_1_1_0 : 0 < nv0) (k_4 : ¬ (6 : Int32) = 0) (k_5 : ¬ (6 : Int32) = 1) (k_6 : ¬ (6 : Int32) = 2) (k_7 : ¬ (6 : Int32) = 3) (k_8 : ¬ (6 : Int32) = 4) (k_10 : ¬ (6 : Int32) = 5) (h_13 : r_13 = (thR ng5 2 nkk)) : r_13 = (a_stand (nrm nv0 nv1 nv2 nv3 nhh nv5 nww nkk ng1 ng2 ng3 ng4 ng5) (6 : Int32)) := by
  obtain ⟨t0, t1⟩ := tX hLv nwb nkb (by omega)
  simp only [a_stand, nr0, nr1, nr2, nr3, nr4, nr5, nr6, nr7] at *
  grind [nI_clamp, nrg1, nrg2, nrg3, nrg4, nrg5, sB_ok, th_nrm, gu_nrm, df_eq, dfX, tlX, nI_pos, n60]
theorem lf_X7_stand_9 {nv0 : Int32} {nv1 : Int32} {nv2 : Int32} {nv3 : Int32} {nv5 : Int32} {nhh : Nat} {nww : Nat} {nkk : Nat} {ng1 : Nat → Int32} {ng2 : Nat → Int32} {ng3 : Nat → Int32} {ng4 : Nat → Int32} {ng5 : Nat → Int32} {k0 : Int32} (nhb : nhh ≤ 999) (nwb : nww ≤ 6) (nkb : nkk ≤ 6) (hLv : okLv (nrm nv0 nv1 nv2 nv3 nhh nv5 nww nkk ng1 ng2 ng3 ng4 ng5)) (f_1_1_0 : 0 < nv0) (k_4 : ¬ k0 = 0) (k_5 : ¬ k0 = 1) (k_6 : ¬ k0 = 2) (k_7 : ¬ k0 = 3) (k_8 : ¬ k0 = 4) (k_10 : ¬ k0 = 5) (k_12 : ¬ k0 = 6) : (-1000001) = (a_stand (nrm nv0 nv1 nv2 nv3 nhh nv5 nww nkk ng1 ng2 ng3 ng4 ng5) k0) := by
  obtain ⟨t0, t1⟩ := tX hLv nwb nkb (by omega)
  simp only [a_stand, nr0, nr1, nr2, nr3, nr4, nr5, nr6, nr7] at *
  grind [nI_clamp, nrg1, nrg2, nrg3, nrg4, nrg5, sB_ok, th_nrm, gu_nrm, df_eq, dfX, tlX, nI_pos, n60]
set_option maxHeartbeats 4000000 in
set_option maxRecDepth 100000 in
theorem r_X7_stand (l : Launch) (dC : Nat → ClassId) (dI : Nat → Nat → Nat) (cI cZ cL cJ : ClassId) (x : Nat) (ro : Nat) (ta : Nat) (no : Nat) (ac : Nat) (im : Nat) (tr : Nat) (pl : Nat) (cs : Nat) (ak : Nat) (xf : Int32) (xg : Int32) (nv0 : Int32) (nv1 : Int32) (nv2 : Int32) (nv3 : Int32) (nv5 : Int32) (nhh : Nat) (nww : Nat) (nkk : Nat) (nb1 : Nat) (nb2 : Nat) (nb3 : Nat) (nb4 : Nat) (nb5 : Nat) (ng1 : Nat → Int32) (ng2 : Nat → Int32) (ng3 : Nat → Int32) (ng4 : Nat → Int32) (ng5 : Nat → Int32) (k0 : Int32) (nhb : nhh ≤ 999) (nwb : nww ≤ 6) (nkb : nkk ≤ 6) (hLv : okLv (nrm nv0 nv1 nv2 nv3 nhh nv5 nww nkk ng1 ng2 ng3 ng4 ng5)) : Met l yX7_stand wsX7_stand ({ frames := 1, cells := 0, slots := 0, locals := 23 }) (va_Pc [.ref x, .int k0] (fun U => va_P (dC, dI) vwCl [(xo_7_rrrrrrrrrii x ro ta no ac im tr pl cs ak xf xg), (xo_3_iiiiiiiirrrrr no nv0 nv1 nv2 nv3 (nI nhh) nv5 (nI nww) (nI nkk) nb1 nb2 nb3 nb4 nb5), (xI nb1 cI 6 ng1), (xI nb2 cI 6 ng2), (xI nb3 cI 6 ng3), (xI nb4 cI 6 ng4), (xI nb5 cI 6 ng5)] U.heap ∧ va_K (dC, dI) vwCl [(cI, .int), (cZ, .boolean), (cL, .object RX3), (cJ, .array .int)] U)) (vp_Si (fun r => r = (a_stand (nrm nv0 nv1 nv2 nv3 nhh nv5 nww nkk ng1 ng2 ng3 ng4 ng5) k0))) 0 0 (fun _ => False) := by
  refine Met.ofW (cc := cX7_stand) (maxL := 2) (ret := (some .int)) (by decide) rfl ?_
  intro p e s m args below meth c s₁ B hml hv
  obtain ⟨rfl, hP, hK⟩ := hv
  have hx := B.exec
  have hb := B.bytes
  have hr := B.returns
  have hts := atoms_spec (ws := wsX7_stand) B.pre
  have hown : s.vm.findClass RX7 = some m.cls := findClass_of_methodNamed B.named
  have hlocks := B.notSynchronized
  have hP : va_P (dC, dI) vwCl [(xo_7_rrrrrrrrrii x ro ta no ac im tr pl cs ak xf xg), (xo_3_iiiiiiiirrrrr no nv0 nv1 nv2 nv3 (nI nhh) nv5 (nI nww) (nI nkk) nb1 nb2 nb3 nb4 nb5), (xI nb1 cI 6 ng1), (xI nb2 cI 6 ng2), (xI nb3 cI 6 ng3), (xI nb4 cI 6 ng4), (xI nb5 cI 6 ng5)] s.heap := hP
  have hl := lv_entry ([.ref x, .int k0]) (n := 2) (Nat.le_of_ble_eq_true rfl)
  rw [lg_entry_eq]
  generalize (lg_sl ([.ref x, .int k0]) ++ List.replicate (2 - (lg_sl ([.ref x, .int k0])).length) Slot.unset).toArray = ls at hl ⊢
  have hl : lv_has ls 2 [(0, .ref x), (1, .int k0)] := hl
  refine lv_aload_n hx hb dX7_stand_0 rfl (lv_at hl 0 rfl) ?_
  refine va_get (D := (dC, dI)) (ci := 7) (v := .ref no) (C := RX7) (T := TX7) (N := 11) hx hb hts i_X7_stand_X7 hown hK hP 0 rfl rfl 2 (by decide) (hts _ mx_X7_stand_1) (fun _ h9 => h9) rfl dX7_stand_1 ?_
  have hPc_1 := hP.sub (ws' := [(xo_3_iiiiiiiirrrrr no nv0 nv1 nv2 nv3 (nI nhh) nv5 (nI nww) (nI nkk) nb1 nb2 nb3 nb4 nb5), (xI nb1 cI 6 ng1), (xI nb2 cI 6 ng2), (xI nb3 cI 6 ng3), (xI nb4 cI 6 ng4), (xI nb5 cI 6 ng5)]) [1, 2, 3, 4, 5, 6] rfl
  refine vp_callSi (W.runV (As := []) (rest := []) ⟨hx, hb, hml, hown, hts⟩ (r_X3_isTold l dC dI cI cZ cL cJ no nv0 nv1 nv2 nv3 nv5 nhh nww nkk nb1 nb2 nb3 nb4 nb5 ng1 ng2 ng3 ng4 ng5 (by omega) (nwb) (nkb)) (cwV 0 hts gX7_stand_X3_isTold rfl rfl rfl (by decide +kernel) ⟨Nat.le_of_ble_eq_true rfl, Nat.le_of_ble_eq_true rfl⟩) (pvP 3 1 hK hP rfl rfl hPc_1) rfl rfl hl.1 rfl (lv_room (Nat.le_of_ble_eq_true rfl)) dX7_stand_4 ⟨Nat.le_of_ble_eq_true rfl, Nat.le_of_ble_eq_true rfl⟩) (fun r_1 h_1 => ?_)
  rcases h_1 with ⟨h_1, f_1_0_0⟩ | ⟨h_1, f_1_1_0⟩
  · subst h_1
    refine lv_if_ne (tgt := 13) hx hb dX7_stand_7 (by decide) (fun c_ => absurd (by decide) c_) (fun _ => ?_)
    refine lv_ldc (own := RX7) (v := (-1000002)) hx hb hown (hts _ mx_X7_stand_2) dX7_stand_10 ?_
    exact W.iret (v := (-1000002)) hx hb hr (fun t ht hW => ⟨(-1000002), rfl, (lf_X7_stand_1 nhb nwb nkb hLv f_1_0_0), ht⟩) (fun _ h => by cases h) dX7_stand_12
  · subst h_1
    refine lv_if_ne (tgt := 13) hx hb dX7_stand_7 (by decide) (fun _ => ?_) (fun c_ => absurd c_ (by decide))
    refine lv_iload_n hx hb dX7_stand_13 rfl (lv_at hl 1 rfl) ?_
    by_cases k_4 : k0 = 0
    · subst k_4
      refine lv_tableIn (off := 42) (tgt := 56) hx hb dX7_stand_14 (by decide) (by decide) (by decide) (by decide) ?_
      refine lv_aload_n hx hb dX7_stand_56 rfl (lv_at hl 0 rfl) ?_
      refine va_get (D := (dC, dI)) (ci := 7) (v := .ref no) (C := RX7) (T := TX7) (N := 11) hx hb hts i_X7_stand_X7 hown hK hP 0 rfl rfl 2 (by decide) (hts _ mx_X7_stand_1) (fun _ h9 => h9) rfl dX7_stand_57 ?_
      refine va_get (D := (dC, dI)) (ci := 3) (v := .int nv0) (C := RX3) (T := TX3) (N := 13) hx hb hts i_X7_stand_X3 hown hK hP 1 rfl rfl 0 (by decide) (hts _ mx_X7_stand_3) (fun _ h9 => h9) rfl dX7_stand_60 ?_
      exact W.iret (v := nv0) hx hb hr (fun t ht hW => ⟨nv0, rfl, (lf_X7_stand_2 nhb nwb nkb hLv f_1_1_0), ht⟩) (fun _ h => by cases h) dX7_stand_63
    by_cases k_5 : k0 = 1
    · subst k_5
      refine lv_tableIn (off := 50) (tgt := 64) hx hb dX7_stand_14 (by decide) (by decide) (by decide) (by decide) ?_
      refine lv_aload_n hx hb dX7_stand_64 rfl (lv_at hl 0 rfl) ?_
      refine va_get (D := (dC, dI)) (ci := 7) (v := .ref no) (C := RX7) (T := TX7) (N := 11) hx hb hts i_X7_stand_X7 hown hK hP 0 rfl rfl 2 (by decide) (hts _ mx_X7_stand_1) (fun _ h9 => h9) rfl dX7_stand_65 ?_
      refine va_get (D := (dC, dI)) (ci := 3) (v := .int nv1) (C := RX3) (T := TX3) (N := 13) hx hb hts i_X7_stand_X3 hown hK hP 1 rfl rfl 1 (by decide) (hts _ mx_X7_stand_4) (fun _ h9 => h9) rfl dX7_stand_68 ?_
      exact W.iret (v := nv1) hx hb hr (fun t ht hW => ⟨nv1, rfl, (lf_X7_stand_3 nhb nwb nkb hLv f_1_1_0 k_4), ht⟩) (fun _ h => by cases h) dX7_stand_71
    by_cases k_6 : k0 = 2
    · subst k_6
      refine lv_tableIn (off := 58) (tgt := 72) hx hb dX7_stand_14 (by decide) (by decide) (by decide) (by decide) ?_
      refine lv_aload_n hx hb dX7_stand_72 rfl (lv_at hl 0 rfl) ?_
      refine va_get (D := (dC, dI)) (ci := 7) (v := .ref no) (C := RX7) (T := TX7) (N := 11) hx hb hts i_X7_stand_X7 hown hK hP 0 rfl rfl 2 (by decide) (hts _ mx_X7_stand_1) (fun _ h9 => h9) rfl dX7_stand_73 ?_
      refine va_get (D := (dC, dI)) (ci := 3) (v := .int nv2) (C := RX3) (T := TX3) (N := 13) hx hb hts i_X7_stand_X3 hown hK hP 1 rfl rfl 2 (by decide) (hts _ mx_X7_stand_5) (fun _ h9 => h9) rfl dX7_stand_76 ?_
      exact W.iret (v := nv2) hx hb hr (fun t ht hW => ⟨nv2, rfl, (lf_X7_stand_4 nhb nwb nkb hLv f_1_1_0 k_4 k_5), ht⟩) (fun _ h => by cases h) dX7_stand_79
    by_cases k_7 : k0 = 3
    · subst k_7
      refine lv_tableIn (off := 66) (tgt := 80) hx hb dX7_stand_14 (by decide) (by decide) (by decide) (by decide) ?_
      refine lv_aload_n hx hb dX7_stand_80 rfl (lv_at hl 0 rfl) ?_
      refine va_get (D := (dC, dI)) (ci := 7) (v := .ref no) (C := RX7) (T := TX7) (N := 11) hx hb hts i_X7_stand_X7 hown hK hP 0 rfl rfl 2 (by decide) (hts _ mx_X7_stand_1) (fun _ h9 => h9) rfl dX7_stand_81 ?_
      refine va_get (D := (dC, dI)) (ci := 3) (v := .int nv3) (C := RX3) (T := TX3) (N := 13) hx hb hts i_X7_stand_X3 hown hK hP 1 rfl rfl 3 (by decide) (hts _ mx_X7_stand_6) (fun _ h9 => h9) rfl dX7_stand_84 ?_
      exact W.iret (v := nv3) hx hb hr (fun t ht hW => ⟨nv3, rfl, (lf_X7_stand_5 nhb nwb nkb hLv f_1_1_0 k_4 k_5 k_6), ht⟩) (fun _ h => by cases h) dX7_stand_87
    by_cases k_8 : k0 = 4
    · subst k_8
      refine lv_tableIn (off := 74) (tgt := 88) hx hb dX7_stand_14 (by decide) (by decide) (by decide) (by decide) ?_
      refine lv_aload_n hx hb dX7_stand_88 rfl (lv_at hl 0 rfl) ?_
      refine va_get (D := (dC, dI)) (ci := 7) (v := .ref no) (C := RX7) (T := TX7) (N := 11) hx hb hts i_X7_stand_X7 hown hK hP 0 rfl rfl 2 (by decide) (hts _ mx_X7_stand_1) (fun _ h9 => h9) rfl dX7_stand_89 ?_
      refine lv_iconst (v := 0) hx hb dX7_stand_92 (by decide) ?_
      have hPc_9 := hP.sub (ws' := [(xo_3_iiiiiiiirrrrr no nv0 nv1 nv2 nv3 (nI nhh) nv5 (nI nww) (nI nkk) nb1 nb2 nb3 nb4 nb5), (xI nb1 cI 6 ng1), (xI nb2 cI 6 ng2), (xI nb3 cI 6 ng3), (xI nb4 cI 6 ng4), (xI nb5 cI 6 ng5)]) [1, 2, 3, 4, 5, 6] rfl
      refine vp_callSi (W.runV (As := [.int 0]) (rest := []) ⟨hx, hb, hml, hown, hts⟩ (r_X3_soundsThatAre l dC dI cI cZ cL cJ no nv0 nv1 nv2 nv3 nv5 nhh nww nkk nb1 nb2 nb3 nb4 nb5 ng1 ng2 ng3 ng4 ng5 0 (by omega) (nwb) (nkb)) (cwV 1 hts gX7_stand_X3_soundsThatAre rfl rfl rfl (by decide +kernel) ⟨Nat.le_of_ble_eq_true rfl, Nat.le_of_ble_eq_true rfl⟩) (pvP 3 1 hK hP rfl rfl hPc_9) rfl rfl hl.1 rfl (lv_room (Nat.le_of_ble_eq_true rfl)) dX7_stand_93 ⟨Nat.le_of_ble_eq_true rfl, Nat.le_of_ble_eq_true rfl⟩) (fun r_9 h_9 => ?_)
      exact W.iret (v := r_9) hx hb hr (fun t ht hW => ⟨r_9, rfl, (lf_X7_stand_6 nhb nwb nkb hLv f_1_1_0 k_4 k_5 k_6 k_7 h_9), ht⟩) (fun _ h => by cases h) dX7_stand_96
    by_cases k_10 : k0 = 5
    · subst k_10
      refine lv_tableIn (off := 83) (tgt := 97) hx hb dX7_stand_14 (by decide) (by decide) (by decide) (by decide) ?_
      refine lv_aload_n hx hb dX7_stand_97 rfl (lv_at hl 0 rfl) ?_
      refine va_get (D := (dC, dI)) (ci := 7) (v := .ref no) (C := RX7) (T := TX7) (N := 11) hx hb hts i_X7_stand_X7 hown hK hP 0 rfl rfl 2 (by decide) (hts _ mx_X7_stand_1) (fun _ h9 => h9) rfl dX7_stand_98 ?_
      refine lv_iconst (v := 1) hx hb dX7_stand_101 (by decide) ?_
      have hPc_11 := hP.sub (ws' := [(xo_3_iiiiiiiirrrrr no nv0 nv1 nv2 nv3 (nI nhh) nv5 (nI nww) (nI nkk) nb1 nb2 nb3 nb4 nb5), (xI nb1 cI 6 ng1), (xI nb2 cI 6 ng2), (xI nb3 cI 6 ng3), (xI nb4 cI 6 ng4), (xI nb5 cI 6 ng5)]) [1, 2, 3, 4, 5, 6] rfl
      refine vp_callSi (W.runV (As := [.int 1]) (rest := []) ⟨hx, hb, hml, hown, hts⟩ (r_X3_soundsThatAre l dC dI cI cZ cL cJ no nv0 nv1 nv2 nv3 nv5 nhh nww nkk nb1 nb2 nb3 nb4 nb5 ng1 ng2 ng3 ng4 ng5 1 (by omega) (nwb) (nkb)) (cwV 1 hts gX7_stand_X3_soundsThatAre rfl rfl rfl (by decide +kernel) ⟨Nat.le_of_ble_eq_true rfl, Nat.le_of_ble_eq_true rfl⟩) (pvP 3 1 hK hP rfl rfl hPc_11) rfl rfl hl.1 rfl (lv_room (Nat.le_of_ble_eq_true rfl)) dX7_stand_102 ⟨Nat.le_of_ble_eq_true rfl, Nat.le_of_ble_eq_true rfl⟩) (fun r_11 h_11 => ?_)
      exact W.iret (v := r_11) hx hb hr (fun t ht hW => ⟨r_11, rfl, (lf_X7_stand_7 nhb nwb nkb hLv f_1_1_0 k_4 k_5 k_6 k_7 k_8 h_11), ht⟩) (fun _ h => by cases h) dX7_stand_105
    by_cases k_12 : k0 = 6
    · subst k_12
      refine lv_tableIn (off := 92) (tgt := 106) hx hb dX7_stand_14 (by decide) (by decide) (by decide) (by decide) ?_
      refine lv_aload_n hx hb dX7_stand_106 rfl (lv_at hl 0 rfl) ?_
      refine va_get (D := (dC, dI)) (ci := 7) (v := .ref no) (C := RX7) (T := TX7) (N := 11) hx hb hts i_X7_stand_X7 hown hK hP 0 rfl rfl 2 (by decide) (hts _ mx_X7_stand_1) (fun _ h9 => h9) rfl dX7_stand_107 ?_
      refine lv_iconst (v := 2) hx hb dX7_stand_110 (by decide) ?_
      have hPc_13 := hP.sub (ws' := [(xo_3_iiiiiiiirrrrr no nv0 nv1 nv2 nv3 (nI nhh) nv5 (nI nww) (nI nkk) nb1 nb2 nb3 nb4 nb5), (xI nb1 cI 6 ng1), (xI nb2 cI 6 ng2), (xI nb3 cI 6 ng3), (xI nb4 cI 6 ng4), (xI nb5 cI 6 ng5)]) [1, 2, 3, 4, 5, 6] rfl
      refine vp_callSi (W.runV (As := [.int 2]) (rest := []) ⟨hx, hb, hml, hown, hts⟩ (r_X3_soundsThatAre l dC dI cI cZ cL cJ no nv0 nv1 nv2 nv3 nv5 nhh nww nkk nb1 nb2 nb3 nb4 nb5 ng1 ng2 ng3 ng4 ng5 2 (by omega) (nwb) (nkb)) (cwV 1 hts gX7_stand_X3_soundsThatAre rfl rfl rfl (by decide +kernel) ⟨Nat.le_of_ble_eq_true rfl, Nat.le_of_ble_eq_true rfl⟩) (pvP 3 1 hK hP rfl rfl hPc_13) rfl rfl hl.1 rfl (lv_room (Nat.le_of_ble_eq_true rfl)) dX7_stand_111 ⟨Nat.le_of_ble_eq_true rfl, Nat.le_of_ble_eq_true rfl⟩) (fun r_13 h_13 => ?_)
      exact W.iret (v := r_13) hx hb hr (fun t ht hW => ⟨r_13, rfl, (lf_X7_stand_8 nhb nwb nkb hLv f_1_1_0 k_4 k_5 k_6 k_7 k_8 k_10 h_13), ht⟩) (fun _ h => by cases h) dX7_stand_114
    have kT_4 := lv_neT k_4 (show (0 : Int32).toInt = 0 from rfl)
    have kT_5 := lv_neT k_5 (show (1 : Int32).toInt = 1 from rfl)
    have kT_6 := lv_neT k_6 (show (2 : Int32).toInt = 2 from rfl)
    have kT_7 := lv_neT k_7 (show (3 : Int32).toInt = 3 from rfl)
    have kT_8 := lv_neT k_8 (show (4 : Int32).toInt = 4 from rfl)
    have kT_10 := lv_neT k_10 (show (5 : Int32).toInt = 5 from rfl)
    have kT_12 := lv_neT k_12 (show (6 : Int32).toInt = 6 from rfl)
    refine lv_tableOut (tgt := 115) hx hb dX7_stand_14 (by omega) (by decide) ?_
    refine lv_ldc (own := RX7) (v := (-1000001)) hx hb hown (hts _ mx_X7_stand_7) dX7_stand_115 ?_
    exact W.iret (v := (-1000001)) hx hb hr (fun t ht hW => ⟨(-1000001), rfl, (lf_X7_stand_9 nhb nwb nkb hLv f_1_1_0 k_4 k_5 k_6 k_7 k_8 k_10 k_12), ht⟩) (fun _ h => by cases h) dX7_stand_117
theorem lf_X7_gust_1 {nv0 : Int32} {nv1 : Int32} {nv2 : Int32} {nv3 : Int32} {nv5 : Int32} {nhh : Nat} {nww : Nat} {nkk : Nat} {ng1 : Nat → Int32} {ng2 : Nat → Int32} {ng3 : Nat → Int32} {ng4 : Nat → Int32} {ng5 : Nat → Int32} {k0 : Int32} (nhb : nhh ≤ 999) (nwb : nww ≤ 6) (nkb : nkk ≤ 6) (hLv : okLv (nrm nv0 nv1 nv2 nv3 nhh nv5 nww nkk ng1 ng2 ng3 ng4 ng5)) (f_1_0_0 : ¬ 0 < nv0) : (-1000002) = (a_gust (nrm nv0 nv1 nv2 nv3 nhh nv5 nww nkk ng1 ng2 ng3 ng4 ng5) k0) := by
  obtain ⟨t0, t1⟩ := tX hLv nwb nkb (by omega)
  simp only [a_gust, nr0, nr1, nr2, nr3, nr4, nr5, nr6, nr7] at *
  grind [nI_clamp, nrg1, nrg2, nrg3, nrg4, nrg5, sB_ok, th_nrm, gu_nrm, df_eq, dfX, tlX, nI_pos, n60]
theorem lf_X7_gust_2 {nv0 : Int32} {nv1 : Int32} {nv2 : Int32} {nv3 : Int32} {nv5 : Int32} {nhh : Nat} {nww : Nat} {nkk : Nat} {ng1 : Nat → Int32} {ng2 : Nat → Int32} {ng3 : Nat → Int32} {ng4 : Nat → Int32} {ng5 : Nat → Int32} {k0 : Int32} (nhb : nhh ≤ 999) (nwb : nww ≤ 6) (nkb : nkk ≤ 6) (hLv : okLv (nrm nv0 nv1 nv2 nv3 nhh nv5 nww nkk ng1 ng2 ng3 ng4 ng5)) (f_1_1_0 : 0 < nv0) (f_4_0_0 : (k0 < 0 ∨ 60 < k0)) : (-1000001) = (a_gust (nrm nv0 nv1 nv2 nv3 nhh nv5 nww nkk ng1 ng2 ng3 ng4 ng5) k0) := by
  obtain ⟨t0, t1⟩ := tX hLv nwb nkb (by omega)
  simp only [a_gust, nr0, nr1, nr2, nr3, nr4, nr5, nr6, nr7] at *
  grind [nI_clamp, nrg1, nrg2, nrg3, nrg4, nrg5, sB_ok, th_nrm, gu_nrm, df_eq, dfX, tlX, nI_pos, n60]
theorem lf_X7_gust_3 {nv0 : Int32} {nv1 : Int32} {nv2 : Int32} {nv3 : Int32} {nv5 : Int32} {nhh : Nat} {nww : Nat} {nkk : Nat} {ng1 : Nat → Int32} {ng2 : Nat → Int32} {ng3 : Nat → Int32} {ng4 : Nat → Int32} {ng5 : Nat → Int32} {j_4 : Nat} {r_8 : Int32} (nhb : nhh ≤ 999) (nwb : nww ≤ 6) (nkb : nkk ≤ 6) (hLv : okLv (nrm nv0 nv1 nv2 nv3 nhh nv5 nww nkk ng1 ng2 ng3 ng4 ng5)) (f_1_1_0 : 0 < nv0) (hj_4 : j_4 < 61) (h_8 : r_8 = (wdX ng1 nww nhh j_4)) : r_8 = (a_gust (nrm nv0 nv1 nv2 nv3 nhh nv5 nww nkk ng1 ng2 ng3 ng4 ng5) (nI j_4)) := by
  obtain ⟨t0, t1⟩ := tX hLv nwb nkb (by omega)
  simp only [a_gust, nr0, nr1, nr2, nr3, nr4, nr5, nr6, nr7] at *
  grind [nI_clamp, nrg1, nrg2, nrg3, nrg4, nrg5, sB_ok, th_nrm, gu_nrm, df_eq, dfX, tlX, nI_pos, n60]
set_option maxHeartbeats 4000000 in
set_option maxRecDepth 100000 in
theorem r_X7_gust (l : Launch) (dC : Nat → ClassId) (dI : Nat → Nat → Nat) (cI cZ cL cJ : ClassId) (x : Nat) (ro : Nat) (ta : Nat) (no : Nat) (ac : Nat) (im : Nat) (tr : Nat) (pl : Nat) (cs : Nat) (ak : Nat) (xf : Int32) (xg : Int32) (nv0 : Int32) (nv1 : Int32) (nv2 : Int32) (nv3 : Int32) (nv5 : Int32) (nhh : Nat) (nww : Nat) (nkk : Nat) (nb1 : Nat) (nb2 : Nat) (nb3 : Nat) (nb4 : Nat) (nb5 : Nat) (ng1 : Nat → Int32) (ng2 : Nat → Int32) (ng3 : Nat → Int32) (ng4 : Nat → Int32) (ng5 : Nat → Int32) (k0 : Int32) (nhb : nhh ≤ 999) (nwb : nww ≤ 6) (nkb : nkk ≤ 6) (hLv : okLv (nrm nv0 nv1 nv2 nv3 nhh nv5 nww nkk ng1 ng2 ng3 ng4 ng5)) : Met l yX7_gust wsX7_gust ({ frames := 1, cells := 0, slots := 0, locals := 21 }) (va_Pc [.ref x, .int k0] (fun U => va_P (dC, dI) vwCl [(xo_7_rrrrrrrrrii x ro ta no ac im tr pl cs ak xf xg), (xo_3_iiiiiiiirrrrr no nv0 nv1 nv2 nv3 (nI nhh) nv5 (nI nww) (nI nkk) nb1 nb2 nb3 nb4 nb5), (xI nb1 cI 6 ng1), (xI nb2 cI 6 ng2), (xI nb3 cI 6 ng3), (xI nb4 cI 6 ng4), (xI nb5 cI 6 ng5)] U.heap ∧ va_K (dC, dI) vwCl [(cI, .int), (cZ, .boolean), (cL, .object RX3), (cJ, .array .int)] U)) (vp_Si (fun r => r = (a_gust (nrm nv0 nv1 nv2 nv3 nhh nv5 nww nkk ng1 ng2 ng3 ng4 ng5) k0))) 0 0 (fun _ => False) := by
  refine Met.ofW (cc := cX7_gust) (maxL := 2) (ret := (some .int)) (by decide) rfl ?_
  intro p e s m args below meth c s₁ B hml hv
  obtain ⟨rfl, hP, hK⟩ := hv
  have hx := B.exec
  have hb := B.bytes
  have hr := B.returns
  have hts := atoms_spec (ws := wsX7_gust) B.pre
  have hown : s.vm.findClass RX7 = some m.cls := findClass_of_methodNamed B.named
  have hlocks := B.notSynchronized
  have hP : va_P (dC, dI) vwCl [(xo_7_rrrrrrrrrii x ro ta no ac im tr pl cs ak xf xg), (xo_3_iiiiiiiirrrrr no nv0 nv1 nv2 nv3 (nI nhh) nv5 (nI nww) (nI nkk) nb1 nb2 nb3 nb4 nb5), (xI nb1 cI 6 ng1), (xI nb2 cI 6 ng2), (xI nb3 cI 6 ng3), (xI nb4 cI 6 ng4), (xI nb5 cI 6 ng5)] s.heap := hP
  have hl := lv_entry ([.ref x, .int k0]) (n := 2) (Nat.le_of_ble_eq_true rfl)
  rw [lg_entry_eq]
  generalize (lg_sl ([.ref x, .int k0]) ++ List.replicate (2 - (lg_sl ([.ref x, .int k0])).length) Slot.unset).toArray = ls at hl ⊢
  have hl : lv_has ls 2 [(0, .ref x), (1, .int k0)] := hl
  refine lv_aload_n hx hb dX7_gust_0 rfl (lv_at hl 0 rfl) ?_
  refine va_get (D := (dC, dI)) (ci := 7) (v := .ref no) (C := RX7) (T := TX7) (N := 11) hx hb hts i_X7_gust_X7 hown hK hP 0 rfl rfl 2 (by decide) (hts _ mx_X7_gust_1) (fun _ h9 => h9) rfl dX7_gust_1 ?_
  have hPc_1 := hP.sub (ws' := [(xo_3_iiiiiiiirrrrr no nv0 nv1 nv2 nv3 (nI nhh) nv5 (nI nww) (nI nkk) nb1 nb2 nb3 nb4 nb5), (xI nb1 cI 6 ng1), (xI nb2 cI 6 ng2), (xI nb3 cI 6 ng3), (xI nb4 cI 6 ng4), (xI nb5 cI 6 ng5)]) [1, 2, 3, 4, 5, 6] rfl
  refine vp_callSi (W.runV (As := []) (rest := []) ⟨hx, hb, hml, hown, hts⟩ (r_X3_isTold l dC dI cI cZ cL cJ no nv0 nv1 nv2 nv3 nv5 nhh nww nkk nb1 nb2 nb3 nb4 nb5 ng1 ng2 ng3 ng4 ng5 (by omega) (nwb) (nkb)) (cwV 0 hts gX7_gust_X3_isTold rfl rfl rfl (by decide +kernel) ⟨Nat.le_of_ble_eq_true rfl, Nat.le_of_ble_eq_true rfl⟩) (pvP 3 1 hK hP rfl rfl hPc_1) rfl rfl hl.1 rfl (lv_room (Nat.le_of_ble_eq_true rfl)) dX7_gust_4 ⟨Nat.le_of_ble_eq_true rfl, Nat.le_of_ble_eq_true rfl⟩) (fun r_1 h_1 => ?_)
  rcases h_1 with ⟨h_1, f_1_0_0⟩ | ⟨h_1, f_1_1_0⟩
  · subst h_1
    refine lv_if_ne (tgt := 13) hx hb dX7_gust_7 (by decide) (fun c_ => absurd (by decide) c_) (fun _ => ?_)
    refine lv_ldc (own := RX7) (v := (-1000002)) hx hb hown (hts _ mx_X7_gust_2) dX7_gust_10 ?_
    exact W.iret (v := (-1000002)) hx hb hr (fun t ht hW => ⟨(-1000002), rfl, (lf_X7_gust_1 nhb nwb nkb hLv f_1_0_0), ht⟩) (fun _ h => by cases h) dX7_gust_12
  · subst h_1
    refine lv_if_ne (tgt := 13) hx hb dX7_gust_7 (by decide) (fun _ => ?_) (fun c_ => absurd c_ (by decide))
    refine lv_iload_n hx hb dX7_gust_13 rfl (lv_at hl 1 rfl) ?_
    have hPc_4 := hP.sub (ws' := []) [] rfl
    refine vp_callSi (W.runS (As := [.int k0]) (rest := []) ⟨hx, hb, hml, hown, hts⟩ (r_X7_isForetold l dC dI cI cZ cL cJ k0 ) (va_cwS 1 hts gX7_gust_X7_isForetold rfl rfl rfl (by decide +kernel) ⟨Nat.le_of_ble_eq_true rfl, Nat.le_of_ble_eq_true rfl⟩) (psP hK hPc_4) rfl rfl hl.1 rfl (lv_room (Nat.le_of_ble_eq_true rfl)) dX7_gust_14 ⟨Nat.le_of_ble_eq_true rfl, Nat.le_of_ble_eq_true rfl⟩) (fun r_4 h_4 => ?_)
    rcases h_4 with ⟨h_4, f_4_0_0⟩ | ⟨h_4, f_4_1_0⟩
    · subst h_4
      refine lv_if_eq (tgt := 31) hx hb dX7_gust_17 (by decide) (fun _ => ?_) (fun c_ => absurd (by decide) c_)
      refine lv_ldc (own := RX7) (v := (-1000001)) hx hb hown (hts _ mx_X7_gust_3) dX7_gust_31 ?_
      exact W.iret (v := (-1000001)) hx hb hr (fun t ht hW => ⟨(-1000001), rfl, (lf_X7_gust_2 nhb nwb nkb hLv f_1_1_0 f_4_0_0), ht⟩) (fun _ h => by cases h) dX7_gust_33
    · subst h_4
      obtain ⟨j_4, hj_4, rfl⟩ := vp_in_of f_4_1_0 (by omega)
      refine lv_if_eq (tgt := 31) hx hb dX7_gust_17 (by decide) (fun c_ => absurd c_ (by decide)) (fun _ => ?_)
      refine lv_aload_n hx hb dX7_gust_20 rfl (lv_at hl 0 rfl) ?_
      refine va_get (D := (dC, dI)) (ci := 7) (v := .ref no) (C := RX7) (T := TX7) (N := 11) hx hb hts i_X7_gust_X7 hown hK hP 0 rfl rfl 2 (by decide) (hts _ mx_X7_gust_1) (fun _ h9 => h9) rfl dX7_gust_21 ?_
      refine lv_iload_n hx hb dX7_gust_24 rfl (lv_at hl 1 rfl) ?_
      have hPc_8 := hP.sub (ws' := [(xo_3_iiiiiiiirrrrr no nv0 nv1 nv2 nv3 (nI nhh) nv5 (nI nww) (nI nkk) nb1 nb2 nb3 nb4 nb5), (xI nb1 cI 6 ng1), (xI nb2 cI 6 ng2), (xI nb3 cI 6 ng3), (xI nb4 cI 6 ng4), (xI nb5 cI 6 ng5)]) [1, 2, 3, 4, 5, 6] rfl
      refine vp_callSi (W.runV (As := [.int (nI j_4)]) (rest := []) ⟨hx, hb, hml, hown, hts⟩ (r_X3_windOn l dC dI cI cZ cL cJ no nv0 nv1 nv2 nv3 nv5 nhh nww nkk nb1 nb2 nb3 nb4 nb5 ng1 ng2 ng3 ng4 ng5 j_4 (by omega) (nwb) (nkb) (by omega)) (cwV 1 hts gX7_gust_X3_windOn rfl rfl rfl (by decide +kernel) ⟨Nat.le_of_ble_eq_true rfl, Nat.le_of_ble_eq_true rfl⟩) (pvP 3 1 hK hP rfl rfl hPc_8) rfl rfl hl.1 rfl (lv_room (Nat.le_of_ble_eq_true rfl)) dX7_gust_25 ⟨Nat.le_of_ble_eq_true rfl, Nat.le_of_ble_eq_true rfl⟩) (fun r_8 h_8 => ?_)
      refine lv_goto (tgt := 33) hx hb dX7_gust_28 (by decide) ?_
      exact W.iret (v := r_8) hx hb hr (fun t ht hW => ⟨r_8, rfl, (lf_X7_gust_3 nhb nwb nkb hLv f_1_1_0 hj_4 h_8), ht⟩) (fun _ h => by cases h) dX7_gust_33
theorem lf_X7_sound_1 {nv0 : Int32} {nv1 : Int32} {nv2 : Int32} {nv3 : Int32} {nv5 : Int32} {nhh : Nat} {nww : Nat} {nkk : Nat} {ng1 : Nat → Int32} {ng2 : Nat → Int32} {ng3 : Nat → Int32} {ng4 : Nat → Int32} {ng5 : Nat → Int32} {k0 : Int32} {k1 : Int32} (nhb : nhh ≤ 999) (nwb : nww ≤ 6) (nkb : nkk ≤ 6) (hLv : okLv (nrm nv0 nv1 nv2 nv3 nhh nv5 nww nkk ng1 ng2 ng3 ng4 ng5)) (f_1_0_0 : (k0 < 0 ∨ (nI nkk) ≤ k0)) : (-1000001) = (a_sound (nrm nv0 nv1 nv2 nv3 nhh nv5 nww nkk ng1 ng2 ng3 ng4 ng5) k0 k1) := by
  obtain ⟨t0, t1⟩ := tX hLv nwb nkb (by omega)
  simp only [a_sound, nr0, nr1, nr2, nr3, nr4, nr5, nr6, nr7] at *
  grind [nI_clamp, nrg1, nrg2, nrg3, nrg4, nrg5, sB_ok, th_nrm, gu_nrm, df_eq, dfX, tlX, nI_pos, n60]
theorem lf_X7_sound_2 {nv0 : Int32} {nv1 : Int32} {nv2 : Int32} {nv3 : Int32} {nv5 : Int32} {nhh : Nat} {nww : Nat} {nkk : Nat} {ng1 : Nat → Int32} {ng2 : Nat → Int32} {ng3 : Nat → Int32} {ng4 : Nat → Int32} {ng5 : Nat → Int32} {k1 : Int32} {j_1 : Nat} (nhb : nhh ≤ 999) (nwb : nww ≤ 6) (nkb : nkk ≤ 6) (hLv : okLv (nrm nv0 nv1 nv2 nv3 nhh nv5 nww nkk ng1 ng2 ng3 ng4 ng5)) (hj_1 : j_1 < nkk) (c_5 : k1 < 0) : (-1000001) = (a_sound (nrm nv0 nv1 nv2 nv3 nhh nv5 nww nkk ng1 ng2 ng3 ng4 ng5) (nI j_1) k1) := by
  obtain ⟨t0, t1⟩ := tX hLv nwb nkb (by omega)
  simp only [a_sound, nr0, nr1, nr2, nr3, nr4, nr5, nr6, nr7] at *
  grind [nI_clamp, nrg1, nrg2, nrg3, nrg4, nrg5, sB_ok, th_nrm, gu_nrm, df_eq, dfX, tlX, nI_pos, n60]
theorem lf_X7_sound_3 {nv0 : Int32} {nv1 : Int32} {nv2 : Int32} {nv3 : Int32} {nv5 : Int32} {nhh : Nat} {nww : Nat} {nkk : Nat} {ng1 : Nat → Int32} {ng2 : Nat → Int32} {ng3 : Nat → Int32} {ng4 : Nat → Int32} {ng5 : Nat → Int32} {k1 : Int32} {j_1 : Nat} {r_8 : Int32} (nhb : nhh ≤ 999) (nwb : nww ≤ 6) (nkb : nkk ≤ 6) (hLv : okLv (nrm nv0 nv1 nv2 nv3 nhh nv5 nww nkk ng1 ng2 ng3 ng4 ng5)) (hj_1 : j_1 < nkk) (c_5 : ¬ (k1 < 0)) (c_6 : k1 ≤ 3) (c_7 : ¬ (k1 = 3)) (h_8 : r_8 = (tlX ng3 ng4 ng5 j_1 k1)) : r_8 = (a_sound (nrm nv0 nv1 nv2 nv3 nhh nv5 nww nkk ng1 ng2 ng3 ng4 ng5) (nI j_1) k1) := by
  obtain ⟨t0, t1⟩ := tX hLv nwb nkb (by omega)
  simp only [a_sound, nr0, nr1, nr2, nr3, nr4, nr5, nr6, nr7] at *
  grind [nI_clamp, nrg1, nrg2, nrg3, nrg4, nrg5, sB_ok, th_nrm, gu_nrm, df_eq, dfX, tlX, nI_pos, n60]
theorem lf_X7_sound_4 {nv0 : Int32} {nv1 : Int32} {nv2 : Int32} {nv3 : Int32} {nv5 : Int32} {nhh : Nat} {nww : Nat} {nkk : Nat} {ng1 : Nat → Int32} {ng2 : Nat → Int32} {ng3 : Nat → Int32} {ng4 : Nat → Int32} {ng5 : Nat → Int32} {k1 : Int32} {j_1 : Nat} {r_9 : Int32} {r_10 : Int32} (nhb : nhh ≤ 999) (nwb : nww ≤ 6) (nkb : nkk ≤ 6) (hLv : okLv (nrm nv0 nv1 nv2 nv3 nhh nv5 nww nkk ng1 ng2 ng3 ng4 ng5)) (hj_1 : j_1 < nkk) (c_5 : ¬ (k1 < 0)) (c_6 : k1 ≤ 3) (c_7 : k1 = 3) (h_9 : r_9 = (wdX ng1 nww nhh 0)) (h_10 : r_10 = (dfX (ng2 j_1) (r_9 - 2))) : r_10 = (a_sound (nrm nv0 nv1 nv2 nv3 nhh nv5 nww nkk ng1 ng2 ng3 ng4 ng5) (nI j_1) k1) := by
  obtain ⟨t0, t1⟩ := tX hLv nwb nkb (by omega)
  simp only [a_sound, nr0, nr1, nr2, nr3, nr4, nr5, nr6, nr7] at *
  grind [nI_clamp, nrg1, nrg2, nrg3, nrg4, nrg5, sB_ok, th_nrm, gu_nrm, df_eq, dfX, tlX, nI_pos, n60]
theorem lf_X7_sound_5 {nv0 : Int32} {nv1 : Int32} {nv2 : Int32} {nv3 : Int32} {nv5 : Int32} {nhh : Nat} {nww : Nat} {nkk : Nat} {ng1 : Nat → Int32} {ng2 : Nat → Int32} {ng3 : Nat → Int32} {ng4 : Nat → Int32} {ng5 : Nat → Int32} {k1 : Int32} {j_1 : Nat} (nhb : nhh ≤ 999) (nwb : nww ≤ 6) (nkb : nkk ≤ 6) (hLv : okLv (nrm nv0 nv1 nv2 nv3 nhh nv5 nww nkk ng1 ng2 ng3 ng4 ng5)) (hj_1 : j_1 < nkk) (c_5 : ¬ (k1 < 0)) (c_6 : ¬ (k1 ≤ 3)) : (-1000001) = (a_sound (nrm nv0 nv1 nv2 nv3 nhh nv5 nww nkk ng1 ng2 ng3 ng4 ng5) (nI j_1) k1) := by
  obtain ⟨t0, t1⟩ := tX hLv nwb nkb (by omega)
  simp only [a_sound, nr0, nr1, nr2, nr3, nr4, nr5, nr6, nr7] at *
  grind [nI_clamp, nrg1, nrg2, nrg3, nrg4, nrg5, sB_ok, th_nrm, gu_nrm, df_eq, dfX, tlX, nI_pos, n60]
set_option maxHeartbeats 4000000 in
set_option maxRecDepth 100000 in
theorem r_X7_sound (l : Launch) (dC : Nat → ClassId) (dI : Nat → Nat → Nat) (cI cZ cL cJ : ClassId) (x : Nat) (ro : Nat) (ta : Nat) (no : Nat) (ac : Nat) (im : Nat) (tr : Nat) (pl : Nat) (cs : Nat) (ak : Nat) (xf : Int32) (xg : Int32) (nv0 : Int32) (nv1 : Int32) (nv2 : Int32) (nv3 : Int32) (nv5 : Int32) (nhh : Nat) (nww : Nat) (nkk : Nat) (nb1 : Nat) (nb2 : Nat) (nb3 : Nat) (nb4 : Nat) (nb5 : Nat) (ng1 : Nat → Int32) (ng2 : Nat → Int32) (ng3 : Nat → Int32) (ng4 : Nat → Int32) (ng5 : Nat → Int32) (k0 : Int32) (k1 : Int32) (nhb : nhh ≤ 999) (nwb : nww ≤ 6) (nkb : nkk ≤ 6) (hLv : okLv (nrm nv0 nv1 nv2 nv3 nhh nv5 nww nkk ng1 ng2 ng3 ng4 ng5)) : Met l yX7_sound wsX7_sound ({ frames := 2, cells := 0, slots := 0, locals := 43 }) (va_Pc [.ref x, .int k0, .int k1] (fun U => va_P (dC, dI) vwCl [(xo_7_rrrrrrrrrii x ro ta no ac im tr pl cs ak xf xg), (xo_3_iiiiiiiirrrrr no nv0 nv1 nv2 nv3 (nI nhh) nv5 (nI nww) (nI nkk) nb1 nb2 nb3 nb4 nb5), (xI nb1 cI 6 ng1), (xI nb2 cI 6 ng2), (xI nb3 cI 6 ng3), (xI nb4 cI 6 ng4), (xI nb5 cI 6 ng5)] U.heap ∧ va_K (dC, dI) vwCl [(cI, .int), (cZ, .boolean), (cL, .object RX3), (cJ, .array .int)] U)) (vp_Si (fun r => r = (a_sound (nrm nv0 nv1 nv2 nv3 nhh nv5 nww nkk ng1 ng2 ng3 ng4 ng5) k0 k1))) 0 0 (fun _ => False) := by
  refine Met.ofW (cc := cX7_sound) (maxL := 3) (ret := (some .int)) (by decide) rfl ?_
  intro p e s m args below meth c s₁ B hml hv
  obtain ⟨rfl, hP, hK⟩ := hv
  have hx := B.exec
  have hb := B.bytes
  have hr := B.returns
  have hts := atoms_spec (ws := wsX7_sound) B.pre
  have hown : s.vm.findClass RX7 = some m.cls := findClass_of_methodNamed B.named
  have hlocks := B.notSynchronized
  have hP : va_P (dC, dI) vwCl [(xo_7_rrrrrrrrrii x ro ta no ac im tr pl cs ak xf xg), (xo_3_iiiiiiiirrrrr no nv0 nv1 nv2 nv3 (nI nhh) nv5 (nI nww) (nI nkk) nb1 nb2 nb3 nb4 nb5), (xI nb1 cI 6 ng1), (xI nb2 cI 6 ng2), (xI nb3 cI 6 ng3), (xI nb4 cI 6 ng4), (xI nb5 cI 6 ng5)] s.heap := hP
  have hl := lv_entry ([.ref x, .int k0, .int k1]) (n := 3) (Nat.le_of_ble_eq_true rfl)
  rw [lg_entry_eq]
  generalize (lg_sl ([.ref x, .int k0, .int k1]) ++ List.replicate (3 - (lg_sl ([.ref x, .int k0, .int k1])).length) Slot.unset).toArray = ls at hl ⊢
  have hl : lv_has ls 3 [(0, .ref x), (1, .int k0), (2, .int k1)] := hl
  refine lv_aload_n hx hb dX7_sound_0 rfl (lv_at hl 0 rfl) ?_
  refine va_get (D := (dC, dI)) (ci := 7) (v := .ref no) (C := RX7) (T := TX7) (N := 11) hx hb hts i_X7_sound_X7 hown hK hP 0 rfl rfl 2 (by decide) (hts _ mx_X7_sound_1) (fun _ h9 => h9) rfl dX7_sound_1 ?_
  refine lv_iload_n hx hb dX7_sound_4 rfl (lv_at hl 1 rfl) ?_
  have hPc_1 := hP.sub (ws' := [(xo_3_iiiiiiiirrrrr no nv0 nv1 nv2 nv3 (nI nhh) nv5 (nI nww) (nI nkk) nb1 nb2 nb3 nb4 nb5), (xI nb1 cI 6 ng1), (xI nb2 cI 6 ng2), (xI nb3 cI 6 ng3), (xI nb4 cI 6 ng4), (xI nb5 cI 6 ng5)]) [1, 2, 3, 4, 5, 6] rfl
  refine vp_callSi (W.runV (As := [.int k0]) (rest := []) ⟨hx, hb, hml, hown, hts⟩ (r_X3_hasSound l dC dI cI cZ cL cJ no nv0 nv1 nv2 nv3 nv5 nhh nww nkk nb1 nb2 nb3 nb4 nb5 ng1 ng2 ng3 ng4 ng5 k0 (by omega) (nwb) (nkb)) (cwV 1 hts gX7_sound_X3_hasSound rfl rfl rfl (by decide +kernel) ⟨Nat.le_of_ble_eq_true rfl, Nat.le_of_ble_eq_true rfl⟩) (pvP 3 1 hK hP rfl rfl hPc_1) rfl rfl hl.1 rfl (lv_room (Nat.le_of_ble_eq_true rfl)) dX7_sound_5 ⟨Nat.le_of_ble_eq_true rfl, Nat.le_of_ble_eq_true rfl⟩) (fun r_1 h_1 => ?_)
  rcases h_1 with ⟨h_1, f_1_0_0⟩ | ⟨h_1, f_1_1_0⟩
  · subst h_1
    refine lv_if_eq (tgt := 20) hx hb dX7_sound_8 (by decide) (fun _ => ?_) (fun c_ => absurd (by decide) c_)
    refine lv_ldc (own := RX7) (v := (-1000001)) hx hb hown (hts _ mx_X7_sound_2) dX7_sound_20 ?_
    exact W.iret (v := (-1000001)) hx hb hr (fun t ht hW => ⟨(-1000001), rfl, (lf_X7_sound_1 nhb nwb nkb hLv f_1_0_0), ht⟩) (fun _ h => by cases h) dX7_sound_22
  · subst h_1
    obtain ⟨j_1, hj_1, rfl⟩ := vp_in_of f_1_1_0 (by omega)
    refine lv_if_eq (tgt := 20) hx hb dX7_sound_8 (by decide) (fun c_ => absurd c_ (by decide)) (fun _ => ?_)
    refine lv_iload_n hx hb dX7_sound_11 rfl (lv_at hl 2 rfl) ?_
    refine lv_if_lt (tgt := 20) hx hb dX7_sound_12 (by decide) (fun c_5 => ?_) (fun c_5 => ?_)
    · skip
      refine lv_ldc (own := RX7) (v := (-1000001)) hx hb hown (hts _ mx_X7_sound_2) dX7_sound_20 ?_
      exact W.iret (v := (-1000001)) hx hb hr (fun t ht hW => ⟨(-1000001), rfl, (lf_X7_sound_2 nhb nwb nkb hLv hj_1 c_5), ht⟩) (fun _ h => by cases h) dX7_sound_22
    · skip
      refine lv_iload_n hx hb dX7_sound_15 rfl (lv_at hl 2 rfl) ?_
      refine lv_iconst (v := 3) hx hb dX7_sound_16 (by decide) ?_
      refine lv_icmp_le (tgt := 23) hx hb dX7_sound_17 (by decide) (fun c_6 => ?_) (fun c_6 => ?_)
      · skip
        refine lv_iload_n hx hb dX7_sound_23 rfl (lv_at hl 2 rfl) ?_
        refine lv_iconst (v := 3) hx hb dX7_sound_24 (by decide) ?_
        refine lv_icmp_ne (tgt := 47) hx hb dX7_sound_25 (by decide) (fun c_7 => ?_) (fun c_7 => ?_)
        · skip
          refine lv_aload_n hx hb dX7_sound_47 rfl (lv_at hl 0 rfl) ?_
          refine va_get (D := (dC, dI)) (ci := 7) (v := .ref no) (C := RX7) (T := TX7) (N := 11) hx hb hts i_X7_sound_X7 hown hK hP 0 rfl rfl 2 (by decide) (hts _ mx_X7_sound_1) (fun _ h9 => h9) rfl dX7_sound_48 ?_
          refine lv_iload_n hx hb dX7_sound_51 rfl (lv_at hl 1 rfl) ?_
          refine lv_iload_n hx hb dX7_sound_52 rfl (lv_at hl 2 rfl) ?_
          have hPc_8 := hP.sub (ws' := [(xo_3_iiiiiiiirrrrr no nv0 nv1 nv2 nv3 (nI nhh) nv5 (nI nww) (nI nkk) nb1 nb2 nb3 nb4 nb5), (xI nb1 cI 6 ng1), (xI nb2 cI 6 ng2), (xI nb3 cI 6 ng3), (xI nb4 cI 6 ng4), (xI nb5 cI 6 ng5)]) [1, 2, 3, 4, 5, 6] rfl
          refine vp_callSi (W.runV (As := [.int (nI j_1), .int k1]) (rest := []) ⟨hx, hb, hml, hown, hts⟩ (r_X3_tellOf l dC dI cI cZ cL cJ no nv0 nv1 nv2 nv3 nv5 nhh nww nkk nb1 nb2 nb3 nb4 nb5 ng1 ng2 ng3 ng4 ng5 j_1 k1 (by omega) (nwb) (nkb) (by omega)) (cwV 2 hts gX7_sound_X3_tellOf rfl rfl rfl (by decide +kernel) ⟨Nat.le_of_ble_eq_true rfl, Nat.le_of_ble_eq_true rfl⟩) (pvP 3 1 hK hP rfl rfl hPc_8) rfl rfl hl.1 rfl (lv_room (Nat.le_of_ble_eq_true rfl)) dX7_sound_53 ⟨Nat.le_of_ble_eq_true rfl, Nat.le_of_ble_eq_true rfl⟩) (fun r_8 h_8 => ?_)
          exact W.iret (v := r_8) hx hb hr (fun t ht hW => ⟨r_8, rfl, (lf_X7_sound_3 nhb nwb nkb hLv hj_1 c_5 c_6 c_7 h_8), ht⟩) (fun _ h => by cases h) dX7_sound_56
        · skip
          refine lv_aload_n hx hb dX7_sound_28 rfl (lv_at hl 0 rfl) ?_
          refine va_get (D := (dC, dI)) (ci := 7) (v := .ref no) (C := RX7) (T := TX7) (N := 11) hx hb hts i_X7_sound_X7 hown hK hP 0 rfl rfl 2 (by decide) (hts _ mx_X7_sound_1) (fun _ h9 => h9) rfl dX7_sound_29 ?_
          refine lv_iload_n hx hb dX7_sound_32 rfl (lv_at hl 1 rfl) ?_
          refine lv_aload_n hx hb dX7_sound_33 rfl (lv_at hl 0 rfl) ?_
          refine va_get (D := (dC, dI)) (ci := 7) (v := .ref no) (C := RX7) (T := TX7) (N := 11) hx hb hts i_X7_sound_X7 hown hK hP 0 rfl rfl 2 (by decide) (hts _ mx_X7_sound_1) (fun _ h9 => h9) rfl dX7_sound_34 ?_
          refine lv_iconst (v := 0) hx hb dX7_sound_37 (by decide) ?_
          have hPc_9 := hP.sub (ws' := [(xo_3_iiiiiiiirrrrr no nv0 nv1 nv2 nv3 (nI nhh) nv5 (nI nww) (nI nkk) nb1 nb2 nb3 nb4 nb5), (xI nb1 cI 6 ng1), (xI nb2 cI 6 ng2), (xI nb3 cI 6 ng3), (xI nb4 cI 6 ng4), (xI nb5 cI 6 ng5)]) [1, 2, 3, 4, 5, 6] rfl
          refine vp_callSi (W.runV (As := [.int 0]) (rest := [.int (nI j_1), .ref no]) ⟨hx, hb, hml, hown, hts⟩ (r_X3_windOn l dC dI cI cZ cL cJ no nv0 nv1 nv2 nv3 nv5 nhh nww nkk nb1 nb2 nb3 nb4 nb5 ng1 ng2 ng3 ng4 ng5 0 (by omega) (nwb) (nkb) (by omega)) (cwV 1 hts gX7_sound_X3_windOn rfl rfl rfl (by decide +kernel) ⟨Nat.le_of_ble_eq_true rfl, Nat.le_of_ble_eq_true rfl⟩) (pvP 3 1 hK hP rfl rfl hPc_9) rfl rfl hl.1 rfl (lv_room (Nat.le_of_ble_eq_true rfl)) dX7_sound_38 ⟨Nat.le_of_ble_eq_true rfl, Nat.le_of_ble_eq_true rfl⟩) (fun r_9 h_9 => ?_)
          have hPc_10 := hP.sub (ws' := [(xo_3_iiiiiiiirrrrr no nv0 nv1 nv2 nv3 (nI nhh) nv5 (nI nww) (nI nkk) nb1 nb2 nb3 nb4 nb5), (xI nb1 cI 6 ng1), (xI nb2 cI 6 ng2), (xI nb3 cI 6 ng3), (xI nb4 cI 6 ng4), (xI nb5 cI 6 ng5)]) [1, 2, 3, 4, 5, 6] rfl
          refine vp_callSi (W.runV (As := [.int (nI j_1), .int r_9]) (rest := []) ⟨hx, hb, hml, hown, hts⟩ (r_X3_driftOf l dC dI cI cZ cL cJ no nv0 nv1 nv2 nv3 nv5 nhh nww nkk nb1 nb2 nb3 nb4 nb5 ng1 ng2 ng3 ng4 ng5 j_1 r_9 (by omega) (nwb) (nkb) (by omega)) (cwV 2 hts gX7_sound_X3_driftOf rfl rfl rfl (by decide +kernel) ⟨Nat.le_of_ble_eq_true rfl, Nat.le_of_ble_eq_true rfl⟩) (pvP 3 1 hK hP rfl rfl hPc_10) rfl rfl hl.1 rfl (lv_room (Nat.le_of_ble_eq_true rfl)) dX7_sound_41 ⟨Nat.le_of_ble_eq_true rfl, Nat.le_of_ble_eq_true rfl⟩) (fun r_10 h_10 => ?_)
          refine lv_goto (tgt := 56) hx hb dX7_sound_44 (by decide) ?_
          exact W.iret (v := r_10) hx hb hr (fun t ht hW => ⟨r_10, rfl, (lf_X7_sound_4 nhb nwb nkb hLv hj_1 c_5 c_6 c_7 h_9 h_10), ht⟩) (fun _ h => by cases h) dX7_sound_56
      · skip
        refine lv_ldc (own := RX7) (v := (-1000001)) hx hb hown (hts _ mx_X7_sound_2) dX7_sound_20 ?_
        exact W.iret (v := (-1000001)) hx hb hr (fun t ht hW => ⟨(-1000001), rfl, (lf_X7_sound_5 nhb nwb nkb hLv hj_1 c_5 c_6), ht⟩) (fun _ h => by cases h) dX7_sound_22
theorem lf_X7_share_1 {nv0 : Int32} {nv1 : Int32} {nv2 : Int32} {nv3 : Int32} {nv5 : Int32} {nhh : Nat} {nww : Nat} {nkk : Nat} {ng1 : Nat → Int32} {ng2 : Nat → Int32} {ng3 : Nat → Int32} {ng4 : Nat → Int32} {ng5 : Nat → Int32} {k0 : Int32} {k1 : Int32} (nhb : nhh ≤ 999) (nwb : nww ≤ 6) (nkb : nkk ≤ 6) (hLv : okLv (nrm nv0 nv1 nv2 nv3 nhh nv5 nww nkk ng1 ng2 ng3 ng4 ng5)) (f_1_0_0 : (k0 < 0 ∨ (nI nkk) ≤ k0)) : (-1000001) = (a_shr (nrm nv0 nv1 nv2 nv3 nhh nv5 nww nkk ng1 ng2 ng3 ng4 ng5) k0 k1) := by
  exact shr_n (Or.inl (fun q => f_1_0_0.elim q.1 q.2))
theorem lf_X7_share_2 {nv0 : Int32} {nv1 : Int32} {nv2 : Int32} {nv3 : Int32} {nv5 : Int32} {nhh : Nat} {nww : Nat} {nkk : Nat} {ng1 : Nat → Int32} {ng2 : Nat → Int32} {ng3 : Nat → Int32} {ng4 : Nat → Int32} {ng5 : Nat → Int32} {k1 : Int32} {j_1 : Nat} (nhb : nhh ≤ 999) (nwb : nww ≤ 6) (nkb : nkk ≤ 6) (hLv : okLv (nrm nv0 nv1 nv2 nv3 nhh nv5 nww nkk ng1 ng2 ng3 ng4 ng5)) (hj_1 : j_1 < nkk) (c_5 : k1 < 0) : (-1000001) = (a_shr (nrm nv0 nv1 nv2 nv3 nhh nv5 nww nkk ng1 ng2 ng3 ng4 ng5) (nI j_1) k1) := by
  exact shr_n (Or.inr (Or.inl c_5))
theorem lf_X7_share_3 {nv0 : Int32} {nv1 : Int32} {nv2 : Int32} {nv3 : Int32} {nv5 : Int32} {nhh : Nat} {nww : Nat} {nkk : Nat} {ng1 : Nat → Int32} {ng2 : Nat → Int32} {ng3 : Nat → Int32} {ng4 : Nat → Int32} {ng5 : Nat → Int32} {k1 : Int32} {j_1 : Nat} {r_7 : Int32} {r_8 : Int32} (nhb : nhh ≤ 999) (nwb : nww ≤ 6) (nkb : nkk ≤ 6) (hLv : okLv (nrm nv0 nv1 nv2 nv3 nhh nv5 nww nkk ng1 ng2 ng3 ng4 ng5)) (hj_1 : j_1 < nkk) (c_5 : ¬ (k1 < 0)) (c_6 : k1 ≤ 999) (h_7 : r_7 = (thR ng5 0 nkk)) (h_8 : r_8 = (ldR ng4 r_7 nkk)) (f_9_0_0 : ¬ ng5 j_1 = 0) : 0 = (a_shr (nrm nv0 nv1 nv2 nv3 nhh nv5 nww nkk ng1 ng2 ng3 ng4 ng5) (nI j_1) k1) := by
  first
  | exact shr_n (Or.inr (Or.inl c_5))
  | exact shr_n (Or.inr (Or.inr (i_nle.mp c_6)))
  | exact shX_z nkb hj_1 c_5 c_6 f_9_0_0
theorem lf_X7_share_4 {nv0 : Int32} {nv1 : Int32} {nv2 : Int32} {nv3 : Int32} {nv5 : Int32} {nhh : Nat} {nww : Nat} {nkk : Nat} {ng1 : Nat → Int32} {ng2 : Nat → Int32} {ng3 : Nat → Int32} {ng4 : Nat → Int32} {ng5 : Nat → Int32} {k1 : Int32} {j_1 : Nat} {r_7 : Int32} {r_8 : Int32} {w_24 : Int32} {w_25 : Int32} {ii : Nat} (nhb : nhh ≤ 999) (nwb : nww ≤ 6) (nkb : nkk ≤ 6) (hLv : okLv (nrm nv0 nv1 nv2 nv3 nhh nv5 nww nkk ng1 ng2 ng3 ng4 ng5)) (hj_1 : j_1 < nkk) (c_5 : ¬ (k1 < 0)) (c_6 : k1 ≤ 999) (h_7 : r_7 = (thR ng5 0 nkk)) (h_8 : r_8 = (ldR ng4 r_7 nkk)) (f_9_1_0 : ng5 j_1 = 0) (c_12 : 0 < r_8) (hii : ii < nkk) (haf_0 : (shF (nrm nv0 nv1 nv2 nv3 nhh nv5 nww nkk ng1 ng2 ng3 ng4 ng5) k1 (nI j_1) r_8 ii = (w_25, w_24))) (f_40_0_0 : ¬ ng5 ii = 0) : shF (nrm nv0 nv1 nv2 nv3 nhh nv5 nww nkk ng1 ng2 ng3 ng4 ng5) k1 (nI j_1) r_8 (ii + 1) = (w_25, w_24) := by
  exact shX_n nkb hii f_40_0_0 haf_0
theorem lf_X7_share_5 {nv0 : Int32} {nv1 : Int32} {nv2 : Int32} {nv3 : Int32} {nv5 : Int32} {nhh : Nat} {nww : Nat} {nkk : Nat} {ng1 : Nat → Int32} {ng2 : Nat → Int32} {ng3 : Nat → Int32} {ng4 : Nat → Int32} {ng5 : Nat → Int32} {k1 : Int32} {j_1 : Nat} {r_7 : Int32} {r_8 : Int32} {w_24 : Int32} {w_25 : Int32} {ii : Nat} {v_43 : Int32} {v_44 : Int32} {v_45 : Int32} {v_46 : Int32} {v_48 : Int32} (nhb : nhh ≤ 999) (nwb : nww ≤ 6) (nkb : nkk ≤ 6) (hLv : okLv (nrm nv0 nv1 nv2 nv3 nhh nv5 nww nkk ng1 ng2 ng3 ng4 ng5)) (hj_1 : j_1 < nkk) (c_5 : ¬ (k1 < 0)) (c_6 : k1 ≤ 999) (h_7 : r_7 = (thR ng5 0 nkk)) (h_8 : r_8 = (ldR ng4 r_7 nkk)) (f_9_1_0 : ng5 j_1 = 0) (c_12 : 0 < r_8) (hii : ii < nkk) (haf_0 : (shF (nrm nv0 nv1 nv2 nv3 nhh nv5 nww nkk ng1 ng2 ng3 ng4 ng5) k1 (nI j_1) r_8 ii = (w_25, w_24))) (f_40_1_0 : ng5 ii = 0) (e_43 : v_43 = ng4 ii) (e_44 : v_44 = (k1 * v_43)) (e_45 : v_45 = (v_44 / r_8)) (e_46 : v_46 = (w_25 - v_45)) (c_47 : j_1 ≤ ii) (e_48 : v_48 = (w_24 + 0)) : shF (nrm nv0 nv1 nv2 nv3 nhh nv5 nww nkk ng1 ng2 ng3 ng4 ng5) k1 (nI j_1) r_8 (ii + 1) = (v_46, v_48) := by
  exact shX_y nkb hii f_40_1_0 haf_0 e_43 e_44 e_45 e_46 (lt_no (by omega) (by omega) c_47) e_48
theorem lf_X7_share_6 {nv0 : Int32} {nv1 : Int32} {nv2 : Int32} {nv3 : Int32} {nv5 : Int32} {nhh : Nat} {nww : Nat} {nkk : Nat} {ng1 : Nat → Int32} {ng2 : Nat → Int32} {ng3 : Nat → Int32} {ng4 : Nat → Int32} {ng5 : Nat → Int32} {k1 : Int32} {j_1 : Nat} {r_7 : Int32} {r_8 : Int32} {w_24 : Int32} {w_25 : Int32} {ii : Nat} {v_43 : Int32} {v_44 : Int32} {v_45 : Int32} {v_46 : Int32} {v_49 : Int32} (nhb : nhh ≤ 999) (nwb : nww ≤ 6) (nkb : nkk ≤ 6) (hLv : okLv (nrm nv0 nv1 nv2 nv3 nhh nv5 nww nkk ng1 ng2 ng3 ng4 ng5)) (hj_1 : j_1 < nkk) (c_5 : ¬ (k1 < 0)) (c_6 : k1 ≤ 999) (h_7 : r_7 = (thR ng5 0 nkk)) (h_8 : r_8 = (ldR ng4 r_7 nkk)) (f_9_1_0 : ng5 j_1 = 0) (c_12 : 0 < r_8) (hii : ii < nkk) (haf_0 : (shF (nrm nv0 nv1 nv2 nv3 nhh nv5 nww nkk ng1 ng2 ng3 ng4 ng5) k1 (nI j_1) r_8 ii = (w_25, w_24))) (f_40_1_0 : ng5 ii = 0) (e_43 : v_43 = ng4 ii) (e_44 : v_44 = (k1 * v_43)) (e_45 : v_45 = (v_44 / r_8)) (e_46 : v_46 = (w_25 - v_45)) (c_47 : ¬ (j_1 ≤ ii)) (e_49 : v_49 = (w_24 + 1)) : shF (nrm nv0 nv1 nv2 nv3 nhh nv5 nww nkk ng1 ng2 ng3 ng4 ng5) k1 (nI j_1) r_8 (ii + 1) = (v_46, v_49) := by
  exact shX_y nkb hii f_40_1_0 haf_0 e_43 e_44 e_45 e_46 (lt_ye (by omega) (by omega) c_47) e_49
theorem lf_X7_share_7 {nv0 : Int32} {nv1 : Int32} {nv2 : Int32} {nv3 : Int32} {nv5 : Int32} {nhh : Nat} {nww : Nat} {nkk : Nat} {ng1 : Nat → Int32} {ng2 : Nat → Int32} {ng3 : Nat → Int32} {ng4 : Nat → Int32} {ng5 : Nat → Int32} {k1 : Int32} {j_1 : Nat} {r_7 : Int32} {r_8 : Int32} {w_24 : Int32} {w_25 : Int32} {v_51 : Int32} {v_52 : Int32} {v_53 : Int32} {v_55 : Int32} (nhb : nhh ≤ 999) (nwb : nww ≤ 6) (nkb : nkk ≤ 6) (hLv : okLv (nrm nv0 nv1 nv2 nv3 nhh nv5 nww nkk ng1 ng2 ng3 ng4 ng5)) (hj_1 : j_1 < nkk) (c_5 : ¬ (k1 < 0)) (c_6 : k1 ≤ 999) (h_7 : r_7 = (thR ng5 0 nkk)) (h_8 : r_8 = (ldR ng4 r_7 nkk)) (f_9_1_0 : ng5 j_1 = 0) (c_12 : 0 < r_8) (haf_0 : (shF (nrm nv0 nv1 nv2 nv3 nhh nv5 nww nkk ng1 ng2 ng3 ng4 ng5) k1 (nI j_1) r_8 nkk = (w_25, w_24))) (e_51 : v_51 = ng4 j_1) (e_52 : v_52 = (k1 * v_51)) (e_53 : v_53 = (v_52 / r_8)) (c_54 : w_25 ≤ w_24) (e_55 : v_55 = (v_53 + 0)) : v_55 = (a_shr (nrm nv0 nv1 nv2 nv3 nhh nv5 nww nkk ng1 ng2 ng3 ng4 ng5) (nI j_1) k1) := by
  first
  | exact shr_n (Or.inr (Or.inl c_5))
  | exact shr_n (Or.inr (Or.inr (i_nle.mp c_6)))
  | exact shX_a nkb hj_1 c_5 c_6 h_7 h_8 c_12
  | exact shX_e nkb hj_1 c_5 c_6 h_7 h_8 f_9_1_0 c_12 haf_0 e_51 e_52 e_53 (if_neg (i_nlt.mpr c_54)) e_55
theorem lf_X7_share_8 {nv0 : Int32} {nv1 : Int32} {nv2 : Int32} {nv3 : Int32} {nv5 : Int32} {nhh : Nat} {nww : Nat} {nkk : Nat} {ng1 : Nat → Int32} {ng2 : Nat → Int32} {ng3 : Nat → Int32} {ng4 : Nat → Int32} {ng5 : Nat → Int32} {k1 : Int32} {j_1 : Nat} {r_7 : Int32} {r_8 : Int32} {w_24 : Int32} {w_25 : Int32} {v_51 : Int32} {v_52 : Int32} {v_53 : Int32} {v_56 : Int32} (nhb : nhh ≤ 999) (nwb : nww ≤ 6) (nkb : nkk ≤ 6) (hLv : okLv (nrm nv0 nv1 nv2 nv3 nhh nv5 nww nkk ng1 ng2 ng3 ng4 ng5)) (hj_1 : j_1 < nkk) (c_5 : ¬ (k1 < 0)) (c_6 : k1 ≤ 999) (h_7 : r_7 = (thR ng5 0 nkk)) (h_8 : r_8 = (ldR ng4 r_7 nkk)) (f_9_1_0 : ng5 j_1 = 0) (c_12 : 0 < r_8) (haf_0 : (shF (nrm nv0 nv1 nv2 nv3 nhh nv5 nww nkk ng1 ng2 ng3 ng4 ng5) k1 (nI j_1) r_8 nkk = (w_25, w_24))) (e_51 : v_51 = ng4 j_1) (e_52 : v_52 = (k1 * v_51)) (e_53 : v_53 = (v_52 / r_8)) (c_54 : ¬ (w_25 ≤ w_24)) (e_56 : v_56 = (v_53 + 1)) : v_56 = (a_shr (nrm nv0 nv1 nv2 nv3 nhh nv5 nww nkk ng1 ng2 ng3 ng4 ng5) (nI j_1) k1) := by
  first
  | exact shr_n (Or.inr (Or.inl c_5))
  | exact shr_n (Or.inr (Or.inr (i_nle.mp c_6)))
  | exact shX_a nkb hj_1 c_5 c_6 h_7 h_8 c_12
  | exact shX_e nkb hj_1 c_5 c_6 h_7 h_8 f_9_1_0 c_12 haf_0 e_51 e_52 e_53 (if_pos (i_nle.mp c_54)) e_56
theorem lf_X7_share_9 {nv0 : Int32} {nv1 : Int32} {nv2 : Int32} {nv3 : Int32} {nv5 : Int32} {nhh : Nat} {nww : Nat} {nkk : Nat} {ng1 : Nat → Int32} {ng2 : Nat → Int32} {ng3 : Nat → Int32} {ng4 : Nat → Int32} {ng5 : Nat → Int32} {k1 : Int32} {j_1 : Nat} {r_7 : Int32} {r_8 : Int32} (nhb : nhh ≤ 999) (nwb : nww ≤ 6) (nkb : nkk ≤ 6) (hLv : okLv (nrm nv0 nv1 nv2 nv3 nhh nv5 nww nkk ng1 ng2 ng3 ng4 ng5)) (hj_1 : j_1 < nkk) (c_5 : ¬ (k1 < 0)) (c_6 : k1 ≤ 999) (h_7 : r_7 = (thR ng5 0 nkk)) (h_8 : r_8 = (ldR ng4 r_7 nkk)) (f_9_1_0 : ng5 j_1 = 0) (c_12 : ¬ (0 < r_8)) : 0 = (a_shr (nrm nv0 nv1 nv2 nv3 nhh nv5 nww nkk ng1 ng2 ng3 ng4 ng5) (nI j_1) k1) := by
  first
  | exact shr_n (Or.inr (Or.inl c_5))
  | exact shr_n (Or.inr (Or.inr (i_nle.mp c_6)))
  | exact shX_a nkb hj_1 c_5 c_6 h_7 h_8 c_12
theorem lf_X7_share_10 {nv0 : Int32} {nv1 : Int32} {nv2 : Int32} {nv3 : Int32} {nv5 : Int32} {nhh : Nat} {nww : Nat} {nkk : Nat} {ng1 : Nat → Int32} {ng2 : Nat → Int32} {ng3 : Nat → Int32} {ng4 : Nat → Int32} {ng5 : Nat → Int32} {k1 : Int32} {j_1 : Nat} (nhb : nhh ≤ 999) (nwb : nww ≤ 6) (nkb : nkk ≤ 6) (hLv : okLv (nrm nv0 nv1 nv2 nv3 nhh nv5 nww nkk ng1 ng2 ng3 ng4 ng5)) (hj_1 : j_1 < nkk) (c_5 : ¬ (k1 < 0)) (c_6 : ¬ (k1 ≤ 999)) : (-1000001) = (a_shr (nrm nv0 nv1 nv2 nv3 nhh nv5 nww nkk ng1 ng2 ng3 ng4 ng5) (nI j_1) k1) := by
  first
  | exact shr_n (Or.inr (Or.inl c_5))
  | exact shr_n (Or.inr (Or.inr (i_nle.mp c_6)))
set_option maxHeartbeats 4000000 in
set_option maxRecDepth 100000 in
theorem r_X7_share (l : Launch) (dC : Nat → ClassId) (dI : Nat → Nat → Nat) (cI cZ cL cJ : ClassId) (x : Nat) (ro : Nat) (ta : Nat) (no : Nat) (ac : Nat) (im : Nat) (tr : Nat) (pl : Nat) (cs : Nat) (ak : Nat) (xf : Int32) (xg : Int32) (nv0 : Int32) (nv1 : Int32) (nv2 : Int32) (nv3 : Int32) (nv5 : Int32) (nhh : Nat) (nww : Nat) (nkk : Nat) (nb1 : Nat) (nb2 : Nat) (nb3 : Nat) (nb4 : Nat) (nb5 : Nat) (ng1 : Nat → Int32) (ng2 : Nat → Int32) (ng3 : Nat → Int32) (ng4 : Nat → Int32) (ng5 : Nat → Int32) (k0 : Int32) (k1 : Int32) (nhb : nhh ≤ 999) (nwb : nww ≤ 6) (nkb : nkk ≤ 6) (hLv : okLv (nrm nv0 nv1 nv2 nv3 nhh nv5 nww nkk ng1 ng2 ng3 ng4 ng5)) : Met l yX7_share wsX7_share ({ frames := 1, cells := 0, slots := 0, locals := 23 }) (va_Pc [.ref x, .int k0, .int k1] (fun U => va_P (dC, dI) vwCl [(xo_7_rrrrrrrrrii x ro ta no ac im tr pl cs ak xf xg), (xo_3_iiiiiiiirrrrr no nv0 nv1 nv2 nv3 (nI nhh) nv5 (nI nww) (nI nkk) nb1 nb2 nb3 nb4 nb5), (xI nb1 cI 6 ng1), (xI nb2 cI 6 ng2), (xI nb3 cI 6 ng3), (xI nb4 cI 6 ng4), (xI nb5 cI 6 ng5)] U.heap ∧ va_K (dC, dI) vwCl [(cI, .int), (cZ, .boolean), (cL, .object RX3), (cJ, .array .int)] U)) (vp_Si (fun r => r = (a_shr (nrm nv0 nv1 nv2 nv3 nhh nv5 nww nkk ng1 ng2 ng3 ng4 ng5) k0 k1))) 0 0 (fun _ => False) := by
  refine Met.ofW (cc := cX7_share) (maxL := 7) (ret := (some .int)) (by decide) rfl ?_
  intro p e s m args below meth c s₁ B hml hv
  obtain ⟨rfl, hP, hK⟩ := hv
  have hx := B.exec
  have hb := B.bytes
  have hr := B.returns
  have hts := atoms_spec (ws := wsX7_share) B.pre
  have hown : s.vm.findClass RX7 = some m.cls := findClass_of_methodNamed B.named
  have hlocks := B.notSynchronized
  have hP : va_P (dC, dI) vwCl [(xo_7_rrrrrrrrrii x ro ta no ac im tr pl cs ak xf xg), (xo_3_iiiiiiiirrrrr no nv0 nv1 nv2 nv3 (nI nhh) nv5 (nI nww) (nI nkk) nb1 nb2 nb3 nb4 nb5), (xI nb1 cI 6 ng1), (xI nb2 cI 6 ng2), (xI nb3 cI 6 ng3), (xI nb4 cI 6 ng4), (xI nb5 cI 6 ng5)] s.heap := hP
  have hl := lv_entry ([.ref x, .int k0, .int k1]) (n := 7) (Nat.le_of_ble_eq_true rfl)
  rw [lg_entry_eq]
  generalize (lg_sl ([.ref x, .int k0, .int k1]) ++ List.replicate (7 - (lg_sl ([.ref x, .int k0, .int k1])).length) Slot.unset).toArray = ls at hl ⊢
  have hl : lv_has ls 7 [(0, .ref x), (1, .int k0), (2, .int k1)] := hl
  refine lv_aload_n hx hb dX7_share_0 rfl (lv_at hl 0 rfl) ?_
  refine va_get (D := (dC, dI)) (ci := 7) (v := .ref no) (C := RX7) (T := TX7) (N := 11) hx hb hts i_X7_share_X7 hown hK hP 0 rfl rfl 2 (by decide) (hts _ mx_X7_share_1) (fun _ h9 => h9) rfl dX7_share_1 ?_
  refine lv_iload_n hx hb dX7_share_4 rfl (lv_at hl 1 rfl) ?_
  have hPc_1 := hP.sub (ws' := [(xo_3_iiiiiiiirrrrr no nv0 nv1 nv2 nv3 (nI nhh) nv5 (nI nww) (nI nkk) nb1 nb2 nb3 nb4 nb5), (xI nb1 cI 6 ng1), (xI nb2 cI 6 ng2), (xI nb3 cI 6 ng3), (xI nb4 cI 6 ng4), (xI nb5 cI 6 ng5)]) [1, 2, 3, 4, 5, 6] rfl
  refine vp_callSi (W.runV (As := [.int k0]) (rest := []) ⟨hx, hb, hml, hown, hts⟩ (r_X3_hasSound l dC dI cI cZ cL cJ no nv0 nv1 nv2 nv3 nv5 nhh nww nkk nb1 nb2 nb3 nb4 nb5 ng1 ng2 ng3 ng4 ng5 k0 (by omega) (nwb) (nkb)) (cwV 1 hts gX7_share_X3_hasSound rfl rfl rfl (by decide +kernel) ⟨Nat.le_of_ble_eq_true rfl, Nat.le_of_ble_eq_true rfl⟩) (pvP 3 1 hK hP rfl rfl hPc_1) rfl rfl hl.1 rfl (lv_room (Nat.le_of_ble_eq_true rfl)) dX7_share_5 ⟨Nat.le_of_ble_eq_true rfl, Nat.le_of_ble_eq_true rfl⟩) (fun r_1 h_1 => ?_)
  rcases h_1 with ⟨h_1, f_1_0_0⟩ | ⟨h_1, f_1_1_0⟩
  · subst h_1
    refine lv_if_eq (tgt := 22) hx hb dX7_share_8 (by decide) (fun _ => ?_) (fun c_ => absurd (by decide) c_)
    refine lv_ldc (own := RX7) (v := (-1000001)) hx hb hown (hts _ mx_X7_share_2) dX7_share_22 ?_
    exact W.iret (v := (-1000001)) hx hb hr (fun t ht hW => ⟨(-1000001), rfl, (lf_X7_share_1 nhb nwb nkb hLv f_1_0_0), ht⟩) (fun _ h => by cases h) dX7_share_24
  · subst h_1
    obtain ⟨j_1, hj_1, rfl⟩ := vp_in_of f_1_1_0 (by omega)
    refine lv_if_eq (tgt := 22) hx hb dX7_share_8 (by decide) (fun c_ => absurd c_ (by decide)) (fun _ => ?_)
    refine lv_iload_n hx hb dX7_share_11 rfl (lv_at hl 2 rfl) ?_
    refine lv_if_lt (tgt := 22) hx hb dX7_share_12 (by decide) (fun c_5 => ?_) (fun c_5 => ?_)
    · skip
      refine lv_ldc (own := RX7) (v := (-1000001)) hx hb hown (hts _ mx_X7_share_2) dX7_share_22 ?_
      exact W.iret (v := (-1000001)) hx hb hr (fun t ht hW => ⟨(-1000001), rfl, (lf_X7_share_2 nhb nwb nkb hLv hj_1 c_5), ht⟩) (fun _ h => by cases h) dX7_share_24
    · skip
      refine lv_iload_n hx hb dX7_share_15 rfl (lv_at hl 2 rfl) ?_
      refine lv_sipush (v := 999) hx hb dX7_share_16 (by decide) ?_
      refine lv_icmp_le (tgt := 25) hx hb dX7_share_19 (by decide) (fun c_6 => ?_) (fun c_6 => ?_)
      · skip
        refine lv_aload_n hx hb dX7_share_25 rfl (lv_at hl 0 rfl) ?_
        refine va_get (D := (dC, dI)) (ci := 7) (v := .ref no) (C := RX7) (T := TX7) (N := 11) hx hb hts i_X7_share_X7 hown hK hP 0 rfl rfl 2 (by decide) (hts _ mx_X7_share_1) (fun _ h9 => h9) rfl dX7_share_26 ?_
        refine lv_aload_n hx hb dX7_share_29 rfl (lv_at hl 0 rfl) ?_
        refine va_get (D := (dC, dI)) (ci := 7) (v := .ref no) (C := RX7) (T := TX7) (N := 11) hx hb hts i_X7_share_X7 hown hK hP 0 rfl rfl 2 (by decide) (hts _ mx_X7_share_1) (fun _ h9 => h9) rfl dX7_share_30 ?_
        refine lv_iconst (v := 0) hx hb dX7_share_33 (by decide) ?_
        have hPc_7 := hP.sub (ws' := [(xo_3_iiiiiiiirrrrr no nv0 nv1 nv2 nv3 (nI nhh) nv5 (nI nww) (nI nkk) nb1 nb2 nb3 nb4 nb5), (xI nb1 cI 6 ng1), (xI nb2 cI 6 ng2), (xI nb3 cI 6 ng3), (xI nb4 cI 6 ng4), (xI nb5 cI 6 ng5)]) [1, 2, 3, 4, 5, 6] rfl
        refine vp_callSi (W.runV (As := [.int 0]) (rest := [.ref no]) ⟨hx, hb, hml, hown, hts⟩ (r_X3_soundsThatAre l dC dI cI cZ cL cJ no nv0 nv1 nv2 nv3 nv5 nhh nww nkk nb1 nb2 nb3 nb4 nb5 ng1 ng2 ng3 ng4 ng5 0 (by omega) (nwb) (nkb)) (cwV 1 hts gX7_share_X3_soundsThatAre rfl rfl rfl (by decide +kernel) ⟨Nat.le_of_ble_eq_true rfl, Nat.le_of_ble_eq_true rfl⟩) (pvP 3 1 hK hP rfl rfl hPc_7) rfl rfl hl.1 rfl (lv_room (Nat.le_of_ble_eq_true rfl)) dX7_share_34 ⟨Nat.le_of_ble_eq_true rfl, Nat.le_of_ble_eq_true rfl⟩) (fun r_7 h_7 => ?_)
        have hPc_8 := hP.sub (ws' := [(xo_3_iiiiiiiirrrrr no nv0 nv1 nv2 nv3 (nI nhh) nv5 (nI nww) (nI nkk) nb1 nb2 nb3 nb4 nb5), (xI nb1 cI 6 ng1), (xI nb2 cI 6 ng2), (xI nb3 cI 6 ng3), (xI nb4 cI 6 ng4), (xI nb5 cI 6 ng5)]) [1, 2, 3, 4, 5, 6] rfl
        refine vp_callSi (W.runV (As := [.int r_7]) (rest := []) ⟨hx, hb, hml, hown, hts⟩ (r_X3_loudOf l dC dI cI cZ cL cJ no nv0 nv1 nv2 nv3 nv5 nhh nww nkk nb1 nb2 nb3 nb4 nb5 ng1 ng2 ng3 ng4 ng5 r_7 (by omega) (nwb) (nkb)) (cwV 1 hts gX7_share_X3_loudOf rfl rfl rfl (by decide +kernel) ⟨Nat.le_of_ble_eq_true rfl, Nat.le_of_ble_eq_true rfl⟩) (pvP 3 1 hK hP rfl rfl hPc_8) rfl rfl hl.1 rfl (lv_room (Nat.le_of_ble_eq_true rfl)) dX7_share_37 ⟨Nat.le_of_ble_eq_true rfl, Nat.le_of_ble_eq_true rfl⟩) (fun r_8 h_8 => ?_)
        refine lv_istore_n (lv' := [(3, .int r_8), (0, .ref x), (1, .int (nI j_1)), (2, .int k1)]) hx hb dX7_share_40 rfl hl (by decide) rfl (fun ls hl => ?_)
        refine lv_aload_n hx hb dX7_share_41 rfl (lv_at hl 1 rfl) ?_
        refine va_get (D := (dC, dI)) (ci := 7) (v := .ref no) (C := RX7) (T := TX7) (N := 11) hx hb hts i_X7_share_X7 hown hK hP 0 rfl rfl 2 (by decide) (hts _ mx_X7_share_1) (fun _ h9 => h9) rfl dX7_share_42 ?_
        refine lv_iload_n hx hb dX7_share_45 rfl (lv_at hl 2 rfl) ?_
        have hPc_9 := hP.sub (ws' := [(xo_3_iiiiiiiirrrrr no nv0 nv1 nv2 nv3 (nI nhh) nv5 (nI nww) (nI nkk) nb1 nb2 nb3 nb4 nb5), (xI nb1 cI 6 ng1), (xI nb2 cI 6 ng2), (xI nb3 cI 6 ng3), (xI nb4 cI 6 ng4), (xI nb5 cI 6 ng5)]) [1, 2, 3, 4, 5, 6] rfl
        refine vp_callSi (W.runV (As := [.int (nI j_1)]) (rest := []) ⟨hx, hb, hml, hown, hts⟩ (r_X3_isLoose l dC dI cI cZ cL cJ no nv0 nv1 nv2 nv3 nv5 nhh nww nkk nb1 nb2 nb3 nb4 nb5 ng1 ng2 ng3 ng4 ng5 j_1 (by omega) (nwb) (nkb) (by omega)) (cwV 1 hts gX7_share_X3_isLoose rfl rfl rfl (by decide +kernel) ⟨Nat.le_of_ble_eq_true rfl, Nat.le_of_ble_eq_true rfl⟩) (pvP 3 1 hK hP rfl rfl hPc_9) rfl rfl hl.1 rfl (lv_room (Nat.le_of_ble_eq_true rfl)) dX7_share_46 ⟨Nat.le_of_ble_eq_true rfl, Nat.le_of_ble_eq_true rfl⟩) (fun r_9 h_9 => ?_)
        rcases h_9 with ⟨h_9, f_9_0_0⟩ | ⟨h_9, f_9_1_0⟩
        · subst h_9
          refine lv_if_eq (tgt := 56) hx hb dX7_share_49 (by decide) (fun _ => ?_) (fun c_ => absurd (by decide) c_)
          refine lv_iconst (v := 0) hx hb dX7_share_56 (by decide) ?_
          exact W.iret (v := 0) hx hb hr (fun t ht hW => ⟨0, rfl, (lf_X7_share_3 nhb nwb nkb hLv hj_1 c_5 c_6 h_7 h_8 f_9_0_0), ht⟩) (fun _ h => by cases h) dX7_share_57
        · subst h_9
          refine lv_if_eq (tgt := 56) hx hb dX7_share_49 (by decide) (fun c_ => absurd c_ (by decide)) (fun _ => ?_)
          refine lv_iload_n hx hb dX7_share_52 rfl (lv_at hl 0 rfl) ?_
          refine lv_if_gt (tgt := 58) hx hb dX7_share_53 (by decide) (fun c_12 => ?_) (fun c_12 => ?_)
          · skip
            have hdiv : ¬ r_8 = 0 := fun q_ => (show ¬ (0 : Int32) < 0 by decide) (q_ ▸ ‹0 < r_8›)
            refine lv_iload_n hx hb dX7_share_58 rfl (lv_at hl 3 rfl) ?_
            refine lv_istore (lv' := [(4, .int k1), (3, .int r_8), (0, .ref x), (1, .int (nI j_1)), (2, .int k1)]) hx hb dX7_share_59 hl (by decide) rfl (fun ls hl => ?_)
            refine lv_iconst (v := 0) hx hb dX7_share_61 (by decide) ?_
            refine lv_istore (lv' := [(5, .int 0), (4, .int k1), (3, .int r_8), (0, .ref x), (1, .int (nI j_1)), (2, .int k1)]) hx hb dX7_share_62 hl (by decide) rfl (fun ls hl => ?_)
            refine lv_iconst (v := 0) hx hb dX7_share_64 (by decide) ?_
            refine lv_istore (lv' := [(6, .int 0), (5, .int 0), (4, .int k1), (3, .int r_8), (0, .ref x), (1, .int (nI j_1)), (2, .int k1)]) hx hb dX7_share_65 hl (by decide) rfl (fun ls hl => ?_)
            refine lp_go (σ := (Int32) × (Int32)) (fun ii (st : (Int32) × (Int32)) H locs ls => match st with | (w_24, w_25) => lv_has ls 7 [(6, .int (nI ii)), (5, .int w_24), (4, .int w_25), (3, .int r_8), (0, .ref x), (1, .int (nI j_1)), (2, .int k1)] ∧ H = s.heap ∧ locs = [] ∧ (shF (nrm nv0 nv1 nv2 nv3 nhh nv5 nww nkk ng1 ng2 ng3 ng4 ng5) k1 (nI j_1) r_8 ii = (w_25, w_24))) nkk ?_ ?_ 0 (by omega) (0, k1) ⟨lv_sub hl [0, 1, 2, 3, 4, 5, 6] rfl, rfl, rfl, rfl⟩
            · rintro ii ⟨w_24, w_25⟩ H locs ls hii ⟨hl, rfl, rfl, haf_0⟩ ih
              refine lv_iload hx hb dX7_share_67 (lv_at hl 0 rfl) ?_
              refine lv_aload_n hx hb dX7_share_69 rfl (lv_at hl 4 rfl) ?_
              refine va_get (D := (dC, dI)) (ci := 7) (v := .ref no) (C := RX7) (T := TX7) (N := 11) hx hb hts i_X7_share_X7 hown hK hP 0 rfl rfl 2 (by decide) (hts _ mx_X7_share_1) (fun _ h9 => h9) rfl dX7_share_70 ?_
              refine va_get (D := (dC, dI)) (ci := 3) (v := .int (nI nkk)) (C := RX3) (T := TX3) (N := 13) hx hb hts i_X7_share_X3 hown hK hP 1 rfl rfl 7 (by decide) (hts _ mx_X7_share_3) (fun _ h9 => h9) rfl dX7_share_73 ?_
              refine lv_icmp_ge (tgt := 132) hx hb dX7_share_76 (by decide) (fun c_ => absurd c_ (fun q_ => absurd ((nI_leI (a := nkk) (b := ii) (by omega) (by omega)).mp q_) (by omega))) (fun _ => ?_)
              refine lv_aload_n hx hb dX7_share_79 rfl (lv_at hl 4 rfl) ?_
              refine va_get (D := (dC, dI)) (ci := 7) (v := .ref no) (C := RX7) (T := TX7) (N := 11) hx hb hts i_X7_share_X7 hown hK hP 0 rfl rfl 2 (by decide) (hts _ mx_X7_share_1) (fun _ h9 => h9) rfl dX7_share_80 ?_
              refine lv_iload hx hb dX7_share_83 (lv_at hl 0 rfl) ?_
              have hPc_40 := hP.sub (ws' := [(xo_3_iiiiiiiirrrrr no nv0 nv1 nv2 nv3 (nI nhh) nv5 (nI nww) (nI nkk) nb1 nb2 nb3 nb4 nb5), (xI nb1 cI 6 ng1), (xI nb2 cI 6 ng2), (xI nb3 cI 6 ng3), (xI nb4 cI 6 ng4), (xI nb5 cI 6 ng5)]) [1, 2, 3, 4, 5, 6] rfl
              refine vp_callSi (W.runV (As := [.int (nI ii)]) (rest := []) ⟨hx, hb, hml, hown, hts⟩ (r_X3_isLoose l dC dI cI cZ cL cJ no nv0 nv1 nv2 nv3 nv5 nhh nww nkk nb1 nb2 nb3 nb4 nb5 ng1 ng2 ng3 ng4 ng5 ii (by omega) (nwb) (nkb) (by omega)) (cwV 1 hts gX7_share_X3_isLoose rfl rfl rfl (by decide +kernel) ⟨Nat.le_of_ble_eq_true rfl, Nat.le_of_ble_eq_true rfl⟩) (pvP 3 1 hK hP rfl rfl hPc_40) rfl rfl hl.1 rfl (lv_room (Nat.le_of_ble_eq_true rfl)) dX7_share_85 ⟨Nat.le_of_ble_eq_true rfl, Nat.le_of_ble_eq_true rfl⟩) (fun r_40 h_40 => ?_)
              rcases h_40 with ⟨h_40, f_40_0_0⟩ | ⟨h_40, f_40_1_0⟩
              · subst h_40
                refine lv_if_eq (tgt := 126) hx hb dX7_share_88 (by decide) (fun _ => ?_) (fun c_ => absurd (by decide) c_)
                refine lv_iinc (v := (nI (ii + 1))) (lv' := [(6, .int (nI (ii + 1))), (5, .int w_24), (4, .int w_25), (3, .int r_8), (0, .ref x), (1, .int (nI j_1)), (2, .int k1)]) hx hb dX7_share_126 hl (k := 0) rfl (nI_add ii 1) (by decide) rfl (fun ls hl => ?_)
                refine lv_goto (tgt := 67) hx hb dX7_share_129 (by decide) ?_
                exact ih (w_24, w_25) _ _ _ ⟨lv_sub hl [0, 1, 2, 3, 4, 5, 6] rfl, rfl, rfl, (lf_X7_share_4 nhb nwb nkb hLv hj_1 c_5 c_6 h_7 h_8 f_9_1_0 c_12 hii haf_0 f_40_0_0)⟩
              · subst h_40
                refine lv_if_eq (tgt := 126) hx hb dX7_share_88 (by decide) (fun c_ => absurd c_ (by decide)) (fun _ => ?_)
                refine lv_iload hx hb dX7_share_91 (lv_at hl 2 rfl) ?_
                refine lv_iload_n hx hb dX7_share_93 rfl (lv_at hl 6 rfl) ?_
                refine lv_aload_n hx hb dX7_share_94 rfl (lv_at hl 4 rfl) ?_
                refine va_get (D := (dC, dI)) (ci := 7) (v := .ref no) (C := RX7) (T := TX7) (N := 11) hx hb hts i_X7_share_X7 hown hK hP 0 rfl rfl 2 (by decide) (hts _ mx_X7_share_1) (fun _ h9 => h9) rfl dX7_share_95 ?_
                refine va_get (D := (dC, dI)) (ci := 3) (v := .ref nb4) (C := RX3) (T := TX3) (N := 13) hx hb hts i_X7_share_X3 hown hK hP 1 rfl rfl 11 (by decide) (hts _ mx_X7_share_4) (fun _ h9 => h9) rfl dX7_share_98 ?_
                refine lv_iload hx hb dX7_share_101 (lv_at hl 0 rfl) ?_
                refine va_iald hx hb hK hP 5 0 rfl rfl (vp_in_nI (by omega) (by omega)) dX7_share_103 ?_
                refine lv_topi (fun v_43 e_43 => ?_)
                have e_43 : v_43 = ng4 ii := e_43.trans (congrArg ng4 (nI_clamp (by omega)))
                refine lv_imul hx hb dX7_share_104 ?_
                refine lv_topi (fun v_44 e_44 => ?_)
                refine lv_iload_n hx hb dX7_share_105 rfl (lv_at hl 3 rfl) ?_
                refine lv_idiv hx hb dX7_share_106 hdiv ?_
                refine lv_topi (fun v_45 e_45 => ?_)
                refine lv_isub hx hb dX7_share_107 ?_
                refine lv_topi (fun v_46 e_46 => ?_)
                refine lv_istore (lv' := [(4, .int v_46), (6, .int (nI ii)), (5, .int w_24), (3, .int r_8), (0, .ref x), (1, .int (nI j_1)), (2, .int k1)]) hx hb dX7_share_108 hl (by decide) rfl (fun ls hl => ?_)
                refine lv_iload hx hb dX7_share_110 (lv_at hl 2 rfl) ?_
                refine lv_iload hx hb dX7_share_112 (lv_at hl 1 rfl) ?_
                refine lv_iload_n hx hb dX7_share_114 rfl (lv_at hl 5 rfl) ?_
                refine lv_icmp_ge (tgt := 122) hx hb dX7_share_115 (by decide) (fun c_47 => ?_) (fun c_47 => ?_)
                · have c_47 : j_1 ≤ ii := (nI_leI (a := j_1) (b := ii) (by omega) (by omega)).mp c_47
                  refine lv_iconst (v := 0) hx hb dX7_share_122 (by decide) ?_
                  refine lv_iadd hx hb dX7_share_123 ?_
                  refine lv_topi (fun v_48 e_48 => ?_)
                  refine lv_istore (lv' := [(5, .int v_48), (4, .int v_46), (6, .int (nI ii)), (3, .int r_8), (0, .ref x), (1, .int (nI j_1)), (2, .int k1)]) hx hb dX7_share_124 hl (by decide) rfl (fun ls hl => ?_)
                  refine lv_iinc (v := (nI (ii + 1))) (lv' := [(6, .int (nI (ii + 1))), (5, .int v_48), (4, .int v_46), (3, .int r_8), (0, .ref x), (1, .int (nI j_1)), (2, .int k1)]) hx hb dX7_share_126 hl (k := 2) rfl (nI_add ii 1) (by decide) rfl (fun ls hl => ?_)
                  refine lv_goto (tgt := 67) hx hb dX7_share_129 (by decide) ?_
                  exact ih (v_48, v_46) _ _ _ ⟨lv_sub hl [0, 1, 2, 3, 4, 5, 6] rfl, rfl, rfl, (lf_X7_share_5 nhb nwb nkb hLv hj_1 c_5 c_6 h_7 h_8 f_9_1_0 c_12 hii haf_0 f_40_1_0 e_43 e_44 e_45 e_46 c_47 e_48)⟩
                · have c_47 : ¬ (j_1 ≤ ii) := fun q_ => c_47 ((nI_leI (a := j_1) (b := ii) (by omega) (by omega)).mpr q_)
                  refine lv_iconst (v := 1) hx hb dX7_share_118 (by decide) ?_
                  refine lv_goto (tgt := 123) hx hb dX7_share_119 (by decide) ?_
                  refine lv_iadd hx hb dX7_share_123 ?_
                  refine lv_topi (fun v_49 e_49 => ?_)
                  refine lv_istore (lv' := [(5, .int v_49), (4, .int v_46), (6, .int (nI ii)), (3, .int r_8), (0, .ref x), (1, .int (nI j_1)), (2, .int k1)]) hx hb dX7_share_124 hl (by decide) rfl (fun ls hl => ?_)
                  refine lv_iinc (v := (nI (ii + 1))) (lv' := [(6, .int (nI (ii + 1))), (5, .int v_49), (4, .int v_46), (3, .int r_8), (0, .ref x), (1, .int (nI j_1)), (2, .int k1)]) hx hb dX7_share_126 hl (k := 2) rfl (nI_add ii 1) (by decide) rfl (fun ls hl => ?_)
                  refine lv_goto (tgt := 67) hx hb dX7_share_129 (by decide) ?_
                  exact ih (v_49, v_46) _ _ _ ⟨lv_sub hl [0, 1, 2, 3, 4, 5, 6] rfl, rfl, rfl, (lf_X7_share_6 nhb nwb nkb hLv hj_1 c_5 c_6 h_7 h_8 f_9_1_0 c_12 hii haf_0 f_40_1_0 e_43 e_44 e_45 e_46 c_47 e_49)⟩
            · rintro ⟨w_24, w_25⟩ H locs ls ⟨hl, rfl, rfl, haf_0⟩
              refine lv_iload hx hb dX7_share_67 (lv_at hl 0 rfl) ?_
              refine lv_aload_n hx hb dX7_share_69 rfl (lv_at hl 4 rfl) ?_
              refine va_get (D := (dC, dI)) (ci := 7) (v := .ref no) (C := RX7) (T := TX7) (N := 11) hx hb hts i_X7_share_X7 hown hK hP 0 rfl rfl 2 (by decide) (hts _ mx_X7_share_1) (fun _ h9 => h9) rfl dX7_share_70 ?_
              refine va_get (D := (dC, dI)) (ci := 3) (v := .int (nI nkk)) (C := RX3) (T := TX3) (N := 13) hx hb hts i_X7_share_X3 hown hK hP 1 rfl rfl 7 (by decide) (hts _ mx_X7_share_3) (fun _ h9 => h9) rfl dX7_share_73 ?_
              refine lv_icmp_ge (tgt := 132) hx hb dX7_share_76 (by decide) (fun _ => ?_) (fun c_ => absurd ((nI_leI (a := nkk) (b := nkk) (by omega) (by omega)).mpr (by omega)) c_)
              refine lv_iload_n hx hb dX7_share_132 rfl (lv_at hl 6 rfl) ?_
              refine lv_aload_n hx hb dX7_share_133 rfl (lv_at hl 4 rfl) ?_
              refine va_get (D := (dC, dI)) (ci := 7) (v := .ref no) (C := RX7) (T := TX7) (N := 11) hx hb hts i_X7_share_X7 hown hK hP 0 rfl rfl 2 (by decide) (hts _ mx_X7_share_1) (fun _ h9 => h9) rfl dX7_share_134 ?_
              refine va_get (D := (dC, dI)) (ci := 3) (v := .ref nb4) (C := RX3) (T := TX3) (N := 13) hx hb hts i_X7_share_X3 hown hK hP 1 rfl rfl 11 (by decide) (hts _ mx_X7_share_4) (fun _ h9 => h9) rfl dX7_share_137 ?_
              refine lv_iload_n hx hb dX7_share_140 rfl (lv_at hl 5 rfl) ?_
              refine va_iald hx hb hK hP 5 0 rfl rfl (vp_in_nI (by omega) (by omega)) dX7_share_141 ?_
              refine lv_topi (fun v_51 e_51 => ?_)
              have e_51 : v_51 = ng4 j_1 := e_51.trans (congrArg ng4 (nI_clamp (by omega)))
              refine lv_imul hx hb dX7_share_142 ?_
              refine lv_topi (fun v_52 e_52 => ?_)
              refine lv_iload_n hx hb dX7_share_143 rfl (lv_at hl 3 rfl) ?_
              refine lv_idiv hx hb dX7_share_144 hdiv ?_
              refine lv_topi (fun v_53 e_53 => ?_)
              refine lv_iload hx hb dX7_share_145 (lv_at hl 1 rfl) ?_
              refine lv_iload hx hb dX7_share_147 (lv_at hl 2 rfl) ?_
              refine lv_icmp_ge (tgt := 156) hx hb dX7_share_149 (by decide) (fun c_54 => ?_) (fun c_54 => ?_)
              · skip
                refine lv_iconst (v := 0) hx hb dX7_share_156 (by decide) ?_
                refine lv_iadd hx hb dX7_share_157 ?_
                refine lv_topi (fun v_55 e_55 => ?_)
                exact W.iret (v := v_55) hx hb hr (fun t ht hW => ⟨v_55, rfl, (lf_X7_share_7 nhb nwb nkb hLv hj_1 c_5 c_6 h_7 h_8 f_9_1_0 c_12 haf_0 e_51 e_52 e_53 c_54 e_55), ht⟩) (fun _ h => by cases h) dX7_share_158
              · skip
                refine lv_iconst (v := 1) hx hb dX7_share_152 (by decide) ?_
                refine lv_goto (tgt := 157) hx hb dX7_share_153 (by decide) ?_
                refine lv_iadd hx hb dX7_share_157 ?_
                refine lv_topi (fun v_56 e_56 => ?_)
                exact W.iret (v := v_56) hx hb hr (fun t ht hW => ⟨v_56, rfl, (lf_X7_share_8 nhb nwb nkb hLv hj_1 c_5 c_6 h_7 h_8 f_9_1_0 c_12 haf_0 e_51 e_52 e_53 c_54 e_56), ht⟩) (fun _ h => by cases h) dX7_share_158
          · skip
            refine lv_iconst (v := 0) hx hb dX7_share_56 (by decide) ?_
            exact W.iret (v := 0) hx hb hr (fun t ht hW => ⟨0, rfl, (lf_X7_share_9 nhb nwb nkb hLv hj_1 c_5 c_6 h_7 h_8 f_9_1_0 c_12), ht⟩) (fun _ h => by cases h) dX7_share_57
      · skip
        refine lv_ldc (own := RX7) (v := (-1000001)) hx hb hown (hts _ mx_X7_share_2) dX7_share_22 ?_
        exact W.iret (v := (-1000001)) hx hb hr (fun t ht hW => ⟨(-1000001), rfl, (lf_X7_share_10 nhb nwb nkb hLv hj_1 c_5 c_6), ht⟩) (fun _ h => by cases h) dX7_share_24
theorem lf_X7_sack_1 {nv0 : Int32} {nv1 : Int32} {nv2 : Int32} {nv3 : Int32} {nv5 : Int32} {nhh : Nat} {nww : Nat} {nkk : Nat} {ng1 : Nat → Int32} {ng2 : Nat → Int32} {ng3 : Nat → Int32} {ng4 : Nat → Int32} {ng5 : Nat → Int32} {k0 : Int32} {k1 : Int32} {sh : Nat} (nhb : nhh ≤ 999) (nwb : nww ≤ 6) (nkb : nkk ≤ 6) (hLv : okLv (nrm nv0 nv1 nv2 nv3 nhh nv5 nww nkk ng1 ng2 ng3 ng4 ng5)) (hsh : (1 : Int32) <<< (nI nkk &&& 31) = nI sh) (hsb : sh ≤ 64) (f_1_0_0 : ¬ 0 < nv0) : (-1000002) = (a_sack (nrm nv0 nv1 nv2 nv3 nhh nv5 nww nkk ng1 ng2 ng3 ng4 ng5) k0 k1) := by
  exact sack_0 (((tX hLv nwb nkb (by omega)).1 f_1_0_0).1)
theorem lf_X7_sack_2 {nv0 : Int32} {nv1 : Int32} {nv2 : Int32} {nv3 : Int32} {nv5 : Int32} {nhh : Nat} {nww : Nat} {nkk : Nat} {ng1 : Nat → Int32} {ng2 : Nat → Int32} {ng3 : Nat → Int32} {ng4 : Nat → Int32} {ng5 : Nat → Int32} {k0 : Int32} {k1 : Int32} {sh : Nat} (nhb : nhh ≤ 999) (nwb : nww ≤ 6) (nkb : nkk ≤ 6) (hLv : okLv (nrm nv0 nv1 nv2 nv3 nhh nv5 nww nkk ng1 ng2 ng3 ng4 ng5)) (hsh : (1 : Int32) <<< (nI nkk &&& 31) = nI sh) (hsb : sh ≤ 64) (f_1_1_0 : 0 < nv0) (c_4 : k0 < 0) : (-1000001) = (a_sack (nrm nv0 nv1 nv2 nv3 nhh nv5 nww nkk ng1 ng2 ng3 ng4 ng5) k0 k1) := by
  exact sack_n (((tX hLv nwb nkb (by omega)).2 f_1_1_0).1) (Or.inl (Or.inl c_4))
theorem lf_X7_sack_3 {nv0 : Int32} {nv1 : Int32} {nv2 : Int32} {nv3 : Int32} {nv5 : Int32} {nhh : Nat} {nww : Nat} {nkk : Nat} {ng1 : Nat → Int32} {ng2 : Nat → Int32} {ng3 : Nat → Int32} {ng4 : Nat → Int32} {ng5 : Nat → Int32} {k0 : Int32} {k1 : Int32} {sh : Nat} (nhb : nhh ≤ 999) (nwb : nww ≤ 6) (nkb : nkk ≤ 6) (hLv : okLv (nrm nv0 nv1 nv2 nv3 nhh nv5 nww nkk ng1 ng2 ng3 ng4 ng5)) (hsh : (1 : Int32) <<< (nI nkk &&& 31) = nI sh) (hsb : sh ≤ 64) (f_1_1_0 : 0 < nv0) (c_4 : ¬ (k0 < 0)) (c_5 : 120 < k0) : (-1000001) = (a_sack (nrm nv0 nv1 nv2 nv3 nhh nv5 nww nkk ng1 ng2 ng3 ng4 ng5) k0 k1) := by
  first
  | exact sack_n (((tX hLv nwb nkb (by omega)).2 f_1_1_0).1) (Or.inl (Or.inl c_4))
  | exact sack_n (((tX hLv nwb nkb (by omega)).2 f_1_1_0).1) (Or.inl (Or.inr c_5))
theorem lf_X7_sack_4 {nv0 : Int32} {nv1 : Int32} {nv2 : Int32} {nv3 : Int32} {nv5 : Int32} {nhh : Nat} {nww : Nat} {nkk : Nat} {ng1 : Nat → Int32} {ng2 : Nat → Int32} {ng3 : Nat → Int32} {ng4 : Nat → Int32} {ng5 : Nat → Int32} {k0 : Int32} {k1 : Int32} {sh : Nat} (nhb : nhh ≤ 999) (nwb : nww ≤ 6) (nkb : nkk ≤ 6) (hLv : okLv (nrm nv0 nv1 nv2 nv3 nhh nv5 nww nkk ng1 ng2 ng3 ng4 ng5)) (hsh : (1 : Int32) <<< (nI nkk &&& 31) = nI sh) (hsb : sh ≤ 64) (f_1_1_0 : 0 < nv0) (c_4 : ¬ (k0 < 0)) (c_5 : ¬ (120 < k0)) (c_6 : k1 < 0) : (-1000001) = (a_sack (nrm nv0 nv1 nv2 nv3 nhh nv5 nww nkk ng1 ng2 ng3 ng4 ng5) k0 k1) := by
  first
  | exact sack_n (((tX hLv nwb nkb (by omega)).2 f_1_1_0).1) (Or.inl (Or.inl c_4))
  | exact sack_n (((tX hLv nwb nkb (by omega)).2 f_1_1_0).1) (Or.inl (Or.inr c_5))
  | exact sack_n (((tX hLv nwb nkb (by omega)).2 f_1_1_0).1) (Or.inr (Or.inl c_6))
theorem lf_X7_sack_5 {nv0 : Int32} {nv1 : Int32} {nv2 : Int32} {nv3 : Int32} {nv5 : Int32} {nhh : Nat} {nww : Nat} {nkk : Nat} {ng1 : Nat → Int32} {ng2 : Nat → Int32} {ng3 : Nat → Int32} {ng4 : Nat → Int32} {ng5 : Nat → Int32} {k0 : Int32} {k1 : Int32} {sh : Nat} {r_8 : Int32} {w_18 : Int32} {w_19 : Int32} {w_20 : Int32} {ii : Nat} {v_36 : Int32} {v_37 : Int32} (nhb : nhh ≤ 999) (nwb : nww ≤ 6) (nkb : nkk ≤ 6) (hLv : okLv (nrm nv0 nv1 nv2 nv3 nhh nv5 nww nkk ng1 ng2 ng3 ng4 ng5)) (hsh : (1 : Int32) <<< (nI nkk &&& 31) = nI sh) (hsb : sh ≤ 64) (f_1_1_0 : 0 < nv0) (c_4 : ¬ (k0 < 0)) (c_5 : ¬ (120 < k0)) (c_6 : ¬ (k1 < 0)) (c_7 : k1 ≤ 2) (h_8 : r_8 = (thR ng5 0 nkk)) (hii : ii < sh) (haf_0 : (skF (nrm nv0 nv1 nv2 nv3 nhh nv5 nww nkk ng1 ng2 ng3 ng4 ng5) k0 r_8 ii = (w_20, w_19, w_18))) (e_36 : v_36 = (r_8 ^^^ (-1))) (e_37 : v_37 = ((nI ii) &&& v_36)) (c_38 : ¬ (v_37 = 0)) : skF (nrm nv0 nv1 nv2 nv3 nhh nv5 nww nkk ng1 ng2 ng3 ng4 ng5) k0 r_8 (ii + 1) = (w_20, w_19, w_18) := by
  exact sk_n haf_0 e_36 e_37 c_38
theorem lf_X7_sack_6 {nv0 : Int32} {nv1 : Int32} {nv2 : Int32} {nv3 : Int32} {nv5 : Int32} {nhh : Nat} {nww : Nat} {nkk : Nat} {ng1 : Nat → Int32} {ng2 : Nat → Int32} {ng3 : Nat → Int32} {ng4 : Nat → Int32} {ng5 : Nat → Int32} {k0 : Int32} {k1 : Int32} {sh : Nat} {r_8 : Int32} {w_18 : Int32} {w_19 : Int32} {w_20 : Int32} {ii : Nat} {v_36 : Int32} {v_37 : Int32} {r_39 : Int32} (nhb : nhh ≤ 999) (nwb : nww ≤ 6) (nkb : nkk ≤ 6) (hLv : okLv (nrm nv0 nv1 nv2 nv3 nhh nv5 nww nkk ng1 ng2 ng3 ng4 ng5)) (hsh : (1 : Int32) <<< (nI nkk &&& 31) = nI sh) (hsb : sh ≤ 64) (f_1_1_0 : 0 < nv0) (c_4 : ¬ (k0 < 0)) (c_5 : ¬ (120 < k0)) (c_6 : ¬ (k1 < 0)) (c_7 : k1 ≤ 2) (h_8 : r_8 = (thR ng5 0 nkk)) (hii : ii < sh) (haf_0 : (skF (nrm nv0 nv1 nv2 nv3 nhh nv5 nww nkk ng1 ng2 ng3 ng4 ng5) k0 r_8 ii = (w_20, w_19, w_18))) (e_36 : v_36 = (r_8 ^^^ (-1))) (e_37 : v_37 = ((nI ii) &&& v_36)) (c_38 : v_37 = 0) (h_39 : r_39 = (ldR ng4 (nI ii) nkk)) (c_40 : ¬ (r_39 = k0)) : skF (nrm nv0 nv1 nv2 nv3 nhh nv5 nww nkk ng1 ng2 ng3 ng4 ng5) k0 r_8 (ii + 1) = (w_20, w_19, w_18) := by
  first
  | exact sk_n haf_0 e_36 e_37 c_38
  | exact sk_w haf_0 ((ld_nrm nkb).trans h_39.symm) c_40
theorem lf_X7_sack_7 {nv0 : Int32} {nv1 : Int32} {nv2 : Int32} {nv3 : Int32} {nv5 : Int32} {nhh : Nat} {nww : Nat} {nkk : Nat} {ng1 : Nat → Int32} {ng2 : Nat → Int32} {ng3 : Nat → Int32} {ng4 : Nat → Int32} {ng5 : Nat → Int32} {k0 : Int32} {k1 : Int32} {sh : Nat} {r_8 : Int32} {w_18 : Int32} {w_19 : Int32} {w_20 : Int32} {ii : Nat} {v_36 : Int32} {v_37 : Int32} {r_39 : Int32} {v_41 : Int32} {v_42 : Int32} {v_43 : Int32} (nhb : nhh ≤ 999) (nwb : nww ≤ 6) (nkb : nkk ≤ 6) (hLv : okLv (nrm nv0 nv1 nv2 nv3 nhh nv5 nww nkk ng1 ng2 ng3 ng4 ng5)) (hsh : (1 : Int32) <<< (nI nkk &&& 31) = nI sh) (hsb : sh ≤ 64) (f_1_1_0 : 0 < nv0) (c_4 : ¬ (k0 < 0)) (c_5 : ¬ (120 < k0)) (c_6 : ¬ (k1 < 0)) (c_7 : k1 ≤ 2) (h_8 : r_8 = (thR ng5 0 nkk)) (hii : ii < sh) (haf_0 : (skF (nrm nv0 nv1 nv2 nv3 nhh nv5 nww nkk ng1 ng2 ng3 ng4 ng5) k0 r_8 ii = (w_20, w_19, w_18))) (e_36 : v_36 = (r_8 ^^^ (-1))) (e_37 : v_37 = ((nI ii) &&& v_36)) (c_38 : v_37 = 0) (h_39 : r_39 = (ldR ng4 (nI ii) nkk)) (c_40 : r_39 = k0) (e_41 : v_41 = w_20 + Int32.ofInt 1) (e_42 : v_42 = (w_19 &&& (nI ii))) (e_43 : v_43 = (w_18 ||| (nI ii))) : skF (nrm nv0 nv1 nv2 nv3 nhh nv5 nww nkk ng1 ng2 ng3 ng4 ng5) k0 r_8 (ii + 1) = (v_41, v_42, v_43) := by
  first
  | exact sk_n haf_0 e_36 e_37 c_38
  | exact sk_w haf_0 ((ld_nrm nkb).trans h_39.symm) c_40
  | exact sk_y haf_0 e_36 e_37 c_38 ((ld_nrm nkb).trans h_39.symm) c_40 e_41 e_42 e_43
theorem lf_X7_sack_8 {nv0 : Int32} {nv1 : Int32} {nv2 : Int32} {nv3 : Int32} {nv5 : Int32} {nhh : Nat} {nww : Nat} {nkk : Nat} {ng1 : Nat → Int32} {ng2 : Nat → Int32} {ng3 : Nat → Int32} {ng4 : Nat → Int32} {ng5 : Nat → Int32} {k0 : Int32} {k1 : Int32} {sh : Nat} {r_8 : Int32} {w_18 : Int32} {w_19 : Int32} {w_20 : Int32} (nhb : nhh ≤ 999) (nwb : nww ≤ 6) (nkb : nkk ≤ 6) (hLv : okLv (nrm nv0 nv1 nv2 nv3 nhh nv5 nww nkk ng1 ng2 ng3 ng4 ng5)) (hsh : (1 : Int32) <<< (nI nkk &&& 31) = nI sh) (hsb : sh ≤ 64) (f_1_1_0 : 0 < nv0) (c_4 : ¬ (k0 < 0)) (c_5 : ¬ (120 < k0)) (c_6 : ¬ (k1 < 0)) (c_7 : k1 ≤ 2) (h_8 : r_8 = (thR ng5 0 nkk)) (haf_0 : (skF (nrm nv0 nv1 nv2 nv3 nhh nv5 nww nkk ng1 ng2 ng3 ng4 ng5) k0 r_8 sh = (w_20, w_19, w_18))) (c_46 : ¬ (k1 = 0)) (c_47 : ¬ (k1 = 2)) (c_48 : ¬ (w_20 = 0)) : w_19 = (a_sack (nrm nv0 nv1 nv2 nv3 nhh nv5 nww nkk ng1 ng2 ng3 ng4 ng5) k0 k1) := by
  first
  | exact sack_n (((tX hLv nwb nkb (by omega)).2 f_1_1_0).1) (Or.inl (Or.inl c_4))
  | exact sack_n (((tX hLv nwb nkb (by omega)).2 f_1_1_0).1) (Or.inl (Or.inr c_5))
  | exact sack_n (((tX hLv nwb nkb (by omega)).2 f_1_1_0).1) (Or.inr (Or.inl c_6))
  | exact sack_n (((tX hLv nwb nkb (by omega)).2 f_1_1_0).1) (Or.inr (Or.inr (i_nle.mp c_7)))
  | exact (sack_e (skX_e hLv nwb nkb nhb f_1_1_0 c_4 c_5 c_6 c_7 h_8 hsh hsb haf_0)).1 c_46
  | exact (sack_e (skX_e hLv nwb nkb nhb f_1_1_0 c_4 c_5 c_6 c_7 h_8 hsh hsb haf_0)).2.1 c_46 c_47
  | exact (sack_e (skX_e hLv nwb nkb nhb f_1_1_0 c_4 c_5 c_6 c_7 h_8 hsh hsb haf_0)).2.2.1 c_46 c_47 c_48
  | exact (sack_e (skX_e hLv nwb nkb nhb f_1_1_0 c_4 c_5 c_6 c_7 h_8 hsh hsb haf_0)).2.2.2 c_46 c_47 c_48
theorem lf_X7_sack_9 {nv0 : Int32} {nv1 : Int32} {nv2 : Int32} {nv3 : Int32} {nv5 : Int32} {nhh : Nat} {nww : Nat} {nkk : Nat} {ng1 : Nat → Int32} {ng2 : Nat → Int32} {ng3 : Nat → Int32} {ng4 : Nat → Int32} {ng5 : Nat → Int32} {k0 : Int32} {k1 : Int32} {sh : Nat} {r_8 : Int32} {w_18 : Int32} {w_19 : Int32} {w_20 : Int32} (nhb : nhh ≤ 999) (nwb : nww ≤ 6) (nkb : nkk ≤ 6) (hLv : okLv (nrm nv0 nv1 nv2 nv3 nhh nv5 nww nkk ng1 ng2 ng3 ng4 ng5)) (hsh : (1 : Int32) <<< (nI nkk &&& 31) = nI sh) (hsb : sh ≤ 64) (f_1_1_0 : 0 < nv0) (c_4 : ¬ (k0 < 0)) (c_5 : ¬ (120 < k0)) (c_6 : ¬ (k1 < 0)) (c_7 : k1 ≤ 2) (h_8 : r_8 = (thR ng5 0 nkk)) (haf_0 : (skF (nrm nv0 nv1 nv2 nv3 nhh nv5 nww nkk ng1 ng2 ng3 ng4 ng5) k0 r_8 sh = (w_20, w_19, w_18))) (c_46 : ¬ (k1 = 0)) (c_47 : ¬ (k1 = 2)) (c_48 : w_20 = 0) : 0 = (a_sack (nrm nv0 nv1 nv2 nv3 nhh nv5 nww nkk ng1 ng2 ng3 ng4 ng5) k0 k1) := by
  first
  | exact sack_n (((tX hLv nwb nkb (by omega)).2 f_1_1_0).1) (Or.inl (Or.inl c_4))
  | exact sack_n (((tX hLv nwb nkb (by omega)).2 f_1_1_0).1) (Or.inl (Or.inr c_5))
  | exact sack_n (((tX hLv nwb nkb (by omega)).2 f_1_1_0).1) (Or.inr (Or.inl c_6))
  | exact sack_n (((tX hLv nwb nkb (by omega)).2 f_1_1_0).1) (Or.inr (Or.inr (i_nle.mp c_7)))
  | exact (sack_e (skX_e hLv nwb nkb nhb f_1_1_0 c_4 c_5 c_6 c_7 h_8 hsh hsb haf_0)).1 c_46
  | exact (sack_e (skX_e hLv nwb nkb nhb f_1_1_0 c_4 c_5 c_6 c_7 h_8 hsh hsb haf_0)).2.1 c_46 c_47
  | exact (sack_e (skX_e hLv nwb nkb nhb f_1_1_0 c_4 c_5 c_6 c_7 h_8 hsh hsb haf_0)).2.2.1 c_46 c_47 c_48
  | exact (sack_e (skX_e hLv nwb nkb nhb f_1_1_0 c_4 c_5 c_6 c_7 h_8 hsh hsb haf_0)).2.2.2 c_46 c_47 c_48
theorem lf_X7_sack_10 {nv0 : Int32} {nv1 : Int32} {nv2 : Int32} {nv3 : Int32} {nv5 : Int32} {nhh : Nat} {nww : Nat} {nkk : Nat} {ng1 : Nat → Int32} {ng2 : Nat → Int32} {ng3 : Nat → Int32} {ng4 : Nat → Int32} {ng5 : Nat → Int32} {k0 : Int32} {k1 : Int32} {sh : Nat} {r_8 : Int32} {w_18 : Int32} {w_19 : Int32} {w_20 : Int32} (nhb : nhh ≤ 999) (nwb : nww ≤ 6) (nkb : nkk ≤ 6) (hLv : okLv (nrm nv0 nv1 nv2 nv3 nhh nv5 nww nkk ng1 ng2 ng3 ng4 ng5)) (hsh : (1 : Int32) <<< (nI nkk &&& 31) = nI sh) (hsb : sh ≤ 64) (f_1_1_0 : 0 < nv0) (c_4 : ¬ (k0 < 0)) (c_5 : ¬ (120 < k0)) (c_6 : ¬ (k1 < 0)) (c_7 : k1 ≤ 2) (h_8 : r_8 = (thR ng5 0 nkk)) (haf_0 : (skF (nrm nv0 nv1 nv2 nv3 nhh nv5 nww nkk ng1 ng2 ng3 ng4 ng5) k0 r_8 sh = (w_20, w_19, w_18))) (c_46 : ¬ (k1 = 0)) (c_47 : k1 = 2) : w_18 = (a_sack (nrm nv0 nv1 nv2 nv3 nhh nv5 nww nkk ng1 ng2 ng3 ng4 ng5) k0 k1) := by
  first
  | exact sack_n (((tX hLv nwb nkb (by omega)).2 f_1_1_0).1) (Or.inl (Or.inl c_4))
  | exact sack_n (((tX hLv nwb nkb (by omega)).2 f_1_1_0).1) (Or.inl (Or.inr c_5))
  | exact sack_n (((tX hLv nwb nkb (by omega)).2 f_1_1_0).1) (Or.inr (Or.inl c_6))
  | exact sack_n (((tX hLv nwb nkb (by omega)).2 f_1_1_0).1) (Or.inr (Or.inr (i_nle.mp c_7)))
  | exact (sack_e (skX_e hLv nwb nkb nhb f_1_1_0 c_4 c_5 c_6 c_7 h_8 hsh hsb haf_0)).1 c_46
  | exact (sack_e (skX_e hLv nwb nkb nhb f_1_1_0 c_4 c_5 c_6 c_7 h_8 hsh hsb haf_0)).2.1 c_46 c_47
theorem lf_X7_sack_11 {nv0 : Int32} {nv1 : Int32} {nv2 : Int32} {nv3 : Int32} {nv5 : Int32} {nhh : Nat} {nww : Nat} {nkk : Nat} {ng1 : Nat → Int32} {ng2 : Nat → Int32} {ng3 : Nat → Int32} {ng4 : Nat → Int32} {ng5 : Nat → Int32} {k0 : Int32} {k1 : Int32} {sh : Nat} {r_8 : Int32} {w_18 : Int32} {w_19 : Int32} {w_20 : Int32} (nhb : nhh ≤ 999) (nwb : nww ≤ 6) (nkb : nkk ≤ 6) (hLv : okLv (nrm nv0 nv1 nv2 nv3 nhh nv5 nww nkk ng1 ng2 ng3 ng4 ng5)) (hsh : (1 : Int32) <<< (nI nkk &&& 31) = nI sh) (hsb : sh ≤ 64) (f_1_1_0 : 0 < nv0) (c_4 : ¬ (k0 < 0)) (c_5 : ¬ (120 < k0)) (c_6 : ¬ (k1 < 0)) (c_7 : k1 ≤ 2) (h_8 : r_8 = (thR ng5 0 nkk)) (haf_0 : (skF (nrm nv0 nv1 nv2 nv3 nhh nv5 nww nkk ng1 ng2 ng3 ng4 ng5) k0 r_8 sh = (w_20, w_19, w_18))) (c_46 : k1 = 0) : w_20 = (a_sack (nrm nv0 nv1 nv2 nv3 nhh nv5 nww nkk ng1 ng2 ng3 ng4 ng5) k0 k1) := by
  first
  | exact sack_n (((tX hLv nwb nkb (by omega)).2 f_1_1_0).1) (Or.inl (Or.inl c_4))
  | exact sack_n (((tX hLv nwb nkb (by omega)).2 f_1_1_0).1) (Or.inl (Or.inr c_5))
  | exact sack_n (((tX hLv nwb nkb (by omega)).2 f_1_1_0).1) (Or.inr (Or.inl c_6))
  | exact sack_n (((tX hLv nwb nkb (by omega)).2 f_1_1_0).1) (Or.inr (Or.inr (i_nle.mp c_7)))
  | exact (sack_e (skX_e hLv nwb nkb nhb f_1_1_0 c_4 c_5 c_6 c_7 h_8 hsh hsb haf_0)).1 c_46
theorem lf_X7_sack_12 {nv0 : Int32} {nv1 : Int32} {nv2 : Int32} {nv3 : Int32} {nv5 : Int32} {nhh : Nat} {nww : Nat} {nkk : Nat} {ng1 : Nat → Int32} {ng2 : Nat → Int32} {ng3 : Nat → Int32} {ng4 : Nat → Int32} {ng5 : Nat → Int32} {k0 : Int32} {k1 : Int32} {sh : Nat} (nhb : nhh ≤ 999) (nwb : nww ≤ 6) (nkb : nkk ≤ 6) (hLv : okLv (nrm nv0 nv1 nv2 nv3 nhh nv5 nww nkk ng1 ng2 ng3 ng4 ng5)) (hsh : (1 : Int32) <<< (nI nkk &&& 31) = nI sh) (hsb : sh ≤ 64) (f_1_1_0 : 0 < nv0) (c_4 : ¬ (k0 < 0)) (c_5 : ¬ (120 < k0)) (c_6 : ¬ (k1 < 0)) (c_7 : ¬ (k1 ≤ 2)) : (-1000001) = (a_sack (nrm nv0 nv1 nv2 nv3 nhh nv5 nww nkk ng1 ng2 ng3 ng4 ng5) k0 k1) := by
  first
  | exact sack_n (((tX hLv nwb nkb (by omega)).2 f_1_1_0).1) (Or.inl (Or.inl c_4))
  | exact sack_n (((tX hLv nwb nkb (by omega)).2 f_1_1_0).1) (Or.inl (Or.inr c_5))
  | exact sack_n (((tX hLv nwb nkb (by omega)).2 f_1_1_0).1) (Or.inr (Or.inl c_6))
  | exact sack_n (((tX hLv nwb nkb (by omega)).2 f_1_1_0).1) (Or.inr (Or.inr (i_nle.mp c_7)))
set_option maxHeartbeats 4000000 in
set_option maxRecDepth 100000 in
theorem r_X7_sack (l : Launch) (dC : Nat → ClassId) (dI : Nat → Nat → Nat) (cI cZ cL cJ : ClassId) (x : Nat) (ro : Nat) (ta : Nat) (no : Nat) (ac : Nat) (im : Nat) (tr : Nat) (pl : Nat) (cs : Nat) (ak : Nat) (xf : Int32) (xg : Int32) (nv0 : Int32) (nv1 : Int32) (nv2 : Int32) (nv3 : Int32) (nv5 : Int32) (nhh : Nat) (nww : Nat) (nkk : Nat) (nb1 : Nat) (nb2 : Nat) (nb3 : Nat) (nb4 : Nat) (nb5 : Nat) (ng1 : Nat → Int32) (ng2 : Nat → Int32) (ng3 : Nat → Int32) (ng4 : Nat → Int32) (ng5 : Nat → Int32) (k0 : Int32) (k1 : Int32) (nhb : nhh ≤ 999) (nwb : nww ≤ 6) (nkb : nkk ≤ 6) (hLv : okLv (nrm nv0 nv1 nv2 nv3 nhh nv5 nww nkk ng1 ng2 ng3 ng4 ng5)) : Met l yX7_sack wsX7_sack ({ frames := 1, cells := 0, slots := 0, locals := 23 }) (va_Pc [.ref x, .int k0, .int k1] (fun U => va_P (dC, dI) vwCl [(xo_7_rrrrrrrrrii x ro ta no ac im tr pl cs ak xf xg), (xo_3_iiiiiiiirrrrr no nv0 nv1 nv2 nv3 (nI nhh) nv5 (nI nww) (nI nkk) nb1 nb2 nb3 nb4 nb5), (xI nb1 cI 6 ng1), (xI nb2 cI 6 ng2), (xI nb3 cI 6 ng3), (xI nb4 cI 6 ng4), (xI nb5 cI 6 ng5)] U.heap ∧ va_K (dC, dI) vwCl [(cI, .int), (cZ, .boolean), (cL, .object RX3), (cJ, .array .int)] U)) (vp_Si (fun r => r = (a_sack (nrm nv0 nv1 nv2 nv3 nhh nv5 nww nkk ng1 ng2 ng3 ng4 ng5) k0 k1))) 0 0 (fun _ => False) := by
  refine Met.ofW (cc := cX7_sack) (maxL := 8) (ret := (some .int)) (by decide) rfl ?_
  intro p e s m args below meth c s₁ B hml hv
  obtain ⟨rfl, hP, hK⟩ := hv
  have hx := B.exec
  have hb := B.bytes
  have hr := B.returns
  have hts := atoms_spec (ws := wsX7_sack) B.pre
  have hown : s.vm.findClass RX7 = some m.cls := findClass_of_methodNamed B.named
  have hlocks := B.notSynchronized
  have hP : va_P (dC, dI) vwCl [(xo_7_rrrrrrrrrii x ro ta no ac im tr pl cs ak xf xg), (xo_3_iiiiiiiirrrrr no nv0 nv1 nv2 nv3 (nI nhh) nv5 (nI nww) (nI nkk) nb1 nb2 nb3 nb4 nb5), (xI nb1 cI 6 ng1), (xI nb2 cI 6 ng2), (xI nb3 cI 6 ng3), (xI nb4 cI 6 ng4), (xI nb5 cI 6 ng5)] s.heap := hP
  have hl := lv_entry ([.ref x, .int k0, .int k1]) (n := 8) (Nat.le_of_ble_eq_true rfl)
  rw [lg_entry_eq]
  generalize (lg_sl ([.ref x, .int k0, .int k1]) ++ List.replicate (8 - (lg_sl ([.ref x, .int k0, .int k1])).length) Slot.unset).toArray = ls at hl ⊢
  have hl : lv_has ls 8 [(0, .ref x), (1, .int k0), (2, .int k1)] := hl
  obtain ⟨sh, hsh, hsb⟩ := shl1 nkk nkb
  refine lv_aload_n hx hb dX7_sack_0 rfl (lv_at hl 0 rfl) ?_
  refine va_get (D := (dC, dI)) (ci := 7) (v := .ref no) (C := RX7) (T := TX7) (N := 11) hx hb hts i_X7_sack_X7 hown hK hP 0 rfl rfl 2 (by decide) (hts _ mx_X7_sack_1) (fun _ h9 => h9) rfl dX7_sack_1 ?_
  have hPc_1 := hP.sub (ws' := [(xo_3_iiiiiiiirrrrr no nv0 nv1 nv2 nv3 (nI nhh) nv5 (nI nww) (nI nkk) nb1 nb2 nb3 nb4 nb5), (xI nb1 cI 6 ng1), (xI nb2 cI 6 ng2), (xI nb3 cI 6 ng3), (xI nb4 cI 6 ng4), (xI nb5 cI 6 ng5)]) [1, 2, 3, 4, 5, 6] rfl
  refine vp_callSi (W.runV (As := []) (rest := []) ⟨hx, hb, hml, hown, hts⟩ (r_X3_isTold l dC dI cI cZ cL cJ no nv0 nv1 nv2 nv3 nv5 nhh nww nkk nb1 nb2 nb3 nb4 nb5 ng1 ng2 ng3 ng4 ng5 (by omega) (nwb) (nkb)) (cwV 0 hts gX7_sack_X3_isTold rfl rfl rfl (by decide +kernel) ⟨Nat.le_of_ble_eq_true rfl, Nat.le_of_ble_eq_true rfl⟩) (pvP 3 1 hK hP rfl rfl hPc_1) rfl rfl hl.1 rfl (lv_room (Nat.le_of_ble_eq_true rfl)) dX7_sack_4 ⟨Nat.le_of_ble_eq_true rfl, Nat.le_of_ble_eq_true rfl⟩) (fun r_1 h_1 => ?_)
  rcases h_1 with ⟨h_1, f_1_0_0⟩ | ⟨h_1, f_1_1_0⟩
  · subst h_1
    refine lv_if_ne (tgt := 13) hx hb dX7_sack_7 (by decide) (fun c_ => absurd (by decide) c_) (fun _ => ?_)
    refine lv_ldc (own := RX7) (v := (-1000002)) hx hb hown (hts _ mx_X7_sack_2) dX7_sack_10 ?_
    exact W.iret (v := (-1000002)) hx hb hr (fun t ht hW => ⟨(-1000002), rfl, (lf_X7_sack_1 nhb nwb nkb hLv hsh hsb f_1_0_0), ht⟩) (fun _ h => by cases h) dX7_sack_12
  · subst h_1
    refine lv_if_ne (tgt := 13) hx hb dX7_sack_7 (by decide) (fun _ => ?_) (fun c_ => absurd c_ (by decide))
    refine lv_iload_n hx hb dX7_sack_13 rfl (lv_at hl 1 rfl) ?_
    refine lv_if_lt (tgt := 32) hx hb dX7_sack_14 (by decide) (fun c_4 => ?_) (fun c_4 => ?_)
    · skip
      refine lv_ldc (own := RX7) (v := (-1000001)) hx hb hown (hts _ mx_X7_sack_3) dX7_sack_32 ?_
      exact W.iret (v := (-1000001)) hx hb hr (fun t ht hW => ⟨(-1000001), rfl, (lf_X7_sack_2 nhb nwb nkb hLv hsh hsb f_1_1_0 c_4), ht⟩) (fun _ h => by cases h) dX7_sack_34
    · skip
      refine lv_iload_n hx hb dX7_sack_17 rfl (lv_at hl 1 rfl) ?_
      refine lv_bipush (v := 120) hx hb dX7_sack_18 (by decide) ?_
      refine lv_icmp_gt (tgt := 32) hx hb dX7_sack_20 (by decide) (fun c_5 => ?_) (fun c_5 => ?_)
      · skip
        refine lv_ldc (own := RX7) (v := (-1000001)) hx hb hown (hts _ mx_X7_sack_3) dX7_sack_32 ?_
        exact W.iret (v := (-1000001)) hx hb hr (fun t ht hW => ⟨(-1000001), rfl, (lf_X7_sack_3 nhb nwb nkb hLv hsh hsb f_1_1_0 c_4 c_5), ht⟩) (fun _ h => by cases h) dX7_sack_34
      · skip
        refine lv_iload_n hx hb dX7_sack_23 rfl (lv_at hl 2 rfl) ?_
        refine lv_if_lt (tgt := 32) hx hb dX7_sack_24 (by decide) (fun c_6 => ?_) (fun c_6 => ?_)
        · skip
          refine lv_ldc (own := RX7) (v := (-1000001)) hx hb hown (hts _ mx_X7_sack_3) dX7_sack_32 ?_
          exact W.iret (v := (-1000001)) hx hb hr (fun t ht hW => ⟨(-1000001), rfl, (lf_X7_sack_4 nhb nwb nkb hLv hsh hsb f_1_1_0 c_4 c_5 c_6), ht⟩) (fun _ h => by cases h) dX7_sack_34
        · skip
          refine lv_iload_n hx hb dX7_sack_27 rfl (lv_at hl 2 rfl) ?_
          refine lv_iconst (v := 2) hx hb dX7_sack_28 (by decide) ?_
          refine lv_icmp_le (tgt := 35) hx hb dX7_sack_29 (by decide) (fun c_7 => ?_) (fun c_7 => ?_)
          · skip
            refine lv_aload_n hx hb dX7_sack_35 rfl (lv_at hl 0 rfl) ?_
            refine va_get (D := (dC, dI)) (ci := 7) (v := .ref no) (C := RX7) (T := TX7) (N := 11) hx hb hts i_X7_sack_X7 hown hK hP 0 rfl rfl 2 (by decide) (hts _ mx_X7_sack_1) (fun _ h9 => h9) rfl dX7_sack_36 ?_
            refine lv_iconst (v := 0) hx hb dX7_sack_39 (by decide) ?_
            have hPc_8 := hP.sub (ws' := [(xo_3_iiiiiiiirrrrr no nv0 nv1 nv2 nv3 (nI nhh) nv5 (nI nww) (nI nkk) nb1 nb2 nb3 nb4 nb5), (xI nb1 cI 6 ng1), (xI nb2 cI 6 ng2), (xI nb3 cI 6 ng3), (xI nb4 cI 6 ng4), (xI nb5 cI 6 ng5)]) [1, 2, 3, 4, 5, 6] rfl
            refine vp_callSi (W.runV (As := [.int 0]) (rest := []) ⟨hx, hb, hml, hown, hts⟩ (r_X3_soundsThatAre l dC dI cI cZ cL cJ no nv0 nv1 nv2 nv3 nv5 nhh nww nkk nb1 nb2 nb3 nb4 nb5 ng1 ng2 ng3 ng4 ng5 0 (by omega) (nwb) (nkb)) (cwV 1 hts gX7_sack_X3_soundsThatAre rfl rfl rfl (by decide +kernel) ⟨Nat.le_of_ble_eq_true rfl, Nat.le_of_ble_eq_true rfl⟩) (pvP 3 1 hK hP rfl rfl hPc_8) rfl rfl hl.1 rfl (lv_room (Nat.le_of_ble_eq_true rfl)) dX7_sack_40 ⟨Nat.le_of_ble_eq_true rfl, Nat.le_of_ble_eq_true rfl⟩) (fun r_8 h_8 => ?_)
            refine lv_istore_n (lv' := [(3, .int r_8), (0, .ref x), (1, .int k0), (2, .int k1)]) hx hb dX7_sack_43 rfl hl (by decide) rfl (fun ls hl => ?_)
            refine lv_iconst (v := 0) hx hb dX7_sack_44 (by decide) ?_
            refine lv_istore (lv' := [(4, .int 0), (3, .int r_8), (0, .ref x), (1, .int k0), (2, .int k1)]) hx hb dX7_sack_45 hl (by decide) rfl (fun ls hl => ?_)
            refine lv_iload_n hx hb dX7_sack_47 rfl (lv_at hl 1 rfl) ?_
            refine lv_istore (lv' := [(5, .int r_8), (4, .int 0), (3, .int r_8), (0, .ref x), (1, .int k0), (2, .int k1)]) hx hb dX7_sack_48 hl (by decide) rfl (fun ls hl => ?_)
            refine lv_iconst (v := 0) hx hb dX7_sack_50 (by decide) ?_
            refine lv_istore (lv' := [(6, .int 0), (5, .int r_8), (4, .int 0), (3, .int r_8), (0, .ref x), (1, .int k0), (2, .int k1)]) hx hb dX7_sack_51 hl (by decide) rfl (fun ls hl => ?_)
            refine lv_iconst (v := 0) hx hb dX7_sack_53 (by decide) ?_
            refine lv_istore (lv' := [(7, .int 0), (6, .int 0), (5, .int r_8), (4, .int 0), (3, .int r_8), (0, .ref x), (1, .int k0), (2, .int k1)]) hx hb dX7_sack_54 hl (by decide) rfl (fun ls hl => ?_)
            refine lp_go (σ := (Int32) × (Int32) × (Int32)) (fun ii (st : (Int32) × (Int32) × (Int32)) H locs ls => match st with | (w_18, w_19, w_20) => lv_has ls 8 [(7, .int (nI ii)), (6, .int w_18), (5, .int w_19), (4, .int w_20), (3, .int r_8), (0, .ref x), (1, .int k0), (2, .int k1)] ∧ H = s.heap ∧ locs = [] ∧ (skF (nrm nv0 nv1 nv2 nv3 nhh nv5 nww nkk ng1 ng2 ng3 ng4 ng5) k0 r_8 ii = (w_20, w_19, w_18))) sh ?_ ?_ 0 (by omega) (0, r_8, 0) ⟨lv_sub hl [0, 1, 2, 3, 4, 5, 6, 7] rfl, rfl, rfl, rfl⟩
            · rintro ii ⟨w_18, w_19, w_20⟩ H locs ls hii ⟨hl, rfl, rfl, haf_0⟩ ih
              refine lv_iload hx hb dX7_sack_56 (lv_at hl 0 rfl) ?_
              refine lv_iconst (v := 1) hx hb dX7_sack_58 (by decide) ?_
              refine lv_aload_n hx hb dX7_sack_59 rfl (lv_at hl 5 rfl) ?_
              refine va_get (D := (dC, dI)) (ci := 7) (v := .ref no) (C := RX7) (T := TX7) (N := 11) hx hb hts i_X7_sack_X7 hown hK hP 0 rfl rfl 2 (by decide) (hts _ mx_X7_sack_1) (fun _ h9 => h9) rfl dX7_sack_60 ?_
              refine va_get (D := (dC, dI)) (ci := 3) (v := .int (nI nkk)) (C := RX3) (T := TX3) (N := 13) hx hb hts i_X7_sack_X3 hown hK hP 1 rfl rfl 7 (by decide) (hts _ mx_X7_sack_4) (fun _ h9 => h9) rfl dX7_sack_63 ?_
              refine lv_ishl hx hb dX7_sack_66 ?_
              refine lv_topi (fun v_34 e_34 => ?_)
              obtain rfl : v_34 = (nI sh) := (e_34).trans hsh
              refine lv_icmp_ge (tgt := 115) hx hb dX7_sack_67 (by decide) (fun c_ => absurd c_ (fun q_ => absurd ((nI_leI (a := sh) (b := ii) (by omega) (by omega)).mp q_) (by omega))) (fun _ => ?_)
              refine lv_iload hx hb dX7_sack_70 (lv_at hl 0 rfl) ?_
              refine lv_iload_n hx hb dX7_sack_72 rfl (lv_at hl 4 rfl) ?_
              refine lv_iconst (v := (-1)) hx hb dX7_sack_73 (by decide) ?_
              refine lv_ixor hx hb dX7_sack_74 ?_
              refine lv_topi (fun v_36 e_36 => ?_)
              refine lv_iand hx hb dX7_sack_75 ?_
              refine lv_topi (fun v_37 e_37 => ?_)
              refine lv_if_ne (tgt := 109) hx hb dX7_sack_76 (by decide) (fun c_38 => ?_) (fun c_38 => ?_)
              · skip
                refine lv_iinc (v := (nI (ii + 1))) (lv' := [(7, .int (nI (ii + 1))), (6, .int w_18), (5, .int w_19), (4, .int w_20), (3, .int r_8), (0, .ref x), (1, .int k0), (2, .int k1)]) hx hb dX7_sack_109 hl (k := 0) rfl (nI_add ii 1) (by decide) rfl (fun ls hl => ?_)
                refine lv_goto (tgt := 56) hx hb dX7_sack_112 (by decide) ?_
                exact ih (w_18, w_19, w_20) _ _ _ ⟨lv_sub hl [0, 1, 2, 3, 4, 5, 6, 7] rfl, rfl, rfl, (lf_X7_sack_5 nhb nwb nkb hLv hsh hsb f_1_1_0 c_4 c_5 c_6 c_7 h_8 hii haf_0 e_36 e_37 c_38)⟩
              · skip
                refine lv_aload_n hx hb dX7_sack_79 rfl (lv_at hl 5 rfl) ?_
                refine va_get (D := (dC, dI)) (ci := 7) (v := .ref no) (C := RX7) (T := TX7) (N := 11) hx hb hts i_X7_sack_X7 hown hK hP 0 rfl rfl 2 (by decide) (hts _ mx_X7_sack_1) (fun _ h9 => h9) rfl dX7_sack_80 ?_
                refine lv_iload hx hb dX7_sack_83 (lv_at hl 0 rfl) ?_
                have hPc_39 := hP.sub (ws' := [(xo_3_iiiiiiiirrrrr no nv0 nv1 nv2 nv3 (nI nhh) nv5 (nI nww) (nI nkk) nb1 nb2 nb3 nb4 nb5), (xI nb1 cI 6 ng1), (xI nb2 cI 6 ng2), (xI nb3 cI 6 ng3), (xI nb4 cI 6 ng4), (xI nb5 cI 6 ng5)]) [1, 2, 3, 4, 5, 6] rfl
                refine vp_callSi (W.runV (As := [.int (nI ii)]) (rest := []) ⟨hx, hb, hml, hown, hts⟩ (r_X3_loudOf l dC dI cI cZ cL cJ no nv0 nv1 nv2 nv3 nv5 nhh nww nkk nb1 nb2 nb3 nb4 nb5 ng1 ng2 ng3 ng4 ng5 (nI ii) (by omega) (nwb) (nkb)) (cwV 1 hts gX7_sack_X3_loudOf rfl rfl rfl (by decide +kernel) ⟨Nat.le_of_ble_eq_true rfl, Nat.le_of_ble_eq_true rfl⟩) (pvP 3 1 hK hP rfl rfl hPc_39) rfl rfl hl.1 rfl (lv_room (Nat.le_of_ble_eq_true rfl)) dX7_sack_85 ⟨Nat.le_of_ble_eq_true rfl, Nat.le_of_ble_eq_true rfl⟩) (fun r_39 h_39 => ?_)
                refine lv_iload_n hx hb dX7_sack_88 rfl (lv_at hl 6 rfl) ?_
                refine lv_icmp_ne (tgt := 109) hx hb dX7_sack_89 (by decide) (fun c_40 => ?_) (fun c_40 => ?_)
                · skip
                  refine lv_iinc (v := (nI (ii + 1))) (lv' := [(7, .int (nI (ii + 1))), (6, .int w_18), (5, .int w_19), (4, .int w_20), (3, .int r_8), (0, .ref x), (1, .int k0), (2, .int k1)]) hx hb dX7_sack_109 hl (k := 0) rfl (nI_add ii 1) (by decide) rfl (fun ls hl => ?_)
                  refine lv_goto (tgt := 56) hx hb dX7_sack_112 (by decide) ?_
                  exact ih (w_18, w_19, w_20) _ _ _ ⟨lv_sub hl [0, 1, 2, 3, 4, 5, 6, 7] rfl, rfl, rfl, (lf_X7_sack_6 nhb nwb nkb hLv hsh hsb f_1_1_0 c_4 c_5 c_6 c_7 h_8 hii haf_0 e_36 e_37 c_38 h_39 c_40)⟩
                · skip
                  obtain ⟨v_41, e_41⟩ : ∃ y : Int32, y = w_20 + Int32.ofInt 1 := ⟨_, rfl⟩
                  refine lv_iinc (v := v_41) (lv' := [(4, .int v_41), (7, .int (nI ii)), (6, .int w_18), (5, .int w_19), (3, .int r_8), (0, .ref x), (1, .int k0), (2, .int k1)]) hx hb dX7_sack_92 hl (k := 3) rfl e_41.symm (by decide) rfl (fun ls hl => ?_)
                  refine lv_iload hx hb dX7_sack_95 (lv_at hl 3 rfl) ?_
                  refine lv_iload hx hb dX7_sack_97 (lv_at hl 1 rfl) ?_
                  refine lv_iand hx hb dX7_sack_99 ?_
                  refine lv_topi (fun v_42 e_42 => ?_)
                  refine lv_istore (lv' := [(5, .int v_42), (4, .int v_41), (7, .int (nI ii)), (6, .int w_18), (3, .int r_8), (0, .ref x), (1, .int k0), (2, .int k1)]) hx hb dX7_sack_100 hl (by decide) rfl (fun ls hl => ?_)
                  refine lv_iload hx hb dX7_sack_102 (lv_at hl 3 rfl) ?_
                  refine lv_iload hx hb dX7_sack_104 (lv_at hl 2 rfl) ?_
                  refine lv_ior hx hb dX7_sack_106 ?_
                  refine lv_topi (fun v_43 e_43 => ?_)
                  refine lv_istore (lv' := [(6, .int v_43), (5, .int v_42), (4, .int v_41), (7, .int (nI ii)), (3, .int r_8), (0, .ref x), (1, .int k0), (2, .int k1)]) hx hb dX7_sack_107 hl (by decide) rfl (fun ls hl => ?_)
                  refine lv_iinc (v := (nI (ii + 1))) (lv' := [(7, .int (nI (ii + 1))), (6, .int v_43), (5, .int v_42), (4, .int v_41), (3, .int r_8), (0, .ref x), (1, .int k0), (2, .int k1)]) hx hb dX7_sack_109 hl (k := 3) rfl (nI_add ii 1) (by decide) rfl (fun ls hl => ?_)
                  refine lv_goto (tgt := 56) hx hb dX7_sack_112 (by decide) ?_
                  exact ih (v_43, v_42, v_41) _ _ _ ⟨lv_sub hl [0, 1, 2, 3, 4, 5, 6, 7] rfl, rfl, rfl, (lf_X7_sack_7 nhb nwb nkb hLv hsh hsb f_1_1_0 c_4 c_5 c_6 c_7 h_8 hii haf_0 e_36 e_37 c_38 h_39 c_40 e_41 e_42 e_43)⟩
            · rintro ⟨w_18, w_19, w_20⟩ H locs ls ⟨hl, rfl, rfl, haf_0⟩
              refine lv_iload hx hb dX7_sack_56 (lv_at hl 0 rfl) ?_
              refine lv_iconst (v := 1) hx hb dX7_sack_58 (by decide) ?_
              refine lv_aload_n hx hb dX7_sack_59 rfl (lv_at hl 5 rfl) ?_
              refine va_get (D := (dC, dI)) (ci := 7) (v := .ref no) (C := RX7) (T := TX7) (N := 11) hx hb hts i_X7_sack_X7 hown hK hP 0 rfl rfl 2 (by decide) (hts _ mx_X7_sack_1) (fun _ h9 => h9) rfl dX7_sack_60 ?_
              refine va_get (D := (dC, dI)) (ci := 3) (v := .int (nI nkk)) (C := RX3) (T := TX3) (N := 13) hx hb hts i_X7_sack_X3 hown hK hP 1 rfl rfl 7 (by decide) (hts _ mx_X7_sack_4) (fun _ h9 => h9) rfl dX7_sack_63 ?_
              refine lv_ishl hx hb dX7_sack_66 ?_
              refine lv_topi (fun v_44 e_44 => ?_)
              obtain rfl : v_44 = (nI sh) := (e_44).trans hsh
              refine lv_icmp_ge (tgt := 115) hx hb dX7_sack_67 (by decide) (fun _ => ?_) (fun c_ => absurd ((nI_leI (a := sh) (b := sh) (by omega) (by omega)).mpr (by omega)) c_)
              refine lv_iload_n hx hb dX7_sack_115 rfl (lv_at hl 7 rfl) ?_
              refine lv_if_ne (tgt := 122) hx hb dX7_sack_116 (by decide) (fun c_46 => ?_) (fun c_46 => ?_)
              · skip
                refine lv_iload_n hx hb dX7_sack_122 rfl (lv_at hl 7 rfl) ?_
                refine lv_iconst (v := 2) hx hb dX7_sack_123 (by decide) ?_
                refine lv_icmp_ne (tgt := 132) hx hb dX7_sack_124 (by decide) (fun c_47 => ?_) (fun c_47 => ?_)
                · skip
                  refine lv_iload hx hb dX7_sack_132 (lv_at hl 3 rfl) ?_
                  refine lv_if_ne (tgt := 141) hx hb dX7_sack_134 (by decide) (fun c_48 => ?_) (fun c_48 => ?_)
                  · skip
                    refine lv_iload hx hb dX7_sack_141 (lv_at hl 2 rfl) ?_
                    exact W.iret (v := w_19) hx hb hr (fun t ht hW => ⟨w_19, rfl, (lf_X7_sack_8 nhb nwb nkb hLv hsh hsb f_1_1_0 c_4 c_5 c_6 c_7 h_8 haf_0 c_46 c_47 c_48), ht⟩) (fun _ h => by cases h) dX7_sack_143
                  · skip
                    refine lv_iconst (v := 0) hx hb dX7_sack_137 (by decide) ?_
                    refine lv_goto (tgt := 143) hx hb dX7_sack_138 (by decide) ?_
                    exact W.iret (v := 0) hx hb hr (fun t ht hW => ⟨0, rfl, (lf_X7_sack_9 nhb nwb nkb hLv hsh hsb f_1_1_0 c_4 c_5 c_6 c_7 h_8 haf_0 c_46 c_47 c_48), ht⟩) (fun _ h => by cases h) dX7_sack_143
                · skip
                  refine lv_iload hx hb dX7_sack_127 (lv_at hl 1 rfl) ?_
                  refine lv_goto (tgt := 143) hx hb dX7_sack_129 (by decide) ?_
                  exact W.iret (v := w_18) hx hb hr (fun t ht hW => ⟨w_18, rfl, (lf_X7_sack_10 nhb nwb nkb hLv hsh hsb f_1_1_0 c_4 c_5 c_6 c_7 h_8 haf_0 c_46 c_47), ht⟩) (fun _ h => by cases h) dX7_sack_143
              · skip
                refine lv_iload hx hb dX7_sack_119 (lv_at hl 3 rfl) ?_
                exact W.iret (v := w_20) hx hb hr (fun t ht hW => ⟨w_20, rfl, (lf_X7_sack_11 nhb nwb nkb hLv hsh hsb f_1_1_0 c_4 c_5 c_6 c_7 h_8 haf_0 c_46), ht⟩) (fun _ h => by cases h) dX7_sack_121
          · skip
            refine lv_ldc (own := RX7) (v := (-1000001)) hx hb hown (hts _ mx_X7_sack_3) dX7_sack_32 ?_
            exact W.iret (v := (-1000001)) hx hb hr (fun t ht hW => ⟨(-1000001), rfl, (lf_X7_sack_12 nhb nwb nkb hLv hsh hsb f_1_1_0 c_4 c_5 c_6 c_7), ht⟩) (fun _ h => by cases h) dX7_sack_34
theorem lf_X7_trace_1 {z : Nat} {ft : Nat → Int32} {k0 : Int32} (hz : z ≤ 16) (c_1 : k0 < 0) : (-1000000) = (a_trc (z, ft) k0) := by
  simp only [a_trc]; grind
theorem lf_X7_trace_2 {z : Nat} {ft : Nat → Int32} {k0 : Int32} (hz : z ≤ 16) (c_1 : ¬ (k0 < 0)) (c_2 : (nI z) ≤ k0) : (-1000000) = (a_trc (z, ft) k0) := by
  simp only [a_trc]; grind
theorem lf_X7_trace_3 {z : Nat} {ft : Nat → Int32} {k0 : Int32} {v_3 : Int32} (hz : z ≤ 16) (c_1 : ¬ (k0 < 0)) (c_2 : ¬ ((nI z) ≤ k0)) (e_3 : v_3 = ft (k0 : Int32).toNatClampNeg) : v_3 = (a_trc (z, ft) k0) := by
  simp only [a_trc]; grind
set_option maxHeartbeats 4000000 in
set_option maxRecDepth 100000 in
theorem r_X7_trace (l : Launch) (dC : Nat → ClassId) (dI : Nat → Nat → Nat) (cI cZ cL cJ : ClassId) (x : Nat) (ro : Nat) (ta : Nat) (no : Nat) (ac : Nat) (im : Nat) (tr : Nat) (pl : Nat) (cs : Nat) (ak : Nat) (xf : Int32) (xg : Int32) (tc : Nat) (z : Nat) (nu : Int32) (ki : Int32) (ce : Int32) (lo : Int32) (ft : Nat → Int32) (k0 : Int32) (hz : z ≤ 16) : Met l yX7_trace wsX7_trace ({ frames := 0, cells := 0, slots := 0, locals := 0 }) (va_Pc [.ref x, .int k0] (fun U => va_P (dC, dI) vwCl [(xo_7_rrrrrrrrrii x ro ta no ac im tr pl cs ak xf xg), (xo_1_riiiii ak tc (nI z) nu ki ce lo), (xI tc cI 16 ft)] U.heap ∧ va_K (dC, dI) vwCl [(cI, .int), (cZ, .boolean), (cL, .object RX3), (cJ, .array .int)] U)) (vp_Si (fun r => r = (a_trc (z, ft) k0))) 0 0 (fun _ => False) := by
  refine Met.ofW (cc := cX7_trace) (maxL := 2) (ret := (some .int)) (by decide) rfl ?_
  intro p e s m args below meth c s₁ B hml hv
  obtain ⟨rfl, hP, hK⟩ := hv
  have hx := B.exec
  have hb := B.bytes
  have hr := B.returns
  have hts := atoms_spec (ws := wsX7_trace) B.pre
  have hown : s.vm.findClass RX7 = some m.cls := findClass_of_methodNamed B.named
  have hlocks := B.notSynchronized
  have hP : va_P (dC, dI) vwCl [(xo_7_rrrrrrrrrii x ro ta no ac im tr pl cs ak xf xg), (xo_1_riiiii ak tc (nI z) nu ki ce lo), (xI tc cI 16 ft)] s.heap := hP
  have hl := lv_entry ([.ref x, .int k0]) (n := 2) (Nat.le_of_ble_eq_true rfl)
  rw [lg_entry_eq]
  generalize (lg_sl ([.ref x, .int k0]) ++ List.replicate (2 - (lg_sl ([.ref x, .int k0])).length) Slot.unset).toArray = ls at hl ⊢
  have hl : lv_has ls 2 [(0, .ref x), (1, .int k0)] := hl
  refine lv_iload_n hx hb dX7_trace_0 rfl (lv_at hl 1 rfl) ?_
  refine lv_if_lt (tgt := 27) hx hb dX7_trace_1 (by decide) (fun c_1 => ?_) (fun c_1 => ?_)
  · skip
    refine lv_ldc (own := RX7) (v := (-1000000)) hx hb hown (hts _ mx_X7_trace_4) dX7_trace_27 ?_
    exact W.iret (v := (-1000000)) hx hb hr (fun t ht hW => ⟨(-1000000), rfl, (lf_X7_trace_1 hz c_1), ht⟩) (fun _ h => by cases h) dX7_trace_29
  · skip
    refine lv_iload_n hx hb dX7_trace_4 rfl (lv_at hl 1 rfl) ?_
    refine lv_aload_n hx hb dX7_trace_5 rfl (lv_at hl 0 rfl) ?_
    refine va_get (D := (dC, dI)) (ci := 7) (v := .ref ak) (C := RX7) (T := TX7) (N := 11) hx hb hts i_X7_trace_X7 hown hK hP 0 rfl rfl 8 (by decide) (hts _ mx_X7_trace_1) (fun _ h9 => h9) rfl dX7_trace_6 ?_
    refine va_get (D := (dC, dI)) (ci := 1) (v := .int (nI z)) (C := RX1) (T := TX1) (N := 6) hx hb hts i_X7_trace_X1 hown hK hP 1 rfl rfl 1 (by decide) (hts _ mx_X7_trace_2) (fun _ h9 => h9) rfl dX7_trace_9 ?_
    refine lv_icmp_ge (tgt := 27) hx hb dX7_trace_12 (by decide) (fun c_2 => ?_) (fun c_2 => ?_)
    · skip
      refine lv_ldc (own := RX7) (v := (-1000000)) hx hb hown (hts _ mx_X7_trace_4) dX7_trace_27 ?_
      exact W.iret (v := (-1000000)) hx hb hr (fun t ht hW => ⟨(-1000000), rfl, (lf_X7_trace_2 hz c_1 c_2), ht⟩) (fun _ h => by cases h) dX7_trace_29
    · skip
      refine lv_aload_n hx hb dX7_trace_15 rfl (lv_at hl 0 rfl) ?_
      refine va_get (D := (dC, dI)) (ci := 7) (v := .ref ak) (C := RX7) (T := TX7) (N := 11) hx hb hts i_X7_trace_X7 hown hK hP 0 rfl rfl 8 (by decide) (hts _ mx_X7_trace_1) (fun _ h9 => h9) rfl dX7_trace_16 ?_
      refine va_get (D := (dC, dI)) (ci := 1) (v := .ref tc) (C := RX1) (T := TX1) (N := 6) hx hb hts i_X7_trace_X1 hown hK hP 1 rfl rfl 0 (by decide) (hts _ mx_X7_trace_3) (fun _ h9 => h9) rfl dX7_trace_19 ?_
      refine lv_iload_n hx hb dX7_trace_22 rfl (lv_at hl 1 rfl) ?_
      refine va_iald hx hb hK hP 2 0 rfl rfl (in_mono (in_of c_1 c_2 (by omega)) hz) dX7_trace_23 ?_
      refine lv_topi (fun v_3 e_3 => ?_)
      refine lv_goto (tgt := 29) hx hb dX7_trace_24 (by decide) ?_
      exact W.iret (v := v_3) hx hb hr (fun t ht hW => ⟨v_3, rfl, (lf_X7_trace_3 hz c_1 c_2 e_3), ht⟩) (fun _ h => by cases h) dX7_trace_29
theorem lf_J6_bitCount_1 {j : Nat} {v_1 : Int32} {v_2 : Int32} {v_3 : Int32} {v_4 : Int32} {v_5 : Int32} {v_6 : Int32} {v_7 : Int32} {v_8 : Int32} {v_9 : Int32} {v_10 : Int32} {v_11 : Int32} {v_12 : Int32} {v_13 : Int32} {v_14 : Int32} {v_15 : Int32} (hj : j < 64) (e_1 : v_1 = ((((nI j) : Int32).toUInt32 >>> ((1 : Int32).toUInt32 &&& Int32.toUInt32 31)).toInt32)) (e_2 : v_2 = (v_1 &&& 1431655765)) (e_3 : v_3 = ((nI j) - v_2)) (e_4 : v_4 = (v_3 &&& 858993459)) (e_5 : v_5 = (((v_3 : Int32).toUInt32 >>> ((2 : Int32).toUInt32 &&& Int32.toUInt32 31)).toInt32)) (e_6 : v_6 = (v_5 &&& 858993459)) (e_7 : v_7 = (v_4 + v_6)) (e_8 : v_8 = (((v_7 : Int32).toUInt32 >>> ((4 : Int32).toUInt32 &&& Int32.toUInt32 31)).toInt32)) (e_9 : v_9 = (v_7 + v_8)) (e_10 : v_10 = (v_9 &&& 252645135)) (e_11 : v_11 = (((v_10 : Int32).toUInt32 >>> ((8 : Int32).toUInt32 &&& Int32.toUInt32 31)).toInt32)) (e_12 : v_12 = (v_10 + v_11)) (e_13 : v_13 = (((v_12 : Int32).toUInt32 >>> ((16 : Int32).toUInt32 &&& Int32.toUInt32 31)).toInt32)) (e_14 : v_14 = (v_12 + v_13)) (e_15 : v_15 = (v_14 &&& 63)) : v_15 = (nI (onN j)) := by
  subst_vars; revert j; decide +kernel
set_option maxHeartbeats 4000000 in
set_option maxRecDepth 100000 in
theorem r_J6_bitCount (l : Launch) (dC : Nat → ClassId) (dI : Nat → Nat → Nat) (cI cZ cL cJ : ClassId) (j : Nat) (hj : j < 64) : Met l yJ6_bitCount_0f7a4 wsJ6_bitCount_0f7a4 ({ frames := 0, cells := 0, slots := 0, locals := 0 }) (va_Pc [.int (nI j)] (fun U => va_P (dC, dI) vwCl [] U.heap ∧ va_K (dC, dI) vwCl [(cI, .int), (cZ, .boolean), (cL, .object RX3), (cJ, .array .int)] U)) (vp_Si (fun r => r = (nI (onN j)))) 0 0 (fun _ => False) := by
  refine Met.ofW (cc := cJ6_bitCount_0f7a4) (maxL := 1) (ret := (some .int)) (by decide) rfl ?_
  intro p e s m args below meth c s₁ B hml hv
  obtain ⟨rfl, hP, hK⟩ := hv
  have hx := B.exec
  have hb := B.bytes
  have hr := B.returns
  have hts := atoms_spec (ws := wsJ6_bitCount_0f7a4) B.pre
  have hown : s.vm.findClass RJ6 = some m.cls := findClass_of_methodNamed B.named
  have hlocks := B.notSynchronized
  have hP : va_P (dC, dI) vwCl [] s.heap := hP
  have hl := lv_entry ([.int (nI j)]) (n := 1) (Nat.le_of_ble_eq_true rfl)
  rw [lg_entry_eq]
  generalize (lg_sl ([.int (nI j)]) ++ List.replicate (1 - (lg_sl ([.int (nI j)])).length) Slot.unset).toArray = ls at hl ⊢
  have hl : lv_has ls 1 [(0, .int (nI j))] := hl
  refine lv_iload_n hx hb dJ6_bitCount_0f7a4_0 rfl (lv_at hl 0 rfl) ?_
  refine lv_iload_n hx hb dJ6_bitCount_0f7a4_1 rfl (lv_at hl 0 rfl) ?_
  refine lv_iconst (v := 1) hx hb dJ6_bitCount_0f7a4_2 (by decide) ?_
  refine lv_iushr hx hb dJ6_bitCount_0f7a4_3 rfl ?_
  refine lv_topi (fun v_1 e_1 => ?_)
  refine lv_ldcw (own := RJ6) (v := 1431655765) hx hb hown (hts _ mx_J6_bitCount_0f7a4_1) dJ6_bitCount_0f7a4_4 ?_
  refine lv_iand hx hb dJ6_bitCount_0f7a4_7 ?_
  refine lv_topi (fun v_2 e_2 => ?_)
  refine lv_isub hx hb dJ6_bitCount_0f7a4_8 ?_
  refine lv_topi (fun v_3 e_3 => ?_)
  refine lv_istore_n (lv' := [(0, .int v_3)]) hx hb dJ6_bitCount_0f7a4_9 rfl hl (by decide) rfl (fun ls hl => ?_)
  refine lv_iload_n hx hb dJ6_bitCount_0f7a4_10 rfl (lv_at hl 0 rfl) ?_
  refine lv_ldcw (own := RJ6) (v := 858993459) hx hb hown (hts _ mx_J6_bitCount_0f7a4_2) dJ6_bitCount_0f7a4_11 ?_
  refine lv_iand hx hb dJ6_bitCount_0f7a4_14 ?_
  refine lv_topi (fun v_4 e_4 => ?_)
  refine lv_iload_n hx hb dJ6_bitCount_0f7a4_15 rfl (lv_at hl 0 rfl) ?_
  refine lv_iconst (v := 2) hx hb dJ6_bitCount_0f7a4_16 (by decide) ?_
  refine lv_iushr hx hb dJ6_bitCount_0f7a4_17 rfl ?_
  refine lv_topi (fun v_5 e_5 => ?_)
  refine lv_ldcw (own := RJ6) (v := 858993459) hx hb hown (hts _ mx_J6_bitCount_0f7a4_2) dJ6_bitCount_0f7a4_18 ?_
  refine lv_iand hx hb dJ6_bitCount_0f7a4_21 ?_
  refine lv_topi (fun v_6 e_6 => ?_)
  refine lv_iadd hx hb dJ6_bitCount_0f7a4_22 ?_
  refine lv_topi (fun v_7 e_7 => ?_)
  refine lv_istore_n (lv' := [(0, .int v_7)]) hx hb dJ6_bitCount_0f7a4_23 rfl hl (by decide) rfl (fun ls hl => ?_)
  refine lv_iload_n hx hb dJ6_bitCount_0f7a4_24 rfl (lv_at hl 0 rfl) ?_
  refine lv_iload_n hx hb dJ6_bitCount_0f7a4_25 rfl (lv_at hl 0 rfl) ?_
  refine lv_iconst (v := 4) hx hb dJ6_bitCount_0f7a4_26 (by decide) ?_
  refine lv_iushr hx hb dJ6_bitCount_0f7a4_27 rfl ?_
  refine lv_topi (fun v_8 e_8 => ?_)
  refine lv_iadd hx hb dJ6_bitCount_0f7a4_28 ?_
  refine lv_topi (fun v_9 e_9 => ?_)
  refine lv_ldcw (own := RJ6) (v := 252645135) hx hb hown (hts _ mx_J6_bitCount_0f7a4_3) dJ6_bitCount_0f7a4_29 ?_
  refine lv_iand hx hb dJ6_bitCount_0f7a4_32 ?_
  refine lv_topi (fun v_10 e_10 => ?_)
  refine lv_istore_n (lv' := [(0, .int v_10)]) hx hb dJ6_bitCount_0f7a4_33 rfl hl (by decide) rfl (fun ls hl => ?_)
  refine lv_iload_n hx hb dJ6_bitCount_0f7a4_34 rfl (lv_at hl 0 rfl) ?_
  refine lv_iload_n hx hb dJ6_bitCount_0f7a4_35 rfl (lv_at hl 0 rfl) ?_
  refine lv_bipush (v := 8) hx hb dJ6_bitCount_0f7a4_36 (by decide) ?_
  refine lv_iushr hx hb dJ6_bitCount_0f7a4_38 rfl ?_
  refine lv_topi (fun v_11 e_11 => ?_)
  refine lv_iadd hx hb dJ6_bitCount_0f7a4_39 ?_
  refine lv_topi (fun v_12 e_12 => ?_)
  refine lv_istore_n (lv' := [(0, .int v_12)]) hx hb dJ6_bitCount_0f7a4_40 rfl hl (by decide) rfl (fun ls hl => ?_)
  refine lv_iload_n hx hb dJ6_bitCount_0f7a4_41 rfl (lv_at hl 0 rfl) ?_
  refine lv_iload_n hx hb dJ6_bitCount_0f7a4_42 rfl (lv_at hl 0 rfl) ?_
  refine lv_bipush (v := 16) hx hb dJ6_bitCount_0f7a4_43 (by decide) ?_
  refine lv_iushr hx hb dJ6_bitCount_0f7a4_45 rfl ?_
  refine lv_topi (fun v_13 e_13 => ?_)
  refine lv_iadd hx hb dJ6_bitCount_0f7a4_46 ?_
  refine lv_topi (fun v_14 e_14 => ?_)
  refine lv_istore_n (lv' := [(0, .int v_14)]) hx hb dJ6_bitCount_0f7a4_47 rfl hl (by decide) rfl (fun ls hl => ?_)
  refine lv_iload_n hx hb dJ6_bitCount_0f7a4_48 rfl (lv_at hl 0 rfl) ?_
  refine lv_bipush (v := 63) hx hb dJ6_bitCount_0f7a4_49 (by decide) ?_
  refine lv_iand hx hb dJ6_bitCount_0f7a4_51 ?_
  refine lv_topi (fun v_15 e_15 => ?_)
  exact W.iret (v := v_15) hx hb hr (fun t ht hW => ⟨v_15, rfl, (lf_J6_bitCount_1 hj e_1 e_2 e_3 e_4 e_5 e_6 e_7 e_8 e_9 e_10 e_11 e_12 e_13 e_14 e_15), ht⟩) (fun _ h => by cases h) dJ6_bitCount_0f7a4_52
theorem lf_X7_count_1 {nv0 : Int32} {nv1 : Int32} {nv2 : Int32} {nv3 : Int32} {nv5 : Int32} {nhh : Nat} {nww : Nat} {nkk : Nat} {ng1 : Nat → Int32} {ng2 : Nat → Int32} {ng3 : Nat → Int32} {ng4 : Nat → Int32} {ng5 : Nat → Int32} {fl : Nat → Int32} {z : Nat} {az : Nat} {r_2 : Int32} (nhb : nhh ≤ 999) (nwb : nww ≤ 6) (nkb : nkk ≤ 6) (hLv : okLv (nrm nv0 nv1 nv2 nv3 nhh nv5 nww nkk ng1 ng2 ng3 ng4 ng5)) (h_2 : r_2 = (prR fl 8)) : r_2 = (a_count (abl fl) (nrm nv0 nv1 nv2 nv3 nhh nv5 nww nkk ng1 ng2 ng3 ng4 ng5) az z (0 : Int32)) := by
  obtain ⟨t0, t1⟩ := tX hLv nwb nkb (by omega)
  simp only [a_count, prR_abl, nr0, nr1, nr2, nr3, nr4, nr5, nr6, nr7] at *
  grind [nI_clamp, nrg1, nrg2, nrg3, nrg4, nrg5, sB_ok, th_nrm, nI_clamp, gu_nrm, df_eq, dfX, tlX, nI_pos, n60]
theorem lf_X7_count_2 {nv0 : Int32} {nv1 : Int32} {nv2 : Int32} {nv3 : Int32} {nv5 : Int32} {nhh : Nat} {nww : Nat} {nkk : Nat} {ng1 : Nat → Int32} {ng2 : Nat → Int32} {ng3 : Nat → Int32} {ng4 : Nat → Int32} {ng5 : Nat → Int32} {fl : Nat → Int32} {z : Nat} {az : Nat} (nhb : nhh ≤ 999) (nwb : nww ≤ 6) (nkb : nkk ≤ 6) (hLv : okLv (nrm nv0 nv1 nv2 nv3 nhh nv5 nww nkk ng1 ng2 ng3 ng4 ng5)) (k_1 : ¬ (1 : Int32) = 0) : (nI nkk) = (a_count (abl fl) (nrm nv0 nv1 nv2 nv3 nhh nv5 nww nkk ng1 ng2 ng3 ng4 ng5) az z (1 : Int32)) := by
  obtain ⟨t0, t1⟩ := tX hLv nwb nkb (by omega)
  simp only [a_count, prR_abl, nr0, nr1, nr2, nr3, nr4, nr5, nr6, nr7] at *
  grind [nI_clamp, nrg1, nrg2, nrg3, nrg4, nrg5, sB_ok, th_nrm, nI_clamp, gu_nrm, df_eq, dfX, tlX, nI_pos, n60]
theorem lf_X7_count_3 {nv0 : Int32} {nv1 : Int32} {nv2 : Int32} {nv3 : Int32} {nv5 : Int32} {nhh : Nat} {nww : Nat} {nkk : Nat} {ng1 : Nat → Int32} {ng2 : Nat → Int32} {ng3 : Nat → Int32} {ng4 : Nat → Int32} {ng5 : Nat → Int32} {fl : Nat → Int32} {z : Nat} {az : Nat} (nhb : nhh ≤ 999) (nwb : nww ≤ 6) (nkb : nkk ≤ 6) (hLv : okLv (nrm nv0 nv1 nv2 nv3 nhh nv5 nww nkk ng1 ng2 ng3 ng4 ng5)) (k_1 : ¬ (2 : Int32) = 0) (k_3 : ¬ (2 : Int32) = 1) : (nI nww) = (a_count (abl fl) (nrm nv0 nv1 nv2 nv3 nhh nv5 nww nkk ng1 ng2 ng3 ng4 ng5) az z (2 : Int32)) := by
  obtain ⟨t0, t1⟩ := tX hLv nwb nkb (by omega)
  simp only [a_count, prR_abl, nr0, nr1, nr2, nr3, nr4, nr5, nr6, nr7] at *
  grind [nI_clamp, nrg1, nrg2, nrg3, nrg4, nrg5, sB_ok, th_nrm, nI_clamp, gu_nrm, df_eq, dfX, tlX, nI_pos, n60]
theorem lf_X7_count_4 {nv0 : Int32} {nv1 : Int32} {nv2 : Int32} {nv3 : Int32} {nv5 : Int32} {nhh : Nat} {nww : Nat} {nkk : Nat} {ng1 : Nat → Int32} {ng2 : Nat → Int32} {ng3 : Nat → Int32} {ng4 : Nat → Int32} {ng5 : Nat → Int32} {fl : Nat → Int32} {z : Nat} {az : Nat} (nhb : nhh ≤ 999) (nwb : nww ≤ 6) (nkb : nkk ≤ 6) (hLv : okLv (nrm nv0 nv1 nv2 nv3 nhh nv5 nww nkk ng1 ng2 ng3 ng4 ng5)) (k_1 : ¬ (3 : Int32) = 0) (k_3 : ¬ (3 : Int32) = 1) (k_4 : ¬ (3 : Int32) = 2) : (nI nhh) = (a_count (abl fl) (nrm nv0 nv1 nv2 nv3 nhh nv5 nww nkk ng1 ng2 ng3 ng4 ng5) az z (3 : Int32)) := by
  obtain ⟨t0, t1⟩ := tX hLv nwb nkb (by omega)
  simp only [a_count, prR_abl, nr0, nr1, nr2, nr3, nr4, nr5, nr6, nr7] at *
  grind [nI_clamp, nrg1, nrg2, nrg3, nrg4, nrg5, sB_ok, th_nrm, nI_clamp, gu_nrm, df_eq, dfX, tlX, nI_pos, n60]
theorem lf_X7_count_5 {nv0 : Int32} {nv1 : Int32} {nv2 : Int32} {nv3 : Int32} {nv5 : Int32} {nhh : Nat} {nww : Nat} {nkk : Nat} {ng1 : Nat → Int32} {ng2 : Nat → Int32} {ng3 : Nat → Int32} {ng4 : Nat → Int32} {ng5 : Nat → Int32} {fl : Nat → Int32} {z : Nat} {az : Nat} (nhb : nhh ≤ 999) (nwb : nww ≤ 6) (nkb : nkk ≤ 6) (hLv : okLv (nrm nv0 nv1 nv2 nv3 nhh nv5 nww nkk ng1 ng2 ng3 ng4 ng5)) (k_1 : ¬ (4 : Int32) = 0) (k_3 : ¬ (4 : Int32) = 1) (k_4 : ¬ (4 : Int32) = 2) (k_5 : ¬ (4 : Int32) = 3) : nv5 = (a_count (abl fl) (nrm nv0 nv1 nv2 nv3 nhh nv5 nww nkk ng1 ng2 ng3 ng4 ng5) az z (4 : Int32)) := by
  obtain ⟨t0, t1⟩ := tX hLv nwb nkb (by omega)
  simp only [a_count, prR_abl, nr0, nr1, nr2, nr3, nr4, nr5, nr6, nr7] at *
  grind [nI_clamp, nrg1, nrg2, nrg3, nrg4, nrg5, sB_ok, th_nrm, nI_clamp, gu_nrm, df_eq, dfX, tlX, nI_pos, n60]
theorem lf_X7_count_6 {nv0 : Int32} {nv1 : Int32} {nv2 : Int32} {nv3 : Int32} {nv5 : Int32} {nhh : Nat} {nww : Nat} {nkk : Nat} {ng1 : Nat → Int32} {ng2 : Nat → Int32} {ng3 : Nat → Int32} {ng4 : Nat → Int32} {ng5 : Nat → Int32} {fl : Nat → Int32} {z : Nat} {az : Nat} {bz : Nat} {r_9 : Int32} (nhb : nhh ≤ 999) (nwb : nww ≤ 6) (nkb : nkk ≤ 6) (hLv : okLv (nrm nv0 nv1 nv2 nv3 nhh nv5 nww nkk ng1 ng2 ng3 ng4 ng5)) (k_1 : ¬ (5 : Int32) = 0) (k_3 : ¬ (5 : Int32) = 1) (k_4 : ¬ (5 : Int32) = 2) (k_5 : ¬ (5 : Int32) = 3) (k_6 : ¬ (5 : Int32) = 4) (h_8 : (nI bz) = (thR ng5 0 nkk)) (hbz : bz < 64) (h_9 : r_9 = (nI (onN bz))) : r_9 = (a_count (abl fl) (nrm nv0 nv1 nv2 nv3 nhh nv5 nww nkk ng1 ng2 ng3 ng4 ng5) az z (5 : Int32)) := by
  obtain ⟨t0, t1⟩ := tX hLv nwb nkb (by omega)
  simp only [a_count, prR_abl, nr0, nr1, nr2, nr3, nr4, nr5, nr6, nr7] at *
  grind [nI_clamp, nrg1, nrg2, nrg3, nrg4, nrg5, sB_ok, th_nrm, nI_clamp, gu_nrm, df_eq, dfX, tlX, nI_pos, n60]
theorem lf_X7_count_7 {nv0 : Int32} {nv1 : Int32} {nv2 : Int32} {nv3 : Int32} {nv5 : Int32} {nhh : Nat} {nww : Nat} {nkk : Nat} {ng1 : Nat → Int32} {ng2 : Nat → Int32} {ng3 : Nat → Int32} {ng4 : Nat → Int32} {ng5 : Nat → Int32} {fl : Nat → Int32} {z : Nat} {az : Nat} (nhb : nhh ≤ 999) (nwb : nww ≤ 6) (nkb : nkk ≤ 6) (hLv : okLv (nrm nv0 nv1 nv2 nv3 nhh nv5 nww nkk ng1 ng2 ng3 ng4 ng5)) (k_1 : ¬ (6 : Int32) = 0) (k_3 : ¬ (6 : Int32) = 1) (k_4 : ¬ (6 : Int32) = 2) (k_5 : ¬ (6 : Int32) = 3) (k_6 : ¬ (6 : Int32) = 4) (k_7 : ¬ (6 : Int32) = 5) : (nI az) = (a_count (abl fl) (nrm nv0 nv1 nv2 nv3 nhh nv5 nww nkk ng1 ng2 ng3 ng4 ng5) az z (6 : Int32)) := by
  obtain ⟨t0, t1⟩ := tX hLv nwb nkb (by omega)
  simp only [a_count, prR_abl, nr0, nr1, nr2, nr3, nr4, nr5, nr6, nr7] at *
  grind [nI_clamp, nrg1, nrg2, nrg3, nrg4, nrg5, sB_ok, th_nrm, nI_clamp, gu_nrm, df_eq, dfX, tlX, nI_pos, n60]
theorem lf_X7_count_8 {nv0 : Int32} {nv1 : Int32} {nv2 : Int32} {nv3 : Int32} {nv5 : Int32} {nhh : Nat} {nww : Nat} {nkk : Nat} {ng1 : Nat → Int32} {ng2 : Nat → Int32} {ng3 : Nat → Int32} {ng4 : Nat → Int32} {ng5 : Nat → Int32} {fl : Nat → Int32} {z : Nat} {az : Nat} (nhb : nhh ≤ 999) (nwb : nww ≤ 6) (nkb : nkk ≤ 6) (hLv : okLv (nrm nv0 nv1 nv2 nv3 nhh nv5 nww nkk ng1 ng2 ng3 ng4 ng5)) (k_1 : ¬ (7 : Int32) = 0) (k_3 : ¬ (7 : Int32) = 1) (k_4 : ¬ (7 : Int32) = 2) (k_5 : ¬ (7 : Int32) = 3) (k_6 : ¬ (7 : Int32) = 4) (k_7 : ¬ (7 : Int32) = 5) (k_10 : ¬ (7 : Int32) = 6) : (nI z) = (a_count (abl fl) (nrm nv0 nv1 nv2 nv3 nhh nv5 nww nkk ng1 ng2 ng3 ng4 ng5) az z (7 : Int32)) := by
  obtain ⟨t0, t1⟩ := tX hLv nwb nkb (by omega)
  simp only [a_count, prR_abl, nr0, nr1, nr2, nr3, nr4, nr5, nr6, nr7] at *
  grind [nI_clamp, nrg1, nrg2, nrg3, nrg4, nrg5, sB_ok, th_nrm, nI_clamp, gu_nrm, df_eq, dfX, tlX, nI_pos, n60]
theorem lf_X7_count_9 {nv0 : Int32} {nv1 : Int32} {nv2 : Int32} {nv3 : Int32} {nv5 : Int32} {nhh : Nat} {nww : Nat} {nkk : Nat} {ng1 : Nat → Int32} {ng2 : Nat → Int32} {ng3 : Nat → Int32} {ng4 : Nat → Int32} {ng5 : Nat → Int32} {fl : Nat → Int32} {z : Nat} {az : Nat} {k0 : Int32} (nhb : nhh ≤ 999) (nwb : nww ≤ 6) (nkb : nkk ≤ 6) (hLv : okLv (nrm nv0 nv1 nv2 nv3 nhh nv5 nww nkk ng1 ng2 ng3 ng4 ng5)) (k_1 : ¬ k0 = 0) (k_3 : ¬ k0 = 1) (k_4 : ¬ k0 = 2) (k_5 : ¬ k0 = 3) (k_6 : ¬ k0 = 4) (k_7 : ¬ k0 = 5) (k_10 : ¬ k0 = 6) (k_11 : ¬ k0 = 7) : (-1000001) = (a_count (abl fl) (nrm nv0 nv1 nv2 nv3 nhh nv5 nww nkk ng1 ng2 ng3 ng4 ng5) az z k0) := by
  obtain ⟨t0, t1⟩ := tX hLv nwb nkb (by omega)
  simp only [a_count, prR_abl, nr0, nr1, nr2, nr3, nr4, nr5, nr6, nr7] at *
  grind [nI_clamp, nrg1, nrg2, nrg3, nrg4, nrg5, sB_ok, th_nrm, nI_clamp, gu_nrm, df_eq, dfX, tlX, nI_pos, n60]
set_option maxHeartbeats 4000000 in
set_option maxRecDepth 100000 in
theorem r_X7_count (l : Launch) (dC : Nat → ClassId) (dI : Nat → Nat → Nat) (cI cZ cL cJ : ClassId) (x : Nat) (ro : Nat) (ta : Nat) (no : Nat) (ac : Nat) (im : Nat) (tr : Nat) (pl : Nat) (cs : Nat) (ak : Nat) (xf : Int32) (xg : Int32) (nv0 : Int32) (nv1 : Int32) (nv2 : Int32) (nv3 : Int32) (nv5 : Int32) (nhh : Nat) (nww : Nat) (nkk : Nat) (nb1 : Nat) (nb2 : Nat) (nb3 : Nat) (nb4 : Nat) (nb5 : Nat) (ng1 : Nat → Int32) (ng2 : Nat → Int32) (ng3 : Nat → Int32) (ng4 : Nat → Int32) (ng5 : Nat → Int32) (it : Nat) (la : Nat) (le : Nat) (fl : Nat → Int32) (bs : Nat) (td : Nat) (z : Nat) (fp : Int32) (f : Int32) (k : Int32) (be : Nat) (q : Nat) (az : Nat) (k0 : Int32) (nhb : nhh ≤ 999) (nwb : nww ≤ 6) (nkb : nkk ≤ 6) (hLv : okLv (nrm nv0 nv1 nv2 nv3 nhh nv5 nww nkk ng1 ng2 ng3 ng4 ng5)) : Met l yX7_count wsX7_count ({ frames := 2, cells := 0, slots := 0, locals := 43 }) (va_Pc [.ref x, .int k0] (fun U => va_P (dC, dI) vwCl [(xo_7_rrrrrrrrrii x ro ta no ac im tr pl cs ak xf xg), (xo_3_iiiiiiiirrrrr no nv0 nv1 nv2 nv3 (nI nhh) nv5 (nI nww) (nI nkk) nb1 nb2 nb3 nb4 nb5), (xI nb1 cI 6 ng1), (xI nb2 cI 6 ng2), (xI nb3 cI 6 ng3), (xI nb4 cI 6 ng4), (xI nb5 cI 6 ng5), (xo_5_rrr ro it la le), (xI la cI 8 fl), (xo_6_ririii ta bs (nI z) td fp f k), (xo_0_rii ac be (nI q) (nI az))] U.heap ∧ va_K (dC, dI) vwCl [(cI, .int), (cZ, .boolean), (cL, .object RX3), (cJ, .array .int)] U)) (vp_Si (fun r => r = (a_count (abl fl) (nrm nv0 nv1 nv2 nv3 nhh nv5 nww nkk ng1 ng2 ng3 ng4 ng5) az z k0))) 0 0 (fun _ => False) := by
  refine Met.ofW (cc := cX7_count) (maxL := 2) (ret := (some .int)) (by decide) rfl ?_
  intro p e s m args below meth c s₁ B hml hv
  obtain ⟨rfl, hP, hK⟩ := hv
  have hx := B.exec
  have hb := B.bytes
  have hr := B.returns
  have hts := atoms_spec (ws := wsX7_count) B.pre
  have hown : s.vm.findClass RX7 = some m.cls := findClass_of_methodNamed B.named
  have hlocks := B.notSynchronized
  have hP : va_P (dC, dI) vwCl [(xo_7_rrrrrrrrrii x ro ta no ac im tr pl cs ak xf xg), (xo_3_iiiiiiiirrrrr no nv0 nv1 nv2 nv3 (nI nhh) nv5 (nI nww) (nI nkk) nb1 nb2 nb3 nb4 nb5), (xI nb1 cI 6 ng1), (xI nb2 cI 6 ng2), (xI nb3 cI 6 ng3), (xI nb4 cI 6 ng4), (xI nb5 cI 6 ng5), (xo_5_rrr ro it la le), (xI la cI 8 fl), (xo_6_ririii ta bs (nI z) td fp f k), (xo_0_rii ac be (nI q) (nI az))] s.heap := hP
  have hl := lv_entry ([.ref x, .int k0]) (n := 2) (Nat.le_of_ble_eq_true rfl)
  rw [lg_entry_eq]
  generalize (lg_sl ([.ref x, .int k0]) ++ List.replicate (2 - (lg_sl ([.ref x, .int k0])).length) Slot.unset).toArray = ls at hl ⊢
  have hl : lv_has ls 2 [(0, .ref x), (1, .int k0)] := hl
  refine lv_iload_n hx hb dX7_count_0 rfl (lv_at hl 1 rfl) ?_
  by_cases k_1 : k0 = 0
  · subst k_1
    refine lv_tableIn (off := 47) (tgt := 48) hx hb dX7_count_1 (by decide) (by decide) (by decide) (by decide) ?_
    refine lv_aload_n hx hb dX7_count_48 rfl (lv_at hl 0 rfl) ?_
    refine va_get (D := (dC, dI)) (ci := 7) (v := .ref ro) (C := RX7) (T := TX7) (N := 11) hx hb hts i_X7_count_X7 hown hK hP 0 rfl rfl 0 (by decide) (hts _ mx_X7_count_1) (fun _ h9 => h9) rfl dX7_count_49 ?_
    have hPc_2 := hP.sub (ws' := [(xo_5_rrr ro it la le), (xI la cI 8 fl)]) [7, 8] rfl
    refine vp_callSi (W.runV (As := []) (rest := []) ⟨hx, hb, hml, hown, hts⟩ (r_X5_present l dC dI cI cZ cL cJ ro it la le fl ) (cwV 0 hts gX7_count_X5_present rfl rfl rfl (by decide +kernel) ⟨Nat.le_of_ble_eq_true rfl, Nat.le_of_ble_eq_true rfl⟩) (pvP 5 7 hK hP rfl rfl hPc_2) rfl rfl hl.1 rfl (lv_room (Nat.le_of_ble_eq_true rfl)) dX7_count_52 ⟨Nat.le_of_ble_eq_true rfl, Nat.le_of_ble_eq_true rfl⟩) (fun r_2 h_2 => ?_)
    exact W.iret (v := r_2) hx hb hr (fun t ht hW => ⟨r_2, rfl, (lf_X7_count_1 nhb nwb nkb hLv h_2), ht⟩) (fun _ h => by cases h) dX7_count_55
  by_cases k_3 : k0 = 1
  · subst k_3
    refine lv_tableIn (off := 55) (tgt := 56) hx hb dX7_count_1 (by decide) (by decide) (by decide) (by decide) ?_
    refine lv_aload_n hx hb dX7_count_56 rfl (lv_at hl 0 rfl) ?_
    refine va_get (D := (dC, dI)) (ci := 7) (v := .ref no) (C := RX7) (T := TX7) (N := 11) hx hb hts i_X7_count_X7 hown hK hP 0 rfl rfl 2 (by decide) (hts _ mx_X7_count_2) (fun _ h9 => h9) rfl dX7_count_57 ?_
    refine va_get (D := (dC, dI)) (ci := 3) (v := .int (nI nkk)) (C := RX3) (T := TX3) (N := 13) hx hb hts i_X7_count_X3 hown hK hP 1 rfl rfl 7 (by decide) (hts _ mx_X7_count_3) (fun _ h9 => h9) rfl dX7_count_60 ?_
    exact W.iret (v := (nI nkk)) hx hb hr (fun t ht hW => ⟨(nI nkk), rfl, (lf_X7_count_2 nhb nwb nkb hLv k_1), ht⟩) (fun _ h => by cases h) dX7_count_63
  by_cases k_4 : k0 = 2
  · subst k_4
    refine lv_tableIn (off := 63) (tgt := 64) hx hb dX7_count_1 (by decide) (by decide) (by decide) (by decide) ?_
    refine lv_aload_n hx hb dX7_count_64 rfl (lv_at hl 0 rfl) ?_
    refine va_get (D := (dC, dI)) (ci := 7) (v := .ref no) (C := RX7) (T := TX7) (N := 11) hx hb hts i_X7_count_X7 hown hK hP 0 rfl rfl 2 (by decide) (hts _ mx_X7_count_2) (fun _ h9 => h9) rfl dX7_count_65 ?_
    refine va_get (D := (dC, dI)) (ci := 3) (v := .int (nI nww)) (C := RX3) (T := TX3) (N := 13) hx hb hts i_X7_count_X3 hown hK hP 1 rfl rfl 6 (by decide) (hts _ mx_X7_count_4) (fun _ h9 => h9) rfl dX7_count_68 ?_
    exact W.iret (v := (nI nww)) hx hb hr (fun t ht hW => ⟨(nI nww), rfl, (lf_X7_count_3 nhb nwb nkb hLv k_1 k_3), ht⟩) (fun _ h => by cases h) dX7_count_71
  by_cases k_5 : k0 = 3
  · subst k_5
    refine lv_tableIn (off := 71) (tgt := 72) hx hb dX7_count_1 (by decide) (by decide) (by decide) (by decide) ?_
    refine lv_aload_n hx hb dX7_count_72 rfl (lv_at hl 0 rfl) ?_
    refine va_get (D := (dC, dI)) (ci := 7) (v := .ref no) (C := RX7) (T := TX7) (N := 11) hx hb hts i_X7_count_X7 hown hK hP 0 rfl rfl 2 (by decide) (hts _ mx_X7_count_2) (fun _ h9 => h9) rfl dX7_count_73 ?_
    refine va_get (D := (dC, dI)) (ci := 3) (v := .int (nI nhh)) (C := RX3) (T := TX3) (N := 13) hx hb hts i_X7_count_X3 hown hK hP 1 rfl rfl 4 (by decide) (hts _ mx_X7_count_5) (fun _ h9 => h9) rfl dX7_count_76 ?_
    exact W.iret (v := (nI nhh)) hx hb hr (fun t ht hW => ⟨(nI nhh), rfl, (lf_X7_count_4 nhb nwb nkb hLv k_1 k_3 k_4), ht⟩) (fun _ h => by cases h) dX7_count_79
  by_cases k_6 : k0 = 4
  · subst k_6
    refine lv_tableIn (off := 79) (tgt := 80) hx hb dX7_count_1 (by decide) (by decide) (by decide) (by decide) ?_
    refine lv_aload_n hx hb dX7_count_80 rfl (lv_at hl 0 rfl) ?_
    refine va_get (D := (dC, dI)) (ci := 7) (v := .ref no) (C := RX7) (T := TX7) (N := 11) hx hb hts i_X7_count_X7 hown hK hP 0 rfl rfl 2 (by decide) (hts _ mx_X7_count_2) (fun _ h9 => h9) rfl dX7_count_81 ?_
    refine va_get (D := (dC, dI)) (ci := 3) (v := .int nv5) (C := RX3) (T := TX3) (N := 13) hx hb hts i_X7_count_X3 hown hK hP 1 rfl rfl 5 (by decide) (hts _ mx_X7_count_6) (fun _ h9 => h9) rfl dX7_count_84 ?_
    exact W.iret (v := nv5) hx hb hr (fun t ht hW => ⟨nv5, rfl, (lf_X7_count_5 nhb nwb nkb hLv k_1 k_3 k_4 k_5), ht⟩) (fun _ h => by cases h) dX7_count_87
  by_cases k_7 : k0 = 5
  · subst k_7
    refine lv_tableIn (off := 87) (tgt := 88) hx hb dX7_count_1 (by decide) (by decide) (by decide) (by decide) ?_
    refine lv_aload_n hx hb dX7_count_88 rfl (lv_at hl 0 rfl) ?_
    refine va_get (D := (dC, dI)) (ci := 7) (v := .ref no) (C := RX7) (T := TX7) (N := 11) hx hb hts i_X7_count_X7 hown hK hP 0 rfl rfl 2 (by decide) (hts _ mx_X7_count_2) (fun _ h9 => h9) rfl dX7_count_89 ?_
    refine lv_iconst (v := 0) hx hb dX7_count_92 (by decide) ?_
    have hPc_8 := hP.sub (ws' := [(xo_3_iiiiiiiirrrrr no nv0 nv1 nv2 nv3 (nI nhh) nv5 (nI nww) (nI nkk) nb1 nb2 nb3 nb4 nb5), (xI nb1 cI 6 ng1), (xI nb2 cI 6 ng2), (xI nb3 cI 6 ng3), (xI nb4 cI 6 ng4), (xI nb5 cI 6 ng5)]) [1, 2, 3, 4, 5, 6] rfl
    refine vp_callSi (W.runV (As := [.int 0]) (rest := []) ⟨hx, hb, hml, hown, hts⟩ (r_X3_soundsThatAre l dC dI cI cZ cL cJ no nv0 nv1 nv2 nv3 nv5 nhh nww nkk nb1 nb2 nb3 nb4 nb5 ng1 ng2 ng3 ng4 ng5 0 (by omega) (nwb) (nkb)) (cwV 1 hts gX7_count_X3_soundsThatAre rfl rfl rfl (by decide +kernel) ⟨Nat.le_of_ble_eq_true rfl, Nat.le_of_ble_eq_true rfl⟩) (pvP 3 1 hK hP rfl rfl hPc_8) rfl rfl hl.1 rfl (lv_room (Nat.le_of_ble_eq_true rfl)) dX7_count_93 ⟨Nat.le_of_ble_eq_true rfl, Nat.le_of_ble_eq_true rfl⟩) (fun r_8 h_8 => ?_)
    obtain ⟨bz, hbz, ebz⟩ : ∃ z : Nat, z < 64 ∧ r_8 = nI z := by rw [h_8]; exact th_64 (by omega)
    obtain rfl : r_8 = nI bz := ebz
    have hPc_9 := hP.sub (ws' := []) [] rfl
    refine vp_callSi (W.runS (As := [.int (nI bz)]) (rest := []) ⟨hx, hb, hml, hown, hts⟩ (r_J6_bitCount l dC dI cI cZ cL cJ bz (by omega)) (va_cwS 1 hts gX7_count_J6_bitCount_0f7a4 rfl rfl rfl (by decide +kernel) ⟨Nat.le_of_ble_eq_true rfl, Nat.le_of_ble_eq_true rfl⟩) (psP hK hPc_9) rfl rfl hl.1 rfl (lv_room (Nat.le_of_ble_eq_true rfl)) dX7_count_96 ⟨Nat.le_of_ble_eq_true rfl, Nat.le_of_ble_eq_true rfl⟩) (fun r_9 h_9 => ?_)
    exact W.iret (v := r_9) hx hb hr (fun t ht hW => ⟨r_9, rfl, (lf_X7_count_6 nhb nwb nkb hLv k_1 k_3 k_4 k_5 k_6 h_8 hbz h_9), ht⟩) (fun _ h => by cases h) dX7_count_99
  by_cases k_10 : k0 = 6
  · subst k_10
    refine lv_tableIn (off := 99) (tgt := 100) hx hb dX7_count_1 (by decide) (by decide) (by decide) (by decide) ?_
    refine lv_aload_n hx hb dX7_count_100 rfl (lv_at hl 0 rfl) ?_
    refine va_get (D := (dC, dI)) (ci := 7) (v := .ref ac) (C := RX7) (T := TX7) (N := 11) hx hb hts i_X7_count_X7 hown hK hP 0 rfl rfl 3 (by decide) (hts _ mx_X7_count_7) (fun _ h9 => h9) rfl dX7_count_101 ?_
    refine va_get (D := (dC, dI)) (ci := 0) (v := .int (nI az)) (C := RX0) (T := TX0) (N := 3) hx hb hts i_X7_count_X0 hown hK hP 10 rfl rfl 2 (by decide) (hts _ mx_X7_count_8) (fun _ h9 => h9) rfl dX7_count_104 ?_
    exact W.iret (v := (nI az)) hx hb hr (fun t ht hW => ⟨(nI az), rfl, (lf_X7_count_7 nhb nwb nkb hLv k_1 k_3 k_4 k_5 k_6 k_7), ht⟩) (fun _ h => by cases h) dX7_count_107
  by_cases k_11 : k0 = 7
  · subst k_11
    refine lv_tableIn (off := 107) (tgt := 108) hx hb dX7_count_1 (by decide) (by decide) (by decide) (by decide) ?_
    refine lv_aload_n hx hb dX7_count_108 rfl (lv_at hl 0 rfl) ?_
    refine va_get (D := (dC, dI)) (ci := 7) (v := .ref ta) (C := RX7) (T := TX7) (N := 11) hx hb hts i_X7_count_X7 hown hK hP 0 rfl rfl 1 (by decide) (hts _ mx_X7_count_9) (fun _ h9 => h9) rfl dX7_count_109 ?_
    refine va_get (D := (dC, dI)) (ci := 6) (v := .int (nI z)) (C := RX6) (T := TX6) (N := 6) hx hb hts i_X7_count_X6 hown hK hP 9 rfl rfl 1 (by decide) (hts _ mx_X7_count_10) (fun _ h9 => h9) rfl dX7_count_112 ?_
    exact W.iret (v := (nI z)) hx hb hr (fun t ht hW => ⟨(nI z), rfl, (lf_X7_count_8 nhb nwb nkb hLv k_1 k_3 k_4 k_5 k_6 k_7 k_10), ht⟩) (fun _ h => by cases h) dX7_count_115
  have kT_1 := lv_neT k_1 (show (0 : Int32).toInt = 0 from rfl)
  have kT_3 := lv_neT k_3 (show (1 : Int32).toInt = 1 from rfl)
  have kT_4 := lv_neT k_4 (show (2 : Int32).toInt = 2 from rfl)
  have kT_5 := lv_neT k_5 (show (3 : Int32).toInt = 3 from rfl)
  have kT_6 := lv_neT k_6 (show (4 : Int32).toInt = 4 from rfl)
  have kT_7 := lv_neT k_7 (show (5 : Int32).toInt = 5 from rfl)
  have kT_10 := lv_neT k_10 (show (6 : Int32).toInt = 6 from rfl)
  have kT_11 := lv_neT k_11 (show (7 : Int32).toInt = 7 from rfl)
  refine lv_tableOut (tgt := 116) hx hb dX7_count_1 (by omega) (by decide) ?_
  refine lv_ldc (own := RX7) (v := (-1000001)) hx hb hown (hts _ mx_X7_count_11) dX7_count_116 ?_
  exact W.iret (v := (-1000001)) hx hb hr (fun t ht hW => ⟨(-1000001), rfl, (lf_X7_count_9 nhb nwb nkb hLv k_1 k_3 k_4 k_5 k_6 k_7 k_10 k_11), ht⟩) (fun _ h => by cases h) dX7_count_118
