set_option maxHeartbeats 4000000 in
set_option maxRecDepth 100000 in
theorem r_J7_fill (l : Launch) (dC : Nat → ClassId) (dI : Nat → Nat → Nat) (cI cZ cL cJ : ClassId) (sz : Nat) (a : Nat) (n : Nat) (f : Nat → Int32) (v : Int32) (hn : n < 2 ^ 31) : Met l yJ7_fill_53178 wsJ7_fill_53178 ({ frames := 0, cells := 0, slots := 0, locals := 0 }) (va_Pc [.ref a, .int v] (fun U => U.heap.size = sz ∧ va_P (dC, dI) vwCl [(xI a cI n f)] U.heap ∧ va_K (dC, dI) vwCl [(cI, .int), (cZ, .boolean), (cL, .object RX3), (cJ, .array .int)] U ∧ va_D (fun _ => True) [(xI a cI n f)])) (va_Qv (fun (_ : Unit) => True) (fun (_ : Unit) t => ∃ (g : Nat → Int32), va_P (dC, dI) vwCl [(xI a cI n g)] t.heap ∧ va_D (va_A [(xI a cI n f)] sz) [(xI a cI n g)] ∧ (∀ jz : Nat, jz < n → g jz = v)) (va_A [(xI a cI n f)] sz)) 0 0 (va_A [(xI a cI n f)] sz) := by
  refine Met.ofW (cc := cJ7_fill_53178) (maxL := 4) (ret := none) (by decide) rfl ?_
  intro p e s m args below meth c s₁ B hml hv
  obtain ⟨rfl, hsz, hP, hK, hD0⟩ := hv
  have hx := B.exec
  have hb := B.bytes
  have hr := B.returns
  have hts := atoms_spec (ws := wsJ7_fill_53178) B.pre
  have hown : s.vm.findClass RJ7 = some m.cls := findClass_of_methodNamed B.named
  have hlocks := B.notSynchronized
  subst hsz
  have hD := hD0.self (sz := s.heap.size)
  generalize hAe : va_A [(xI a cI n f)] s.heap.size = A at hD ⊢
  have hA : ∀ q : Nat, s.heap.size ≤ q → A q := fun q h => by rw [← hAe]; exact Or.inr h
  have hS : va_S A s.heap s.heap [] := va_S.rf
  have hP : va_P (dC, dI) vwCl [(xI a cI n f)] s.heap := hP
  have hl := lv_entry ([.ref a, .int v]) (n := 4) (Nat.le_of_ble_eq_true rfl)
  rw [lg_entry_eq]
  generalize (lg_sl ([.ref a, .int v]) ++ List.replicate (4 - (lg_sl ([.ref a, .int v])).length) Slot.unset).toArray = ls at hl ⊢
  have hl : lv_has ls 4 [(0, .ref a), (1, .int v)] := hl
  refine lv_iconst (v := 0) hx hb dJ7_fill_53178_0 (by decide) ?_
  refine lv_istore_n (lv' := [(2, .int 0), (0, .ref a), (1, .int v)]) hx hb dJ7_fill_53178_1 rfl hl (by decide) rfl (fun ls hl => ?_)
  refine lv_aload_n hx hb dJ7_fill_53178_2 rfl (lv_at hl 1 rfl) ?_
  refine va_alen (v := nI n) hx hb hK hP 0 0 rfl rfl rfl dJ7_fill_53178_3 ?_
  refine lv_istore_n (lv' := [(3, .int (nI n)), (2, .int 0), (0, .ref a), (1, .int v)]) hx hb dJ7_fill_53178_4 rfl hl (by decide) rfl (fun ls hl => ?_)
  refine lp_go (σ := (Nat → Int32)) (fun ii (st : (Nat → Int32)) H locs ls => match st with | w_3 => lv_has ls 4 [(3, .int (nI n)), (2, .int (nI ii)), (0, .ref a), (1, .int v)] ∧ va_P (dC, dI) vwCl [(xI a cI n w_3)] H ∧ va_D A [(xI a cI n w_3)] ∧ va_S A s.heap H locs ∧ (∀ j : Nat, j < ii → w_3 j = v)) n ?_ ?_ 0 (by omega) (f) ⟨lv_sub hl [0, 1, 2, 3] rfl, hP.sub (ws' := [(xI a cI n f)]) [0] rfl, hD.sub (ws' := [(xI a cI n f)]) [0] (by decide +kernel) rfl, hS, (fun j h_ => absurd h_ (Nat.not_lt_zero j))⟩
  · rintro ii w_3 H locs ls hii ⟨hl, hP, hD, hS, haf_0⟩ ih
    refine lv_iload_n hx hb dJ7_fill_53178_5 rfl (lv_at hl 1 rfl) ?_
    refine lv_iload_n hx hb dJ7_fill_53178_6 rfl (lv_at hl 0 rfl) ?_
    refine lv_icmp_ge (tgt := 20) hx hb dJ7_fill_53178_7 (by decide) (fun c_ => absurd c_ (fun q_ => absurd ((nI_leI (a := n) (b := ii) (by omega) (by omega)).mp q_) (by omega))) (fun _ => ?_)
    refine lv_aload_n hx hb dJ7_fill_53178_10 rfl (lv_at hl 2 rfl) ?_
    refine lv_iload_n hx hb dJ7_fill_53178_11 rfl (lv_at hl 1 rfl) ?_
    refine lv_iload_n hx hb dJ7_fill_53178_12 rfl (lv_at hl 3 rfl) ?_
    refine va_iast hx hb hK hP hD hS 0 0 rfl rfl (vp_in_nI (by omega) (by omega)) dJ7_fill_53178_13 (fun H locs hP hD hS => ?_)
    generalize hg_8 : upd w_3 ((nI ii) : Int32).toNatClampNeg v = g_8 at hP hD
    have hP : va_P (dC, dI) vwCl [(xI a cI n g_8)] H := hP
    have hD := dto hP hD
    refine lv_iinc (v := (nI (ii + 1))) (lv' := [(2, .int (nI (ii + 1))), (3, .int (nI n)), (0, .ref a), (1, .int v)]) hx hb dJ7_fill_53178_14 hl (k := 1) rfl (nI_add ii 1) (by decide) rfl (fun ls hl => ?_)
    refine lv_goto (tgt := 5) hx hb dJ7_fill_53178_17 (by decide) ?_
    exact ih (g_8) _ _ _ ⟨lv_sub hl [1, 0, 2, 3] rfl, hP.sub (ws' := [(xI a cI n g_8)]) [0] rfl, hD.sub (ws' := [(xI a cI n g_8)]) [0] (by decide +kernel) rfl, hS, (fl2 haf_0 (by omega) hg_8)⟩
  · rintro w_3 H locs ls ⟨hl, hP, hD, hS, haf_0⟩
    refine lv_iload_n hx hb dJ7_fill_53178_5 rfl (lv_at hl 1 rfl) ?_
    refine lv_iload_n hx hb dJ7_fill_53178_6 rfl (lv_at hl 0 rfl) ?_
    refine lv_icmp_ge (tgt := 20) hx hb dJ7_fill_53178_7 (by decide) (fun _ => ?_) (fun c_ => absurd ((nI_leI (a := n) (b := n) (by omega) (by omega)).mpr (by omega)) c_)
    have hX9 := cut2 (wc := [(xI a cI n w_3)]) hP hD [0] (by decide +kernel) rfl
    exact W.vret hx hb hr (fun t ht hW => ⟨⟨(), rfl, trivial, ⟨w_3, va_Ht ht hX9.1, hX9.2, haf_0⟩⟩, hS.F ht⟩) hS.2.2 dJ7_fill_53178_20
set_option maxHeartbeats 4000000 in
set_option maxRecDepth 100000 in
theorem r_X5_isRow (l : Launch) (dC : Nat → ClassId) (dI : Nat → Nat → Nat) (cI cZ cL cJ : ClassId) (a : Int32)  : Met l yX5_isRow wsX5_isRow ({ frames := 0, cells := 0, slots := 0, locals := 0 }) (va_Pc [.int a] (fun U => va_P (dC, dI) vwCl [] U.heap ∧ va_K (dC, dI) vwCl [(cI, .int), (cZ, .boolean), (cL, .object RX3), (cJ, .array .int)] U)) (vp_Si (fun r => (r = 0 ∧ (a < 0 ∨ 8 ≤ a)) ∨ (r = 1 ∧ vp_in a 8))) 0 0 (fun _ => False) := by
  refine Met.ofW (cc := cX5_isRow) (maxL := 1) (ret := (some .boolean)) (by decide) rfl ?_
  intro p e s m args below meth c s₁ B hml hv
  obtain ⟨rfl, hP, hK⟩ := hv
  have hx := B.exec
  have hb := B.bytes
  have hr := B.returns
  have hts := atoms_spec (ws := wsX5_isRow) B.pre
  have hown : s.vm.findClass RX5 = some m.cls := findClass_of_methodNamed B.named
  have hlocks := B.notSynchronized
  have hP : va_P (dC, dI) vwCl [] s.heap := hP
  have hl := lv_entry ([.int a]) (n := 1) (Nat.le_of_ble_eq_true rfl)
  rw [lg_entry_eq]
  generalize (lg_sl ([.int a]) ++ List.replicate (1 - (lg_sl ([.int a])).length) Slot.unset).toArray = ls at hl ⊢
  have hl : lv_has ls 1 [(0, .int a)] := hl
  refine lv_iload_n hx hb dX5_isRow_0 rfl (lv_at hl 0 rfl) ?_
  refine lv_if_lt (tgt := 14) hx hb dX5_isRow_1 (by decide) (fun c_1 => ?_) (fun c_1 => ?_)
  · skip
    refine lv_iconst (v := 0) hx hb dX5_isRow_14 (by decide) ?_
    exact W.zret (v := 0) hx hb hr (by decide) (fun t ht hW => ⟨0, rfl, Or.inl ⟨rfl, Or.inl c_1⟩, ht⟩) (fun _ h => by cases h) dX5_isRow_15
  · skip
    refine lv_iload_n hx hb dX5_isRow_4 rfl (lv_at hl 0 rfl) ?_
    refine lv_bipush (v := 8) hx hb dX5_isRow_5 (by decide) ?_
    refine lv_icmp_ge (tgt := 14) hx hb dX5_isRow_7 (by decide) (fun c_2 => ?_) (fun c_2 => ?_)
    · skip
      refine lv_iconst (v := 0) hx hb dX5_isRow_14 (by decide) ?_
      exact W.zret (v := 0) hx hb hr (by decide) (fun t ht hW => ⟨0, rfl, Or.inl ⟨rfl, Or.inr c_2⟩, ht⟩) (fun _ h => by cases h) dX5_isRow_15
    · skip
      refine lv_iconst (v := 1) hx hb dX5_isRow_10 (by decide) ?_
      refine lv_goto (tgt := 15) hx hb dX5_isRow_11 (by decide) ?_
      exact W.zret (v := 1) hx hb hr (by decide) (fun t ht hW => ⟨1, rfl, Or.inr ⟨rfl, in_of c_1 c_2 (by decide)⟩, ht⟩) (fun _ h => by cases h) dX5_isRow_15
set_option maxHeartbeats 4000000 in
set_option maxRecDepth 100000 in
theorem r_X5_isLane (l : Launch) (dC : Nat → ClassId) (dI : Nat → Nat → Nat) (cI cZ cL cJ : ClassId) (a : Int32)  : Met l yX5_isLane wsX5_isLane ({ frames := 0, cells := 0, slots := 0, locals := 0 }) (va_Pc [.int a] (fun U => va_P (dC, dI) vwCl [] U.heap ∧ va_K (dC, dI) vwCl [(cI, .int), (cZ, .boolean), (cL, .object RX3), (cJ, .array .int)] U)) (vp_Si (fun r => (r = 0 ∧ (a < 0 ∨ 2 < a)) ∨ (r = 1 ∧ (¬ (a < 0 ∨ 2 < a))))) 0 0 (fun _ => False) := by
  refine Met.ofW (cc := cX5_isLane) (maxL := 1) (ret := (some .boolean)) (by decide) rfl ?_
  intro p e s m args below meth c s₁ B hml hv
  obtain ⟨rfl, hP, hK⟩ := hv
  have hx := B.exec
  have hb := B.bytes
  have hr := B.returns
  have hts := atoms_spec (ws := wsX5_isLane) B.pre
  have hown : s.vm.findClass RX5 = some m.cls := findClass_of_methodNamed B.named
  have hlocks := B.notSynchronized
  have hP : va_P (dC, dI) vwCl [] s.heap := hP
  have hl := lv_entry ([.int a]) (n := 1) (Nat.le_of_ble_eq_true rfl)
  rw [lg_entry_eq]
  generalize (lg_sl ([.int a]) ++ List.replicate (1 - (lg_sl ([.int a])).length) Slot.unset).toArray = ls at hl ⊢
  have hl : lv_has ls 1 [(0, .int a)] := hl
  refine lv_iload_n hx hb dX5_isLane_0 rfl (lv_at hl 0 rfl) ?_
  refine lv_if_lt (tgt := 13) hx hb dX5_isLane_1 (by decide) (fun c_1 => ?_) (fun c_1 => ?_)
  · skip
    refine lv_iconst (v := 0) hx hb dX5_isLane_13 (by decide) ?_
    exact W.zret (v := 0) hx hb hr (by decide) (fun t ht hW => ⟨0, rfl, Or.inl ⟨rfl, Or.inl c_1⟩, ht⟩) (fun _ h => by cases h) dX5_isLane_14
  · skip
    refine lv_iload_n hx hb dX5_isLane_4 rfl (lv_at hl 0 rfl) ?_
    refine lv_iconst (v := 2) hx hb dX5_isLane_5 (by decide) ?_
    refine lv_icmp_gt (tgt := 13) hx hb dX5_isLane_6 (by decide) (fun c_2 => ?_) (fun c_2 => ?_)
    · skip
      refine lv_iconst (v := 0) hx hb dX5_isLane_13 (by decide) ?_
      exact W.zret (v := 0) hx hb hr (by decide) (fun t ht hW => ⟨0, rfl, Or.inl ⟨rfl, Or.inr c_2⟩, ht⟩) (fun _ h => by cases h) dX5_isLane_14
    · skip
      refine lv_iconst (v := 1) hx hb dX5_isLane_9 (by decide) ?_
      refine lv_goto (tgt := 14) hx hb dX5_isLane_10 (by decide) ?_
      exact W.zret (v := 1) hx hb hr (by decide) (fun t ht hW => ⟨1, rfl, Or.inr ⟨rfl, fun q_ => q_.elim c_1 c_2⟩, ht⟩) (fun _ h => by cases h) dX5_isLane_14
theorem lf_X5_isMissing_1 {fl : Nat → Int32} {j : Nat} {v_1 : Int32} (hj : j < 8) (e_1 : v_1 = fl j) (c_2 : ¬ (v_1 = (-1))) : ¬ fl j = -1 := by
  grind
theorem lf_X5_isMissing_2 {fl : Nat → Int32} {j : Nat} {v_1 : Int32} (hj : j < 8) (e_1 : v_1 = fl j) (c_2 : v_1 = (-1)) : fl j = -1 := by
  grind
set_option maxHeartbeats 4000000 in
set_option maxRecDepth 100000 in
theorem r_X5_isMissing (l : Launch) (dC : Nat → ClassId) (dI : Nat → Nat → Nat) (cI cZ cL cJ : ClassId) (h : Nat) (it : Nat) (la : Nat) (le : Nat) (fl : Nat → Int32) (j : Nat) (hj : j < 8) : Met l yX5_isMissing wsX5_isMissing ({ frames := 0, cells := 0, slots := 0, locals := 0 }) (va_Pc [.ref h, .int (nI j)] (fun U => va_P (dC, dI) vwCl [(xo_5_rrr h it la le), (xI la cI 8 fl)] U.heap ∧ va_K (dC, dI) vwCl [(cI, .int), (cZ, .boolean), (cL, .object RX3), (cJ, .array .int)] U)) (vp_Si (fun r => (r = 0 ∧ ¬ fl j = -1) ∨ (r = 1 ∧ fl j = -1))) 0 0 (fun _ => False) := by
  refine Met.ofW (cc := cX5_isMissing) (maxL := 2) (ret := (some .boolean)) (by decide) rfl ?_
  intro p e s m args below meth c s₁ B hml hv
  obtain ⟨rfl, hP, hK⟩ := hv
  have hx := B.exec
  have hb := B.bytes
  have hr := B.returns
  have hts := atoms_spec (ws := wsX5_isMissing) B.pre
  have hown : s.vm.findClass RX5 = some m.cls := findClass_of_methodNamed B.named
  have hlocks := B.notSynchronized
  have hP : va_P (dC, dI) vwCl [(xo_5_rrr h it la le), (xI la cI 8 fl)] s.heap := hP
  have hl := lv_entry ([.ref h, .int (nI j)]) (n := 2) (Nat.le_of_ble_eq_true rfl)
  rw [lg_entry_eq]
  generalize (lg_sl ([.ref h, .int (nI j)]) ++ List.replicate (2 - (lg_sl ([.ref h, .int (nI j)])).length) Slot.unset).toArray = ls at hl ⊢
  have hl : lv_has ls 2 [(0, .ref h), (1, .int (nI j))] := hl
  refine lv_aload_n hx hb dX5_isMissing_0 rfl (lv_at hl 0 rfl) ?_
  refine va_get (D := (dC, dI)) (ci := 5) (v := .ref la) (C := RX5) (T := TX5) (N := 3) hx hb hts i_X5_isMissing_X5 hown hK hP 0 rfl rfl 1 (by decide) (hts _ mx_X5_isMissing_1) (fun _ h9 => h9) rfl dX5_isMissing_1 ?_
  refine lv_iload_n hx hb dX5_isMissing_4 rfl (lv_at hl 1 rfl) ?_
  refine va_iald hx hb hK hP 1 0 rfl rfl (vp_in_nI (by omega) (by omega)) dX5_isMissing_5 ?_
  refine lv_topi (fun v_1 e_1 => ?_)
  have e_1 : v_1 = fl j := e_1.trans (congrArg fl (nI_clamp (by omega)))
  refine lv_iconst (v := (-1)) hx hb dX5_isMissing_6 (by decide) ?_
  refine lv_icmp_ne (tgt := 14) hx hb dX5_isMissing_7 (by decide) (fun c_2 => ?_) (fun c_2 => ?_)
  · skip
    refine lv_iconst (v := 0) hx hb dX5_isMissing_14 (by decide) ?_
    exact W.zret (v := 0) hx hb hr (by decide) (fun t ht hW => ⟨0, rfl, Or.inl (⟨rfl, (lf_X5_isMissing_1 hj e_1 c_2)⟩), ht⟩) (fun _ h => by cases h) dX5_isMissing_15
  · skip
    refine lv_iconst (v := 1) hx hb dX5_isMissing_10 (by decide) ?_
    refine lv_goto (tgt := 15) hx hb dX5_isMissing_11 (by decide) ?_
    exact W.zret (v := 1) hx hb hr (by decide) (fun t ht hW => ⟨1, rfl, Or.inr (⟨rfl, (lf_X5_isMissing_2 hj e_1 c_2)⟩), ht⟩) (fun _ h => by cases h) dX5_isMissing_15
theorem lf_X5_present_1 {fl : Nat → Int32} {w_7 : Int32} {ii : Nat} {v_18 : Int32} (hii : ii < 8) (haf_0 : (w_7 = prR fl ii)) (f_16_0_0 : ¬ fl ii = -1) (e_18 : v_18 = (w_7 + 1)) : v_18 = prR fl (ii + 1) := by
  first | assumption | (simp only [prR]; grind)
theorem lf_X5_present_2 {fl : Nat → Int32} {w_7 : Int32} {ii : Nat} {v_20 : Int32} (hii : ii < 8) (haf_0 : (w_7 = prR fl ii)) (f_16_1_0 : fl ii = -1) (e_20 : v_20 = (w_7 + 0)) : v_20 = prR fl (ii + 1) := by
  first | assumption | (simp only [prR]; grind)
theorem lf_X5_present_3 {fl : Nat → Int32} {w_7 : Int32} (haf_0 : (w_7 = prR fl 8)) : w_7 = (prR fl 8) := by
  first | assumption | (simp only [prR]; grind)
set_option maxHeartbeats 4000000 in
set_option maxRecDepth 100000 in
theorem r_X5_present (l : Launch) (dC : Nat → ClassId) (dI : Nat → Nat → Nat) (cI cZ cL cJ : ClassId) (h : Nat) (it : Nat) (la : Nat) (le : Nat) (fl : Nat → Int32)  : Met l yX5_present wsX5_present ({ frames := 1, cells := 0, slots := 0, locals := 21 }) (va_Pc [.ref h] (fun U => va_P (dC, dI) vwCl [(xo_5_rrr h it la le), (xI la cI 8 fl)] U.heap ∧ va_K (dC, dI) vwCl [(cI, .int), (cZ, .boolean), (cL, .object RX3), (cJ, .array .int)] U)) (vp_Si (fun r => r = (prR fl 8))) 0 0 (fun _ => False) := by
  refine Met.ofW (cc := cX5_present) (maxL := 3) (ret := (some .int)) (by decide) rfl ?_
  intro p e s m args below meth c s₁ B hml hv
  obtain ⟨rfl, hP, hK⟩ := hv
  have hx := B.exec
  have hb := B.bytes
  have hr := B.returns
  have hts := atoms_spec (ws := wsX5_present) B.pre
  have hown : s.vm.findClass RX5 = some m.cls := findClass_of_methodNamed B.named
  have hlocks := B.notSynchronized
  have hP : va_P (dC, dI) vwCl [(xo_5_rrr h it la le), (xI la cI 8 fl)] s.heap := hP
  have hl := lv_entry ([.ref h]) (n := 3) (Nat.le_of_ble_eq_true rfl)
  rw [lg_entry_eq]
  generalize (lg_sl ([.ref h]) ++ List.replicate (3 - (lg_sl ([.ref h])).length) Slot.unset).toArray = ls at hl ⊢
  have hl : lv_has ls 3 [(0, .ref h)] := hl
  refine lv_iconst (v := 0) hx hb dX5_present_0 (by decide) ?_
  refine lv_istore_n (lv' := [(1, .int 0), (0, .ref h)]) hx hb dX5_present_1 rfl hl (by decide) rfl (fun ls hl => ?_)
  refine lv_iconst (v := 0) hx hb dX5_present_2 (by decide) ?_
  refine lv_istore_n (lv' := [(2, .int 0), (1, .int 0), (0, .ref h)]) hx hb dX5_present_3 rfl hl (by decide) rfl (fun ls hl => ?_)
  refine lp_go (σ := (Int32)) (fun ii (st : (Int32)) H locs ls => match st with | w_7 => lv_has ls 3 [(2, .int (nI ii)), (1, .int w_7), (0, .ref h)] ∧ H = s.heap ∧ locs = [] ∧ (w_7 = prR fl ii)) 8 ?_ ?_ 0 (by omega) (0) ⟨lv_sub hl [0, 1, 2] rfl, rfl, rfl, rfl⟩
  · rintro ii w_7 H locs ls hii ⟨hl, rfl, rfl, haf_0⟩ ih
    refine lv_iload_n hx hb dX5_present_4 rfl (lv_at hl 0 rfl) ?_
    refine lv_bipush (v := 8) hx hb dX5_present_5 (by decide) ?_
    refine lv_icmp_ge (tgt := 32) hx hb dX5_present_7 (by decide) (fun c_ => absurd c_ (fun q_ => absurd ((nI_leI (a := 8) (b := ii) (by omega) (by omega)).mp q_) (by omega))) (fun _ => ?_)
    refine lv_iload_n hx hb dX5_present_10 rfl (lv_at hl 1 rfl) ?_
    refine lv_aload_n hx hb dX5_present_11 rfl (lv_at hl 2 rfl) ?_
    refine lv_iload_n hx hb dX5_present_12 rfl (lv_at hl 0 rfl) ?_
    have hPc_16 := hP
    refine vp_callSi (W.runV (As := [.int (nI ii)]) (rest := [.int w_7]) ⟨hx, hb, hml, hown, hts⟩ (r_X5_isMissing l dC dI cI cZ cL cJ h it la le fl ii (by omega)) (cwV 1 hts gX5_present_X5_isMissing rfl rfl rfl (by decide +kernel) ⟨Nat.le_of_ble_eq_true rfl, Nat.le_of_ble_eq_true rfl⟩) (pvP 5 0 hK hP rfl rfl hPc_16) rfl rfl hl.1 rfl (lv_room (Nat.le_of_ble_eq_true rfl)) dX5_present_13 ⟨Nat.le_of_ble_eq_true rfl, Nat.le_of_ble_eq_true rfl⟩) (fun r_16 h_16 => ?_)
    rcases h_16 with ⟨h_16, f_16_0_0⟩ | ⟨h_16, f_16_1_0⟩
    · subst h_16
      refine lv_if_eq (tgt := 23) hx hb dX5_present_16 (by decide) (fun _ => ?_) (fun c_ => absurd (by decide) c_)
      refine lv_iconst (v := 1) hx hb dX5_present_23 (by decide) ?_
      refine lv_iadd hx hb dX5_present_24 ?_
      refine lv_topi (fun v_18 e_18 => ?_)
      refine lv_istore_n (lv' := [(1, .int v_18), (2, .int (nI ii)), (0, .ref h)]) hx hb dX5_present_25 rfl hl (by decide) rfl (fun ls hl => ?_)
      refine lv_iinc (v := (nI (ii + 1))) (lv' := [(2, .int (nI (ii + 1))), (1, .int v_18), (0, .ref h)]) hx hb dX5_present_26 hl (k := 1) rfl (nI_add ii 1) (by decide) rfl (fun ls hl => ?_)
      refine lv_goto (tgt := 4) hx hb dX5_present_29 (by decide) ?_
      exact ih (v_18) _ _ _ ⟨lv_sub hl [0, 1, 2] rfl, rfl, rfl, (lf_X5_present_1 hii haf_0 f_16_0_0 e_18)⟩
    · subst h_16
      refine lv_if_eq (tgt := 23) hx hb dX5_present_16 (by decide) (fun c_ => absurd c_ (by decide)) (fun _ => ?_)
      refine lv_iconst (v := 0) hx hb dX5_present_19 (by decide) ?_
      refine lv_goto (tgt := 24) hx hb dX5_present_20 (by decide) ?_
      refine lv_iadd hx hb dX5_present_24 ?_
      refine lv_topi (fun v_20 e_20 => ?_)
      refine lv_istore_n (lv' := [(1, .int v_20), (2, .int (nI ii)), (0, .ref h)]) hx hb dX5_present_25 rfl hl (by decide) rfl (fun ls hl => ?_)
      refine lv_iinc (v := (nI (ii + 1))) (lv' := [(2, .int (nI (ii + 1))), (1, .int v_20), (0, .ref h)]) hx hb dX5_present_26 hl (k := 1) rfl (nI_add ii 1) (by decide) rfl (fun ls hl => ?_)
      refine lv_goto (tgt := 4) hx hb dX5_present_29 (by decide) ?_
      exact ih (v_20) _ _ _ ⟨lv_sub hl [0, 1, 2] rfl, rfl, rfl, (lf_X5_present_2 hii haf_0 f_16_1_0 e_20)⟩
  · rintro w_7 H locs ls ⟨hl, rfl, rfl, haf_0⟩
    refine lv_iload_n hx hb dX5_present_4 rfl (lv_at hl 0 rfl) ?_
    refine lv_bipush (v := 8) hx hb dX5_present_5 (by decide) ?_
    refine lv_icmp_ge (tgt := 32) hx hb dX5_present_7 (by decide) (fun _ => ?_) (fun c_ => absurd ((nI_leI (a := 8) (b := 8) (by omega) (by omega)).mpr (by omega)) c_)
    refine lv_iload_n hx hb dX5_present_32 rfl (lv_at hl 1 rfl) ?_
    exact W.iret (v := w_7) hx hb hr (fun t ht hW => ⟨w_7, rfl, (lf_X5_present_3 haf_0), ht⟩) (fun _ h => by cases h) dX5_present_33
theorem lf_X5_hasPlaces_1 {fe : Nat → Int32} {j : Nat} {x : Int32} {y : Int32} (hfe : ∀ jq : Nat, jq < 8 → ∃ q : Nat, q ≤ 40 ∧ fe jq = nI q) (hj : j < 8) (c_1 : x < 0) : ¬ plc (fe j) x y := by
  unfold plc; grind
theorem lf_X5_hasPlaces_2 {fe : Nat → Int32} {j : Nat} {x : Int32} {y : Int32} (hfe : ∀ jq : Nat, jq < 8 → ∃ q : Nat, q ≤ 40 ∧ fe jq = nI q) (hj : j < 8) (c_1 : ¬ (x < 0)) (c_2 : y < 0) : ¬ plc (fe j) x y := by
  unfold plc; grind
theorem lf_X5_hasPlaces_3 {fe : Nat → Int32} {j : Nat} {x : Int32} {y : Int32} {q_3 : Nat} {v_4 : Int32} (hfe : ∀ jq : Nat, jq < 8 → ∃ q : Nat, q ≤ 40 ∧ fe jq = nI q) (hj : j < 8) (c_1 : ¬ (x < 0)) (c_2 : ¬ (y < 0)) (hqe_3 : fe j = nI q_3) (hq_3 : q_3 ≤ 40) (e_4 : v_4 = ((nI q_3) - y)) (c_5 : v_4 < x) : ¬ plc (fe j) x y := by
  unfold plc; grind
theorem lf_X5_hasPlaces_4 {fe : Nat → Int32} {j : Nat} {x : Int32} {y : Int32} {q_3 : Nat} {v_4 : Int32} (hfe : ∀ jq : Nat, jq < 8 → ∃ q : Nat, q ≤ 40 ∧ fe jq = nI q) (hj : j < 8) (c_1 : ¬ (x < 0)) (c_2 : ¬ (y < 0)) (hqe_3 : fe j = nI q_3) (hq_3 : q_3 ≤ 40) (e_4 : v_4 = ((nI q_3) - y)) (c_5 : ¬ (v_4 < x)) : plc (fe j) x y := by
  unfold plc; grind
set_option maxHeartbeats 4000000 in
set_option maxRecDepth 100000 in
theorem r_X5_hasPlaces (l : Launch) (dC : Nat → ClassId) (dI : Nat → Nat → Nat) (cI cZ cL cJ : ClassId) (h : Nat) (it : Nat) (la : Nat) (le : Nat) (fe : Nat → Int32) (j : Nat) (x : Int32) (y : Int32) (hfe : ∀ jq : Nat, jq < 8 → ∃ q : Nat, q ≤ 40 ∧ fe jq = nI q) (hj : j < 8) : Met l yX5_hasPlaces wsX5_hasPlaces ({ frames := 0, cells := 0, slots := 0, locals := 0 }) (va_Pc [.ref h, .int (nI j), .int x, .int y] (fun U => va_P (dC, dI) vwCl [(xo_5_rrr h it la le), (xI le cI 8 fe)] U.heap ∧ va_K (dC, dI) vwCl [(cI, .int), (cZ, .boolean), (cL, .object RX3), (cJ, .array .int)] U)) (vp_Si (fun r => (r = 0 ∧ ¬ plc (fe j) x y) ∨ (r = 1 ∧ plc (fe j) x y ∧ hpF x y))) 0 0 (fun _ => False) := by
  refine Met.ofW (cc := cX5_hasPlaces) (maxL := 4) (ret := (some .boolean)) (by decide) rfl ?_
  intro p e s m args below meth c s₁ B hml hv
  obtain ⟨rfl, hP, hK⟩ := hv
  have hx := B.exec
  have hb := B.bytes
  have hr := B.returns
  have hts := atoms_spec (ws := wsX5_hasPlaces) B.pre
  have hown : s.vm.findClass RX5 = some m.cls := findClass_of_methodNamed B.named
  have hlocks := B.notSynchronized
  have hP : va_P (dC, dI) vwCl [(xo_5_rrr h it la le), (xI le cI 8 fe)] s.heap := hP
  have hl := lv_entry ([.ref h, .int (nI j), .int x, .int y]) (n := 4) (Nat.le_of_ble_eq_true rfl)
  rw [lg_entry_eq]
  generalize (lg_sl ([.ref h, .int (nI j), .int x, .int y]) ++ List.replicate (4 - (lg_sl ([.ref h, .int (nI j), .int x, .int y])).length) Slot.unset).toArray = ls at hl ⊢
  have hl : lv_has ls 4 [(0, .ref h), (1, .int (nI j)), (2, .int x), (3, .int y)] := hl
  refine lv_iload_n hx hb dX5_hasPlaces_0 rfl (lv_at hl 2 rfl) ?_
  refine lv_if_lt (tgt := 24) hx hb dX5_hasPlaces_1 (by decide) (fun c_1 => ?_) (fun c_1 => ?_)
  · skip
    refine lv_iconst (v := 0) hx hb dX5_hasPlaces_24 (by decide) ?_
    exact W.zret (v := 0) hx hb hr (by decide) (fun t ht hW => ⟨0, rfl, Or.inl ⟨rfl, (lf_X5_hasPlaces_1 hfe hj c_1)⟩, ht⟩) (fun _ h => by cases h) dX5_hasPlaces_25
  · skip
    refine lv_iload_n hx hb dX5_hasPlaces_4 rfl (lv_at hl 3 rfl) ?_
    refine lv_if_lt (tgt := 24) hx hb dX5_hasPlaces_5 (by decide) (fun c_2 => ?_) (fun c_2 => ?_)
    · skip
      refine lv_iconst (v := 0) hx hb dX5_hasPlaces_24 (by decide) ?_
      exact W.zret (v := 0) hx hb hr (by decide) (fun t ht hW => ⟨0, rfl, Or.inl ⟨rfl, (lf_X5_hasPlaces_2 hfe hj c_1 c_2)⟩, ht⟩) (fun _ h => by cases h) dX5_hasPlaces_25
    · skip
      refine lv_iload_n hx hb dX5_hasPlaces_8 rfl (lv_at hl 2 rfl) ?_
      refine lv_aload_n hx hb dX5_hasPlaces_9 rfl (lv_at hl 0 rfl) ?_
      refine va_get (D := (dC, dI)) (ci := 5) (v := .ref le) (C := RX5) (T := TX5) (N := 3) hx hb hts i_X5_hasPlaces_X5 hown hK hP 0 rfl rfl 2 (by decide) (hts _ mx_X5_hasPlaces_1) (fun _ h9 => h9) rfl dX5_hasPlaces_10 ?_
      refine lv_iload_n hx hb dX5_hasPlaces_13 rfl (lv_at hl 1 rfl) ?_
      refine va_iald hx hb hK hP 1 0 rfl rfl (vp_in_nI (by omega) (by omega)) dX5_hasPlaces_14 ?_
      obtain ⟨q_3, hq_3, hqe_3⟩ := hfe j (by omega)
      refine lv_topi (fun v_3 e_3 => ?_)
      obtain rfl : v_3 = nI q_3 := e_3.trans (by rw [nI_clamp (by omega)]; exact hqe_3)
      refine lv_iload_n hx hb dX5_hasPlaces_15 rfl (lv_at hl 3 rfl) ?_
      refine lv_isub hx hb dX5_hasPlaces_16 ?_
      refine lv_topi (fun v_4 e_4 => ?_)
      refine lv_icmp_gt (tgt := 24) hx hb dX5_hasPlaces_17 (by decide) (fun c_5 => ?_) (fun c_5 => ?_)
      · skip
        refine lv_iconst (v := 0) hx hb dX5_hasPlaces_24 (by decide) ?_
        exact W.zret (v := 0) hx hb hr (by decide) (fun t ht hW => ⟨0, rfl, Or.inl ⟨rfl, (lf_X5_hasPlaces_3 hfe hj c_1 c_2 hqe_3 hq_3 e_4 c_5)⟩, ht⟩) (fun _ h => by cases h) dX5_hasPlaces_25
      · skip
        refine lv_iconst (v := 1) hx hb dX5_hasPlaces_20 (by decide) ?_
        refine lv_goto (tgt := 25) hx hb dX5_hasPlaces_21 (by decide) ?_
        exact W.zret (v := 1) hx hb hr (by decide) (fun t ht hW => ⟨1, rfl, Or.inr ⟨rfl, (lf_X5_hasPlaces_4 hfe hj c_1 c_2 hqe_3 hq_3 e_4 c_5), hp_fact c_1 c_2 rfl hq_3 e_4 c_5⟩, ht⟩) (fun _ h => by cases h) dX5_hasPlaces_25
theorem lf_X5_findingOf_1 {fl : Nat → Int32} {fe : Nat → Int32} {j : Nat} {x : Int32} {y : Int32} (hfe : ∀ jq : Nat, jq < 8 → ∃ q : Nat, q ≤ 40 ∧ fe jq = nI q) (hj : j < 8) (f_1_0_0 : ¬ fl j = -1) (f_3_0_0 : ¬ plc (fe j) x y) : ¬ fl j = -1 := by
  first | assumption | grind
theorem lf_X5_findingOf_2 {fl : Nat → Int32} {fe : Nat → Int32} {j : Nat} {x : Int32} {y : Int32} (hfe : ∀ jq : Nat, jq < 8 → ∃ q : Nat, q ≤ 40 ∧ fe jq = nI q) (hj : j < 8) (f_1_0_0 : ¬ fl j = -1) (f_3_0_0 : ¬ plc (fe j) x y) : ¬ plc (fe j) x y := by
  first | assumption | grind
theorem lf_X5_findingOf_3 {fl : Nat → Int32} {fe : Nat → Int32} {j : Nat} {x : Int32} {y : Int32} (hfe : ∀ jq : Nat, jq < 8 → ∃ q : Nat, q ≤ 40 ∧ fe jq = nI q) (hj : j < 8) (f_1_0_0 : ¬ fl j = -1) (f_3_1_0 : plc (fe j) x y) (f_3_1_1 : hpF x y) : ¬ fl j = -1 := by
  first | assumption | grind
theorem lf_X5_findingOf_4 {fl : Nat → Int32} {fe : Nat → Int32} {j : Nat} {x : Int32} {y : Int32} (hfe : ∀ jq : Nat, jq < 8 → ∃ q : Nat, q ≤ 40 ∧ fe jq = nI q) (hj : j < 8) (f_1_0_0 : ¬ fl j = -1) (f_3_1_0 : plc (fe j) x y) (f_3_1_1 : hpF x y) : plc (fe j) x y := by
  first | assumption | grind
theorem lf_X5_findingOf_5 {fl : Nat → Int32} {fe : Nat → Int32} {j : Nat} {x : Int32} {y : Int32} (hfe : ∀ jq : Nat, jq < 8 → ∃ q : Nat, q ≤ 40 ∧ fe jq = nI q) (hj : j < 8) (f_1_0_0 : ¬ fl j = -1) (f_3_1_0 : plc (fe j) x y) (f_3_1_1 : hpF x y) : hpF x y := by
  first | assumption | grind
theorem lf_X5_findingOf_6 {fl : Nat → Int32} {fe : Nat → Int32} {j : Nat} (hfe : ∀ jq : Nat, jq < 8 → ∃ q : Nat, q ≤ 40 ∧ fe jq = nI q) (hj : j < 8) (f_1_1_0 : fl j = -1) : fl j = -1 := by
  first | assumption | grind
set_option maxHeartbeats 4000000 in
set_option maxRecDepth 100000 in
theorem r_X5_findingOf (l : Launch) (dC : Nat → ClassId) (dI : Nat → Nat → Nat) (cI cZ cL cJ : ClassId) (h : Nat) (it : Nat) (la : Nat) (le : Nat) (fl : Nat → Int32) (fe : Nat → Int32) (j : Nat) (x : Int32) (y : Int32) (hfe : ∀ jq : Nat, jq < 8 → ∃ q : Nat, q ≤ 40 ∧ fe jq = nI q) (hj : j < 8) : Met l yX5_findingOf wsX5_findingOf ({ frames := 1, cells := 0, slots := 0, locals := 23 }) (va_Pc [.ref h, .int (nI j), .int x, .int y] (fun U => va_P (dC, dI) vwCl [(xo_5_rrr h it la le), (xI la cI 8 fl), (xI le cI 8 fe)] U.heap ∧ va_K (dC, dI) vwCl [(cI, .int), (cZ, .boolean), (cL, .object RX3), (cJ, .array .int)] U)) (vp_Si (fun r => (r = 1 ∧ fl j = -1) ∨ (r = 0 ∧ ¬ fl j = -1 ∧ plc (fe j) x y ∧ hpF x y) ∨ (r = 2 ∧ ¬ fl j = -1 ∧ ¬ plc (fe j) x y))) 0 0 (fun _ => False) := by
  refine Met.ofW (cc := cX5_findingOf) (maxL := 4) (ret := (some .int)) (by decide) rfl ?_
  intro p e s m args below meth c s₁ B hml hv
  obtain ⟨rfl, hP, hK⟩ := hv
  have hx := B.exec
  have hb := B.bytes
  have hr := B.returns
  have hts := atoms_spec (ws := wsX5_findingOf) B.pre
  have hown : s.vm.findClass RX5 = some m.cls := findClass_of_methodNamed B.named
  have hlocks := B.notSynchronized
  have hP : va_P (dC, dI) vwCl [(xo_5_rrr h it la le), (xI la cI 8 fl), (xI le cI 8 fe)] s.heap := hP
  have hl := lv_entry ([.ref h, .int (nI j), .int x, .int y]) (n := 4) (Nat.le_of_ble_eq_true rfl)
  rw [lg_entry_eq]
  generalize (lg_sl ([.ref h, .int (nI j), .int x, .int y]) ++ List.replicate (4 - (lg_sl ([.ref h, .int (nI j), .int x, .int y])).length) Slot.unset).toArray = ls at hl ⊢
  have hl : lv_has ls 4 [(0, .ref h), (1, .int (nI j)), (2, .int x), (3, .int y)] := hl
  refine lv_aload_n hx hb dX5_findingOf_0 rfl (lv_at hl 0 rfl) ?_
  refine lv_iload_n hx hb dX5_findingOf_1 rfl (lv_at hl 1 rfl) ?_
  have hPc_1 := hP.sub (ws' := [(xo_5_rrr h it la le), (xI la cI 8 fl)]) [0, 1] rfl
  refine vp_callSi (W.runV (As := [.int (nI j)]) (rest := []) ⟨hx, hb, hml, hown, hts⟩ (r_X5_isMissing l dC dI cI cZ cL cJ h it la le fl j (hj)) (cwV 1 hts gX5_findingOf_X5_isMissing rfl rfl rfl (by decide +kernel) ⟨Nat.le_of_ble_eq_true rfl, Nat.le_of_ble_eq_true rfl⟩) (pvP 5 0 hK hP rfl rfl hPc_1) rfl rfl hl.1 rfl (lv_room (Nat.le_of_ble_eq_true rfl)) dX5_findingOf_2 ⟨Nat.le_of_ble_eq_true rfl, Nat.le_of_ble_eq_true rfl⟩) (fun r_1 h_1 => ?_)
  rcases h_1 with ⟨h_1, f_1_0_0⟩ | ⟨h_1, f_1_1_0⟩
  · subst h_1
    refine lv_if_eq (tgt := 10) hx hb dX5_findingOf_5 (by decide) (fun _ => ?_) (fun c_ => absurd (by decide) c_)
    refine lv_aload_n hx hb dX5_findingOf_10 rfl (lv_at hl 0 rfl) ?_
    refine lv_iload_n hx hb dX5_findingOf_11 rfl (lv_at hl 1 rfl) ?_
    refine lv_iload_n hx hb dX5_findingOf_12 rfl (lv_at hl 2 rfl) ?_
    refine lv_iload_n hx hb dX5_findingOf_13 rfl (lv_at hl 3 rfl) ?_
    have hPc_3 := hP.sub (ws' := [(xo_5_rrr h it la le), (xI le cI 8 fe)]) [0, 2] rfl
    refine vp_callSi (W.runV (As := [.int (nI j), .int x, .int y]) (rest := []) ⟨hx, hb, hml, hown, hts⟩ (r_X5_hasPlaces l dC dI cI cZ cL cJ h it la le fe j x y (hfe) (hj)) (cwV 3 hts gX5_findingOf_X5_hasPlaces rfl rfl rfl (by decide +kernel) ⟨Nat.le_of_ble_eq_true rfl, Nat.le_of_ble_eq_true rfl⟩) (pvP 5 0 hK hP rfl rfl hPc_3) rfl rfl hl.1 rfl (lv_room (Nat.le_of_ble_eq_true rfl)) dX5_findingOf_14 ⟨Nat.le_of_ble_eq_true rfl, Nat.le_of_ble_eq_true rfl⟩) (fun r_3 h_3 => ?_)
    rcases h_3 with ⟨h_3, f_3_0_0⟩ | ⟨h_3, f_3_1_0, f_3_1_1⟩
    · subst h_3
      refine lv_if_eq (tgt := 24) hx hb dX5_findingOf_17 (by decide) (fun _ => ?_) (fun c_ => absurd (by decide) c_)
      refine lv_iconst (v := 2) hx hb dX5_findingOf_24 (by decide) ?_
      exact W.iret (v := 2) hx hb hr (fun t ht hW => ⟨2, rfl, Or.inr (Or.inr (⟨rfl, (lf_X5_findingOf_1 hfe hj f_1_0_0 f_3_0_0), (lf_X5_findingOf_2 hfe hj f_1_0_0 f_3_0_0)⟩)), ht⟩) (fun _ h => by cases h) dX5_findingOf_25
    · subst h_3
      refine lv_if_eq (tgt := 24) hx hb dX5_findingOf_17 (by decide) (fun c_ => absurd c_ (by decide)) (fun _ => ?_)
      refine lv_iconst (v := 0) hx hb dX5_findingOf_20 (by decide) ?_
      refine lv_goto (tgt := 25) hx hb dX5_findingOf_21 (by decide) ?_
      exact W.iret (v := 0) hx hb hr (fun t ht hW => ⟨0, rfl, Or.inr (Or.inl (⟨rfl, (lf_X5_findingOf_3 hfe hj f_1_0_0 f_3_1_0 f_3_1_1), (lf_X5_findingOf_4 hfe hj f_1_0_0 f_3_1_0 f_3_1_1), (lf_X5_findingOf_5 hfe hj f_1_0_0 f_3_1_0 f_3_1_1)⟩)), ht⟩) (fun _ h => by cases h) dX5_findingOf_25
  · subst h_1
    refine lv_if_eq (tgt := 10) hx hb dX5_findingOf_5 (by decide) (fun c_ => absurd c_ (by decide)) (fun _ => ?_)
    refine lv_iconst (v := 1) hx hb dX5_findingOf_8 (by decide) ?_
    exact W.iret (v := 1) hx hb hr (fun t ht hW => ⟨1, rfl, Or.inl (⟨rfl, (lf_X5_findingOf_6 hfe hj f_1_1_0)⟩), ht⟩) (fun _ h => by cases h) dX5_findingOf_9
theorem lf_X5_findingOfMove_1 {fl : Nat → Int32} {fe : Nat → Int32} {j : Nat} {k : Nat} {x : Int32} {z : Int32} {v_5 : Int32} {v_6 : Int32} (hfe : ∀ jq : Nat, jq < 8 → ∃ q : Nat, q ≤ 40 ∧ fe jq = nI q) (hj : j < 8) (hk : k < 8) (f_1_0_0 : ¬ fl j = -1) (f_3_0_0 : ¬ fl k = -1) (e_5 : v_5 = fl j) (e_6 : v_6 = fl k) (c_7 : v_5 = v_6) (f_8_0_0 : ¬ plc (fe j) x z) : ¬ fl j = -1 := by
  first | assumption | grind
theorem lf_X5_findingOfMove_2 {fl : Nat → Int32} {fe : Nat → Int32} {j : Nat} {k : Nat} {x : Int32} {z : Int32} {v_5 : Int32} {v_6 : Int32} (hfe : ∀ jq : Nat, jq < 8 → ∃ q : Nat, q ≤ 40 ∧ fe jq = nI q) (hj : j < 8) (hk : k < 8) (f_1_0_0 : ¬ fl j = -1) (f_3_0_0 : ¬ fl k = -1) (e_5 : v_5 = fl j) (e_6 : v_6 = fl k) (c_7 : v_5 = v_6) (f_8_0_0 : ¬ plc (fe j) x z) : ¬ fl k = -1 := by
  first | assumption | grind
theorem lf_X5_findingOfMove_3 {fl : Nat → Int32} {fe : Nat → Int32} {j : Nat} {k : Nat} {x : Int32} {z : Int32} {v_5 : Int32} {v_6 : Int32} (hfe : ∀ jq : Nat, jq < 8 → ∃ q : Nat, q ≤ 40 ∧ fe jq = nI q) (hj : j < 8) (hk : k < 8) (f_1_0_0 : ¬ fl j = -1) (f_3_0_0 : ¬ fl k = -1) (e_5 : v_5 = fl j) (e_6 : v_6 = fl k) (c_7 : v_5 = v_6) (f_8_0_0 : ¬ plc (fe j) x z) : fl j = fl k := by
  first | assumption | grind
theorem lf_X5_findingOfMove_4 {fl : Nat → Int32} {fe : Nat → Int32} {j : Nat} {k : Nat} {x : Int32} {y : Int32} {z : Int32} {v_5 : Int32} {v_6 : Int32} (hfe : ∀ jq : Nat, jq < 8 → ∃ q : Nat, q ≤ 40 ∧ fe jq = nI q) (hj : j < 8) (hk : k < 8) (f_1_0_0 : ¬ fl j = -1) (f_3_0_0 : ¬ fl k = -1) (e_5 : v_5 = fl j) (e_6 : v_6 = fl k) (c_7 : v_5 = v_6) (f_8_0_0 : ¬ plc (fe j) x z) : (¬ plc (fe j) x z ∨ ¬ plc (fe k) y z) := by
  first | assumption | grind
theorem lf_X5_findingOfMove_5 {fl : Nat → Int32} {fe : Nat → Int32} {j : Nat} {k : Nat} {x : Int32} {y : Int32} {z : Int32} {v_5 : Int32} {v_6 : Int32} (hfe : ∀ jq : Nat, jq < 8 → ∃ q : Nat, q ≤ 40 ∧ fe jq = nI q) (hj : j < 8) (hk : k < 8) (f_1_0_0 : ¬ fl j = -1) (f_3_0_0 : ¬ fl k = -1) (e_5 : v_5 = fl j) (e_6 : v_6 = fl k) (c_7 : v_5 = v_6) (f_8_1_0 : plc (fe j) x z) (f_8_1_1 : hpF x z) (f_11_0_0 : ¬ plc (fe k) y z) : ¬ fl j = -1 := by
  first | assumption | grind
theorem lf_X5_findingOfMove_6 {fl : Nat → Int32} {fe : Nat → Int32} {j : Nat} {k : Nat} {x : Int32} {y : Int32} {z : Int32} {v_5 : Int32} {v_6 : Int32} (hfe : ∀ jq : Nat, jq < 8 → ∃ q : Nat, q ≤ 40 ∧ fe jq = nI q) (hj : j < 8) (hk : k < 8) (f_1_0_0 : ¬ fl j = -1) (f_3_0_0 : ¬ fl k = -1) (e_5 : v_5 = fl j) (e_6 : v_6 = fl k) (c_7 : v_5 = v_6) (f_8_1_0 : plc (fe j) x z) (f_8_1_1 : hpF x z) (f_11_0_0 : ¬ plc (fe k) y z) : ¬ fl k = -1 := by
  first | assumption | grind
theorem lf_X5_findingOfMove_7 {fl : Nat → Int32} {fe : Nat → Int32} {j : Nat} {k : Nat} {x : Int32} {y : Int32} {z : Int32} {v_5 : Int32} {v_6 : Int32} (hfe : ∀ jq : Nat, jq < 8 → ∃ q : Nat, q ≤ 40 ∧ fe jq = nI q) (hj : j < 8) (hk : k < 8) (f_1_0_0 : ¬ fl j = -1) (f_3_0_0 : ¬ fl k = -1) (e_5 : v_5 = fl j) (e_6 : v_6 = fl k) (c_7 : v_5 = v_6) (f_8_1_0 : plc (fe j) x z) (f_8_1_1 : hpF x z) (f_11_0_0 : ¬ plc (fe k) y z) : fl j = fl k := by
  first | assumption | grind
theorem lf_X5_findingOfMove_8 {fl : Nat → Int32} {fe : Nat → Int32} {j : Nat} {k : Nat} {x : Int32} {y : Int32} {z : Int32} {v_5 : Int32} {v_6 : Int32} (hfe : ∀ jq : Nat, jq < 8 → ∃ q : Nat, q ≤ 40 ∧ fe jq = nI q) (hj : j < 8) (hk : k < 8) (f_1_0_0 : ¬ fl j = -1) (f_3_0_0 : ¬ fl k = -1) (e_5 : v_5 = fl j) (e_6 : v_6 = fl k) (c_7 : v_5 = v_6) (f_8_1_0 : plc (fe j) x z) (f_8_1_1 : hpF x z) (f_11_0_0 : ¬ plc (fe k) y z) : (¬ plc (fe j) x z ∨ ¬ plc (fe k) y z) := by
  first | assumption | grind
theorem lf_X5_findingOfMove_9 {fl : Nat → Int32} {fe : Nat → Int32} {j : Nat} {k : Nat} {x : Int32} {y : Int32} {z : Int32} {v_5 : Int32} {v_6 : Int32} (hfe : ∀ jq : Nat, jq < 8 → ∃ q : Nat, q ≤ 40 ∧ fe jq = nI q) (hj : j < 8) (hk : k < 8) (f_1_0_0 : ¬ fl j = -1) (f_3_0_0 : ¬ fl k = -1) (e_5 : v_5 = fl j) (e_6 : v_6 = fl k) (c_7 : v_5 = v_6) (f_8_1_0 : plc (fe j) x z) (f_8_1_1 : hpF x z) (f_11_1_0 : plc (fe k) y z) (f_11_1_1 : hpF y z) : ¬ fl j = -1 := by
  first | assumption | grind
theorem lf_X5_findingOfMove_10 {fl : Nat → Int32} {fe : Nat → Int32} {j : Nat} {k : Nat} {x : Int32} {y : Int32} {z : Int32} {v_5 : Int32} {v_6 : Int32} (hfe : ∀ jq : Nat, jq < 8 → ∃ q : Nat, q ≤ 40 ∧ fe jq = nI q) (hj : j < 8) (hk : k < 8) (f_1_0_0 : ¬ fl j = -1) (f_3_0_0 : ¬ fl k = -1) (e_5 : v_5 = fl j) (e_6 : v_6 = fl k) (c_7 : v_5 = v_6) (f_8_1_0 : plc (fe j) x z) (f_8_1_1 : hpF x z) (f_11_1_0 : plc (fe k) y z) (f_11_1_1 : hpF y z) : ¬ fl k = -1 := by
  first | assumption | grind
theorem lf_X5_findingOfMove_11 {fl : Nat → Int32} {fe : Nat → Int32} {j : Nat} {k : Nat} {x : Int32} {y : Int32} {z : Int32} {v_5 : Int32} {v_6 : Int32} (hfe : ∀ jq : Nat, jq < 8 → ∃ q : Nat, q ≤ 40 ∧ fe jq = nI q) (hj : j < 8) (hk : k < 8) (f_1_0_0 : ¬ fl j = -1) (f_3_0_0 : ¬ fl k = -1) (e_5 : v_5 = fl j) (e_6 : v_6 = fl k) (c_7 : v_5 = v_6) (f_8_1_0 : plc (fe j) x z) (f_8_1_1 : hpF x z) (f_11_1_0 : plc (fe k) y z) (f_11_1_1 : hpF y z) : fl j = fl k := by
  first | assumption | grind
theorem lf_X5_findingOfMove_12 {fl : Nat → Int32} {fe : Nat → Int32} {j : Nat} {k : Nat} {x : Int32} {y : Int32} {z : Int32} {v_5 : Int32} {v_6 : Int32} (hfe : ∀ jq : Nat, jq < 8 → ∃ q : Nat, q ≤ 40 ∧ fe jq = nI q) (hj : j < 8) (hk : k < 8) (f_1_0_0 : ¬ fl j = -1) (f_3_0_0 : ¬ fl k = -1) (e_5 : v_5 = fl j) (e_6 : v_6 = fl k) (c_7 : v_5 = v_6) (f_8_1_0 : plc (fe j) x z) (f_8_1_1 : hpF x z) (f_11_1_0 : plc (fe k) y z) (f_11_1_1 : hpF y z) : plc (fe j) x z := by
  first | assumption | grind
theorem lf_X5_findingOfMove_13 {fl : Nat → Int32} {fe : Nat → Int32} {j : Nat} {k : Nat} {x : Int32} {y : Int32} {z : Int32} {v_5 : Int32} {v_6 : Int32} (hfe : ∀ jq : Nat, jq < 8 → ∃ q : Nat, q ≤ 40 ∧ fe jq = nI q) (hj : j < 8) (hk : k < 8) (f_1_0_0 : ¬ fl j = -1) (f_3_0_0 : ¬ fl k = -1) (e_5 : v_5 = fl j) (e_6 : v_6 = fl k) (c_7 : v_5 = v_6) (f_8_1_0 : plc (fe j) x z) (f_8_1_1 : hpF x z) (f_11_1_0 : plc (fe k) y z) (f_11_1_1 : hpF y z) : plc (fe k) y z := by
  first | assumption | grind
theorem lf_X5_findingOfMove_14 {fl : Nat → Int32} {fe : Nat → Int32} {j : Nat} {k : Nat} {x : Int32} {y : Int32} {z : Int32} {v_5 : Int32} {v_6 : Int32} (hfe : ∀ jq : Nat, jq < 8 → ∃ q : Nat, q ≤ 40 ∧ fe jq = nI q) (hj : j < 8) (hk : k < 8) (f_1_0_0 : ¬ fl j = -1) (f_3_0_0 : ¬ fl k = -1) (e_5 : v_5 = fl j) (e_6 : v_6 = fl k) (c_7 : v_5 = v_6) (f_8_1_0 : plc (fe j) x z) (f_8_1_1 : hpF x z) (f_11_1_0 : plc (fe k) y z) (f_11_1_1 : hpF y z) : hpF x z := by
  first | assumption | grind
theorem lf_X5_findingOfMove_15 {fl : Nat → Int32} {fe : Nat → Int32} {j : Nat} {k : Nat} {x : Int32} {y : Int32} {z : Int32} {v_5 : Int32} {v_6 : Int32} (hfe : ∀ jq : Nat, jq < 8 → ∃ q : Nat, q ≤ 40 ∧ fe jq = nI q) (hj : j < 8) (hk : k < 8) (f_1_0_0 : ¬ fl j = -1) (f_3_0_0 : ¬ fl k = -1) (e_5 : v_5 = fl j) (e_6 : v_6 = fl k) (c_7 : v_5 = v_6) (f_8_1_0 : plc (fe j) x z) (f_8_1_1 : hpF x z) (f_11_1_0 : plc (fe k) y z) (f_11_1_1 : hpF y z) : hpF y z := by
  first | assumption | grind
theorem lf_X5_findingOfMove_16 {fl : Nat → Int32} {fe : Nat → Int32} {j : Nat} {k : Nat} {v_5 : Int32} {v_6 : Int32} (hfe : ∀ jq : Nat, jq < 8 → ∃ q : Nat, q ≤ 40 ∧ fe jq = nI q) (hj : j < 8) (hk : k < 8) (f_1_0_0 : ¬ fl j = -1) (f_3_0_0 : ¬ fl k = -1) (e_5 : v_5 = fl j) (e_6 : v_6 = fl k) (c_7 : ¬ (v_5 = v_6)) : ¬ fl j = -1 := by
  first | assumption | grind
theorem lf_X5_findingOfMove_17 {fl : Nat → Int32} {fe : Nat → Int32} {j : Nat} {k : Nat} {v_5 : Int32} {v_6 : Int32} (hfe : ∀ jq : Nat, jq < 8 → ∃ q : Nat, q ≤ 40 ∧ fe jq = nI q) (hj : j < 8) (hk : k < 8) (f_1_0_0 : ¬ fl j = -1) (f_3_0_0 : ¬ fl k = -1) (e_5 : v_5 = fl j) (e_6 : v_6 = fl k) (c_7 : ¬ (v_5 = v_6)) : ¬ fl k = -1 := by
  first | assumption | grind
theorem lf_X5_findingOfMove_18 {fl : Nat → Int32} {fe : Nat → Int32} {j : Nat} {k : Nat} {v_5 : Int32} {v_6 : Int32} (hfe : ∀ jq : Nat, jq < 8 → ∃ q : Nat, q ≤ 40 ∧ fe jq = nI q) (hj : j < 8) (hk : k < 8) (f_1_0_0 : ¬ fl j = -1) (f_3_0_0 : ¬ fl k = -1) (e_5 : v_5 = fl j) (e_6 : v_6 = fl k) (c_7 : ¬ (v_5 = v_6)) : ¬ fl j = fl k := by
  first | assumption | grind
theorem lf_X5_findingOfMove_19 {fl : Nat → Int32} {fe : Nat → Int32} {j : Nat} {k : Nat} (hfe : ∀ jq : Nat, jq < 8 → ∃ q : Nat, q ≤ 40 ∧ fe jq = nI q) (hj : j < 8) (hk : k < 8) (f_1_0_0 : ¬ fl j = -1) (f_3_1_0 : fl k = -1) : (fl j = -1 ∨ fl k = -1) := by
  first | assumption | grind
theorem lf_X5_findingOfMove_20 {fl : Nat → Int32} {fe : Nat → Int32} {j : Nat} {k : Nat} (hfe : ∀ jq : Nat, jq < 8 → ∃ q : Nat, q ≤ 40 ∧ fe jq = nI q) (hj : j < 8) (hk : k < 8) (f_1_1_0 : fl j = -1) : (fl j = -1 ∨ fl k = -1) := by
  first | assumption | grind
set_option maxHeartbeats 4000000 in
set_option maxRecDepth 100000 in
theorem r_X5_findingOfMove (l : Launch) (dC : Nat → ClassId) (dI : Nat → Nat → Nat) (cI cZ cL cJ : ClassId) (h : Nat) (it : Nat) (la : Nat) (le : Nat) (fl : Nat → Int32) (fe : Nat → Int32) (j : Nat) (k : Nat) (x : Int32) (y : Int32) (z : Int32) (hfe : ∀ jq : Nat, jq < 8 → ∃ q : Nat, q ≤ 40 ∧ fe jq = nI q) (hj : j < 8) (hk : k < 8) : Met l yX5_findingOfMove wsX5_findingOfMove ({ frames := 1, cells := 0, slots := 0, locals := 23 }) (va_Pc [.ref h, .int (nI j), .int x, .int (nI k), .int y, .int z] (fun U => va_P (dC, dI) vwCl [(xo_5_rrr h it la le), (xI la cI 8 fl), (xI le cI 8 fe)] U.heap ∧ va_K (dC, dI) vwCl [(cI, .int), (cZ, .boolean), (cL, .object RX3), (cJ, .array .int)] U)) (vp_Si (fun r => (r = 1 ∧ (fl j = -1 ∨ fl k = -1)) ∨ (r = 5 ∧ ¬ fl j = -1 ∧ ¬ fl k = -1 ∧ ¬ fl j = fl k) ∨ (r = 0 ∧ ¬ fl j = -1 ∧ ¬ fl k = -1 ∧ fl j = fl k ∧ plc (fe j) x z ∧ plc (fe k) y z ∧ hpF x z ∧ hpF y z) ∨ (r = 2 ∧ ¬ fl j = -1 ∧ ¬ fl k = -1 ∧ fl j = fl k ∧ (¬ plc (fe j) x z ∨ ¬ plc (fe k) y z)))) 0 0 (fun _ => False) := by
  refine Met.ofW (cc := cX5_findingOfMove) (maxL := 6) (ret := (some .int)) (by decide) rfl ?_
  intro p e s m args below meth c s₁ B hml hv
  obtain ⟨rfl, hP, hK⟩ := hv
  have hx := B.exec
  have hb := B.bytes
  have hr := B.returns
  have hts := atoms_spec (ws := wsX5_findingOfMove) B.pre
  have hown : s.vm.findClass RX5 = some m.cls := findClass_of_methodNamed B.named
  have hlocks := B.notSynchronized
  have hP : va_P (dC, dI) vwCl [(xo_5_rrr h it la le), (xI la cI 8 fl), (xI le cI 8 fe)] s.heap := hP
  have hl := lv_entry ([.ref h, .int (nI j), .int x, .int (nI k), .int y, .int z]) (n := 6) (Nat.le_of_ble_eq_true rfl)
  rw [lg_entry_eq]
  generalize (lg_sl ([.ref h, .int (nI j), .int x, .int (nI k), .int y, .int z]) ++ List.replicate (6 - (lg_sl ([.ref h, .int (nI j), .int x, .int (nI k), .int y, .int z])).length) Slot.unset).toArray = ls at hl ⊢
  have hl : lv_has ls 6 [(0, .ref h), (1, .int (nI j)), (2, .int x), (3, .int (nI k)), (4, .int y), (5, .int z)] := hl
  refine lv_aload_n hx hb dX5_findingOfMove_0 rfl (lv_at hl 0 rfl) ?_
  refine lv_iload_n hx hb dX5_findingOfMove_1 rfl (lv_at hl 1 rfl) ?_
  have hPc_1 := hP.sub (ws' := [(xo_5_rrr h it la le), (xI la cI 8 fl)]) [0, 1] rfl
  refine vp_callSi (W.runV (As := [.int (nI j)]) (rest := []) ⟨hx, hb, hml, hown, hts⟩ (r_X5_isMissing l dC dI cI cZ cL cJ h it la le fl j (by omega)) (cwV 1 hts gX5_findingOfMove_X5_isMissing rfl rfl rfl (by decide +kernel) ⟨Nat.le_of_ble_eq_true rfl, Nat.le_of_ble_eq_true rfl⟩) (pvP 5 0 hK hP rfl rfl hPc_1) rfl rfl hl.1 rfl (lv_room (Nat.le_of_ble_eq_true rfl)) dX5_findingOfMove_2 ⟨Nat.le_of_ble_eq_true rfl, Nat.le_of_ble_eq_true rfl⟩) (fun r_1 h_1 => ?_)
  rcases h_1 with ⟨h_1, f_1_0_0⟩ | ⟨h_1, f_1_1_0⟩
  · subst h_1
    refine lv_if_ne (tgt := 16) hx hb dX5_findingOfMove_5 (by decide) (fun c_ => absurd (by decide) c_) (fun _ => ?_)
    refine lv_aload_n hx hb dX5_findingOfMove_8 rfl (lv_at hl 0 rfl) ?_
    refine lv_iload_n hx hb dX5_findingOfMove_9 rfl (lv_at hl 3 rfl) ?_
    have hPc_3 := hP.sub (ws' := [(xo_5_rrr h it la le), (xI la cI 8 fl)]) [0, 1] rfl
    refine vp_callSi (W.runV (As := [.int (nI k)]) (rest := []) ⟨hx, hb, hml, hown, hts⟩ (r_X5_isMissing l dC dI cI cZ cL cJ h it la le fl k (by omega)) (cwV 1 hts gX5_findingOfMove_X5_isMissing rfl rfl rfl (by decide +kernel) ⟨Nat.le_of_ble_eq_true rfl, Nat.le_of_ble_eq_true rfl⟩) (pvP 5 0 hK hP rfl rfl hPc_3) rfl rfl hl.1 rfl (lv_room (Nat.le_of_ble_eq_true rfl)) dX5_findingOfMove_10 ⟨Nat.le_of_ble_eq_true rfl, Nat.le_of_ble_eq_true rfl⟩) (fun r_3 h_3 => ?_)
    rcases h_3 with ⟨h_3, f_3_0_0⟩ | ⟨h_3, f_3_1_0⟩
    · subst h_3
      refine lv_if_eq (tgt := 18) hx hb dX5_findingOfMove_13 (by decide) (fun _ => ?_) (fun c_ => absurd (by decide) c_)
      refine lv_aload_n hx hb dX5_findingOfMove_18 rfl (lv_at hl 0 rfl) ?_
      refine va_get (D := (dC, dI)) (ci := 5) (v := .ref la) (C := RX5) (T := TX5) (N := 3) hx hb hts i_X5_findingOfMove_X5 hown hK hP 0 rfl rfl 1 (by decide) (hts _ mx_X5_findingOfMove_1) (fun _ h9 => h9) rfl dX5_findingOfMove_19 ?_
      refine lv_iload_n hx hb dX5_findingOfMove_22 rfl (lv_at hl 1 rfl) ?_
      refine va_iald hx hb hK hP 1 0 rfl rfl (vp_in_nI (by omega) (by omega)) dX5_findingOfMove_23 ?_
      refine lv_topi (fun v_5 e_5 => ?_)
      have e_5 : v_5 = fl j := e_5.trans (congrArg fl (nI_clamp (by omega)))
      refine lv_aload_n hx hb dX5_findingOfMove_24 rfl (lv_at hl 0 rfl) ?_
      refine va_get (D := (dC, dI)) (ci := 5) (v := .ref la) (C := RX5) (T := TX5) (N := 3) hx hb hts i_X5_findingOfMove_X5 hown hK hP 0 rfl rfl 1 (by decide) (hts _ mx_X5_findingOfMove_1) (fun _ h9 => h9) rfl dX5_findingOfMove_25 ?_
      refine lv_iload_n hx hb dX5_findingOfMove_28 rfl (lv_at hl 3 rfl) ?_
      refine va_iald hx hb hK hP 1 0 rfl rfl (vp_in_nI (by omega) (by omega)) dX5_findingOfMove_29 ?_
      refine lv_topi (fun v_6 e_6 => ?_)
      have e_6 : v_6 = fl k := e_6.trans (congrArg fl (nI_clamp (by omega)))
      refine lv_icmp_eq (tgt := 35) hx hb dX5_findingOfMove_30 (by decide) (fun c_7 => ?_) (fun c_7 => ?_)
      · skip
        refine lv_aload_n hx hb dX5_findingOfMove_35 rfl (lv_at hl 0 rfl) ?_
        refine lv_iload_n hx hb dX5_findingOfMove_36 rfl (lv_at hl 1 rfl) ?_
        refine lv_iload_n hx hb dX5_findingOfMove_37 rfl (lv_at hl 2 rfl) ?_
        refine lv_iload hx hb dX5_findingOfMove_38 (lv_at hl 5 rfl) ?_
        have hPc_8 := hP.sub (ws' := [(xo_5_rrr h it la le), (xI le cI 8 fe)]) [0, 2] rfl
        refine vp_callSi (W.runV (As := [.int (nI j), .int x, .int z]) (rest := []) ⟨hx, hb, hml, hown, hts⟩ (r_X5_hasPlaces l dC dI cI cZ cL cJ h it la le fe j x z (hfe) (by omega)) (cwV 3 hts gX5_findingOfMove_X5_hasPlaces rfl rfl rfl (by decide +kernel) ⟨Nat.le_of_ble_eq_true rfl, Nat.le_of_ble_eq_true rfl⟩) (pvP 5 0 hK hP rfl rfl hPc_8) rfl rfl hl.1 rfl (lv_room (Nat.le_of_ble_eq_true rfl)) dX5_findingOfMove_40 ⟨Nat.le_of_ble_eq_true rfl, Nat.le_of_ble_eq_true rfl⟩) (fun r_8 h_8 => ?_)
        rcases h_8 with ⟨h_8, f_8_0_0⟩ | ⟨h_8, f_8_1_0, f_8_1_1⟩
        · subst h_8
          refine lv_if_eq (tgt := 62) hx hb dX5_findingOfMove_43 (by decide) (fun _ => ?_) (fun c_ => absurd (by decide) c_)
          refine lv_iconst (v := 2) hx hb dX5_findingOfMove_62 (by decide) ?_
          exact W.iret (v := 2) hx hb hr (fun t ht hW => ⟨2, rfl, Or.inr (Or.inr (Or.inr (⟨rfl, (lf_X5_findingOfMove_1 hfe hj hk f_1_0_0 f_3_0_0 e_5 e_6 c_7 f_8_0_0), (lf_X5_findingOfMove_2 hfe hj hk f_1_0_0 f_3_0_0 e_5 e_6 c_7 f_8_0_0), (lf_X5_findingOfMove_3 hfe hj hk f_1_0_0 f_3_0_0 e_5 e_6 c_7 f_8_0_0), (lf_X5_findingOfMove_4 hfe hj hk f_1_0_0 f_3_0_0 e_5 e_6 c_7 f_8_0_0)⟩))), ht⟩) (fun _ h => by cases h) dX5_findingOfMove_63
        · subst h_8
          refine lv_if_eq (tgt := 62) hx hb dX5_findingOfMove_43 (by decide) (fun c_ => absurd c_ (by decide)) (fun _ => ?_)
          refine lv_aload_n hx hb dX5_findingOfMove_46 rfl (lv_at hl 0 rfl) ?_
          refine lv_iload_n hx hb dX5_findingOfMove_47 rfl (lv_at hl 3 rfl) ?_
          refine lv_iload hx hb dX5_findingOfMove_48 (lv_at hl 4 rfl) ?_
          refine lv_iload hx hb dX5_findingOfMove_50 (lv_at hl 5 rfl) ?_
          have hPc_11 := hP.sub (ws' := [(xo_5_rrr h it la le), (xI le cI 8 fe)]) [0, 2] rfl
          refine vp_callSi (W.runV (As := [.int (nI k), .int y, .int z]) (rest := []) ⟨hx, hb, hml, hown, hts⟩ (r_X5_hasPlaces l dC dI cI cZ cL cJ h it la le fe k y z (hfe) (by omega)) (cwV 3 hts gX5_findingOfMove_X5_hasPlaces rfl rfl rfl (by decide +kernel) ⟨Nat.le_of_ble_eq_true rfl, Nat.le_of_ble_eq_true rfl⟩) (pvP 5 0 hK hP rfl rfl hPc_11) rfl rfl hl.1 rfl (lv_room (Nat.le_of_ble_eq_true rfl)) dX5_findingOfMove_52 ⟨Nat.le_of_ble_eq_true rfl, Nat.le_of_ble_eq_true rfl⟩) (fun r_11 h_11 => ?_)
          rcases h_11 with ⟨h_11, f_11_0_0⟩ | ⟨h_11, f_11_1_0, f_11_1_1⟩
          · subst h_11
            refine lv_if_eq (tgt := 62) hx hb dX5_findingOfMove_55 (by decide) (fun _ => ?_) (fun c_ => absurd (by decide) c_)
            refine lv_iconst (v := 2) hx hb dX5_findingOfMove_62 (by decide) ?_
            exact W.iret (v := 2) hx hb hr (fun t ht hW => ⟨2, rfl, Or.inr (Or.inr (Or.inr (⟨rfl, (lf_X5_findingOfMove_5 hfe hj hk f_1_0_0 f_3_0_0 e_5 e_6 c_7 f_8_1_0 f_8_1_1 f_11_0_0), (lf_X5_findingOfMove_6 hfe hj hk f_1_0_0 f_3_0_0 e_5 e_6 c_7 f_8_1_0 f_8_1_1 f_11_0_0), (lf_X5_findingOfMove_7 hfe hj hk f_1_0_0 f_3_0_0 e_5 e_6 c_7 f_8_1_0 f_8_1_1 f_11_0_0), (lf_X5_findingOfMove_8 hfe hj hk f_1_0_0 f_3_0_0 e_5 e_6 c_7 f_8_1_0 f_8_1_1 f_11_0_0)⟩))), ht⟩) (fun _ h => by cases h) dX5_findingOfMove_63
          · subst h_11
            refine lv_if_eq (tgt := 62) hx hb dX5_findingOfMove_55 (by decide) (fun c_ => absurd c_ (by decide)) (fun _ => ?_)
            refine lv_iconst (v := 0) hx hb dX5_findingOfMove_58 (by decide) ?_
            refine lv_goto (tgt := 63) hx hb dX5_findingOfMove_59 (by decide) ?_
            exact W.iret (v := 0) hx hb hr (fun t ht hW => ⟨0, rfl, Or.inr (Or.inr (Or.inl (⟨rfl, (lf_X5_findingOfMove_9 hfe hj hk f_1_0_0 f_3_0_0 e_5 e_6 c_7 f_8_1_0 f_8_1_1 f_11_1_0 f_11_1_1), (lf_X5_findingOfMove_10 hfe hj hk f_1_0_0 f_3_0_0 e_5 e_6 c_7 f_8_1_0 f_8_1_1 f_11_1_0 f_11_1_1), (lf_X5_findingOfMove_11 hfe hj hk f_1_0_0 f_3_0_0 e_5 e_6 c_7 f_8_1_0 f_8_1_1 f_11_1_0 f_11_1_1), (lf_X5_findingOfMove_12 hfe hj hk f_1_0_0 f_3_0_0 e_5 e_6 c_7 f_8_1_0 f_8_1_1 f_11_1_0 f_11_1_1), (lf_X5_findingOfMove_13 hfe hj hk f_1_0_0 f_3_0_0 e_5 e_6 c_7 f_8_1_0 f_8_1_1 f_11_1_0 f_11_1_1), (lf_X5_findingOfMove_14 hfe hj hk f_1_0_0 f_3_0_0 e_5 e_6 c_7 f_8_1_0 f_8_1_1 f_11_1_0 f_11_1_1), (lf_X5_findingOfMove_15 hfe hj hk f_1_0_0 f_3_0_0 e_5 e_6 c_7 f_8_1_0 f_8_1_1 f_11_1_0 f_11_1_1)⟩))), ht⟩) (fun _ h => by cases h) dX5_findingOfMove_63
      · skip
        refine lv_iconst (v := 5) hx hb dX5_findingOfMove_33 (by decide) ?_
        exact W.iret (v := 5) hx hb hr (fun t ht hW => ⟨5, rfl, Or.inr (Or.inl (⟨rfl, (lf_X5_findingOfMove_16 hfe hj hk f_1_0_0 f_3_0_0 e_5 e_6 c_7), (lf_X5_findingOfMove_17 hfe hj hk f_1_0_0 f_3_0_0 e_5 e_6 c_7), (lf_X5_findingOfMove_18 hfe hj hk f_1_0_0 f_3_0_0 e_5 e_6 c_7)⟩)), ht⟩) (fun _ h => by cases h) dX5_findingOfMove_34
    · subst h_3
      refine lv_if_eq (tgt := 18) hx hb dX5_findingOfMove_13 (by decide) (fun c_ => absurd c_ (by decide)) (fun _ => ?_)
      refine lv_iconst (v := 1) hx hb dX5_findingOfMove_16 (by decide) ?_
      exact W.iret (v := 1) hx hb hr (fun t ht hW => ⟨1, rfl, Or.inl (⟨rfl, (lf_X5_findingOfMove_19 hfe hj hk f_1_0_0 f_3_1_0)⟩), ht⟩) (fun _ h => by cases h) dX5_findingOfMove_17
  · subst h_1
    refine lv_if_ne (tgt := 16) hx hb dX5_findingOfMove_5 (by decide) (fun _ => ?_) (fun c_ => absurd c_ (by decide))
    refine lv_iconst (v := 1) hx hb dX5_findingOfMove_16 (by decide) ?_
    exact W.iret (v := 1) hx hb hr (fun t ht hW => ⟨1, rfl, Or.inl (⟨rfl, (lf_X5_findingOfMove_20 hfe hj hk f_1_1_0)⟩), ht⟩) (fun _ h => by cases h) dX5_findingOfMove_17
set_option maxHeartbeats 4000000 in
set_option maxRecDepth 100000 in
theorem r_X5_item (l : Launch) (dC : Nat → ClassId) (dI : Nat → Nat → Nat) (cI cZ cL cJ : ClassId) (h : Nat) (it : Nat) (la : Nat) (le : Nat) (fl : Nat → Int32) (fe : Nat → Int32) (y0 : Nat) (y1 : Nat) (y2 : Nat) (y3 : Nat) (y4 : Nat) (y5 : Nat) (y6 : Nat) (y7 : Nat) (f0 : Nat → Int32) (f1 : Nat → Int32) (f2 : Nat → Int32) (f3 : Nat → Int32) (f4 : Nat → Int32) (f5 : Nat → Int32) (f6 : Nat → Int32) (f7 : Nat → Int32) (fi : Nat → Option Nat) (j : Nat) (k : Nat) (hfi : fi 0 = some y0 ∧ fi 1 = some y1 ∧ fi 2 = some y2 ∧ fi 3 = some y3 ∧ fi 4 = some y4 ∧ fi 5 = some y5 ∧ fi 6 = some y6 ∧ fi 7 = some y7) (hj : j < 8) (hk : k < 40) : Met l yX5_item wsX5_item ({ frames := 0, cells := 0, slots := 0, locals := 0 }) (va_Pc [.ref h, .int (nI j), .int (nI k)] (fun U => va_P (dC, dI) vwCl [(xo_5_rrr h it la le), (xJ it cJ 8 fi), (xI y0 cI 40 f0), (xI y1 cI 40 f1), (xI y2 cI 40 f2), (xI y3 cI 40 f3), (xI y4 cI 40 f4), (xI y5 cI 40 f5), (xI y6 cI 40 f6), (xI y7 cI 40 f7)] U.heap ∧ va_K (dC, dI) vwCl [(cI, .int), (cZ, .boolean), (cL, .object RX3), (cJ, .array .int)] U)) (vp_Si (fun r => True)) 0 0 (fun _ => False) := by
  refine Met.ofW (cc := cX5_item) (maxL := 3) (ret := (some .int)) (by decide) rfl ?_
  intro p e s m args below meth c s₁ B hml hv
  obtain ⟨rfl, hP, hK⟩ := hv
  have hx := B.exec
  have hb := B.bytes
  have hr := B.returns
  have hts := atoms_spec (ws := wsX5_item) B.pre
  have hown : s.vm.findClass RX5 = some m.cls := findClass_of_methodNamed B.named
  have hlocks := B.notSynchronized
  have hP : va_P (dC, dI) vwCl [(xo_5_rrr h it la le), (xJ it cJ 8 fi), (xI y0 cI 40 f0), (xI y1 cI 40 f1), (xI y2 cI 40 f2), (xI y3 cI 40 f3), (xI y4 cI 40 f4), (xI y5 cI 40 f5), (xI y6 cI 40 f6), (xI y7 cI 40 f7)] s.heap := hP
  have hl := lv_entry ([.ref h, .int (nI j), .int (nI k)]) (n := 3) (Nat.le_of_ble_eq_true rfl)
  rw [lg_entry_eq]
  generalize (lg_sl ([.ref h, .int (nI j), .int (nI k)]) ++ List.replicate (3 - (lg_sl ([.ref h, .int (nI j), .int (nI k)])).length) Slot.unset).toArray = ls at hl ⊢
  have hl : lv_has ls 3 [(0, .ref h), (1, .int (nI j)), (2, .int (nI k))] := hl
  rcases (show j = 0 ∨ j = 1 ∨ j = 2 ∨ j = 3 ∨ j = 4 ∨ j = 5 ∨ j = 6 ∨ j = 7 by omega) with rfl | rfl | rfl | rfl | rfl | rfl | rfl | rfl
  · skip
    have hl : lv_has ls 3 [(0, .ref h), (1, .int 0), (2, .int (nI k))] := hl
    refine lv_aload_n hx hb dX5_item_0 rfl (lv_at hl 0 rfl) ?_
    refine va_get (D := (dC, dI)) (ci := 5) (v := .ref it) (C := RX5) (T := TX5) (N := 3) hx hb hts i_X5_item_X5 hown hK hP 0 rfl rfl 0 (by decide) (hts _ mx_X5_item_1) (fun _ h9 => h9) rfl dX5_item_1 ?_
    refine lv_iload_n hx hb dX5_item_4 rfl (lv_at hl 1 rfl) ?_
    refine nw_alk hx hb hK hP 1 3 rfl rfl 0 rfl (Nat.le_of_ble_eq_true rfl) (Nat.le_of_ble_eq_true rfl) hfi.1 dX5_item_5 ?_
    refine lv_iload_n hx hb dX5_item_6 rfl (lv_at hl 2 rfl) ?_
    refine va_iald hx hb hK hP 2 0 rfl rfl (vp_in_nI (by omega) (by omega)) dX5_item_7 ?_
    refine lv_topi (fun v_2 e_2 => ?_)
    exact W.iret (v := v_2) hx hb hr (fun t ht hW => ⟨v_2, rfl, trivial, ht⟩) (fun _ h => by cases h) dX5_item_8
  · skip
    have hl : lv_has ls 3 [(0, .ref h), (1, .int 1), (2, .int (nI k))] := hl
    refine lv_aload_n hx hb dX5_item_0 rfl (lv_at hl 0 rfl) ?_
    refine va_get (D := (dC, dI)) (ci := 5) (v := .ref it) (C := RX5) (T := TX5) (N := 3) hx hb hts i_X5_item_X5 hown hK hP 0 rfl rfl 0 (by decide) (hts _ mx_X5_item_1) (fun _ h9 => h9) rfl dX5_item_1 ?_
    refine lv_iload_n hx hb dX5_item_4 rfl (lv_at hl 1 rfl) ?_
    refine nw_alk hx hb hK hP 1 3 rfl rfl 1 rfl (Nat.le_of_ble_eq_true rfl) (Nat.le_of_ble_eq_true rfl) hfi.2.1 dX5_item_5 ?_
    refine lv_iload_n hx hb dX5_item_6 rfl (lv_at hl 2 rfl) ?_
    refine va_iald hx hb hK hP 3 0 rfl rfl (vp_in_nI (by omega) (by omega)) dX5_item_7 ?_
    refine lv_topi (fun v_4 e_4 => ?_)
    exact W.iret (v := v_4) hx hb hr (fun t ht hW => ⟨v_4, rfl, trivial, ht⟩) (fun _ h => by cases h) dX5_item_8
  · skip
    have hl : lv_has ls 3 [(0, .ref h), (1, .int 2), (2, .int (nI k))] := hl
    refine lv_aload_n hx hb dX5_item_0 rfl (lv_at hl 0 rfl) ?_
    refine va_get (D := (dC, dI)) (ci := 5) (v := .ref it) (C := RX5) (T := TX5) (N := 3) hx hb hts i_X5_item_X5 hown hK hP 0 rfl rfl 0 (by decide) (hts _ mx_X5_item_1) (fun _ h9 => h9) rfl dX5_item_1 ?_
    refine lv_iload_n hx hb dX5_item_4 rfl (lv_at hl 1 rfl) ?_
    refine nw_alk hx hb hK hP 1 3 rfl rfl 2 rfl (Nat.le_of_ble_eq_true rfl) (Nat.le_of_ble_eq_true rfl) hfi.2.2.1 dX5_item_5 ?_
    refine lv_iload_n hx hb dX5_item_6 rfl (lv_at hl 2 rfl) ?_
    refine va_iald hx hb hK hP 4 0 rfl rfl (vp_in_nI (by omega) (by omega)) dX5_item_7 ?_
    refine lv_topi (fun v_6 e_6 => ?_)
    exact W.iret (v := v_6) hx hb hr (fun t ht hW => ⟨v_6, rfl, trivial, ht⟩) (fun _ h => by cases h) dX5_item_8
  · skip
    have hl : lv_has ls 3 [(0, .ref h), (1, .int 3), (2, .int (nI k))] := hl
    refine lv_aload_n hx hb dX5_item_0 rfl (lv_at hl 0 rfl) ?_
    refine va_get (D := (dC, dI)) (ci := 5) (v := .ref it) (C := RX5) (T := TX5) (N := 3) hx hb hts i_X5_item_X5 hown hK hP 0 rfl rfl 0 (by decide) (hts _ mx_X5_item_1) (fun _ h9 => h9) rfl dX5_item_1 ?_
    refine lv_iload_n hx hb dX5_item_4 rfl (lv_at hl 1 rfl) ?_
    refine nw_alk hx hb hK hP 1 3 rfl rfl 3 rfl (Nat.le_of_ble_eq_true rfl) (Nat.le_of_ble_eq_true rfl) hfi.2.2.2.1 dX5_item_5 ?_
    refine lv_iload_n hx hb dX5_item_6 rfl (lv_at hl 2 rfl) ?_
    refine va_iald hx hb hK hP 5 0 rfl rfl (vp_in_nI (by omega) (by omega)) dX5_item_7 ?_
    refine lv_topi (fun v_8 e_8 => ?_)
    exact W.iret (v := v_8) hx hb hr (fun t ht hW => ⟨v_8, rfl, trivial, ht⟩) (fun _ h => by cases h) dX5_item_8
  · skip
    have hl : lv_has ls 3 [(0, .ref h), (1, .int 4), (2, .int (nI k))] := hl
    refine lv_aload_n hx hb dX5_item_0 rfl (lv_at hl 0 rfl) ?_
    refine va_get (D := (dC, dI)) (ci := 5) (v := .ref it) (C := RX5) (T := TX5) (N := 3) hx hb hts i_X5_item_X5 hown hK hP 0 rfl rfl 0 (by decide) (hts _ mx_X5_item_1) (fun _ h9 => h9) rfl dX5_item_1 ?_
    refine lv_iload_n hx hb dX5_item_4 rfl (lv_at hl 1 rfl) ?_
    refine nw_alk hx hb hK hP 1 3 rfl rfl 4 rfl (Nat.le_of_ble_eq_true rfl) (Nat.le_of_ble_eq_true rfl) hfi.2.2.2.2.1 dX5_item_5 ?_
    refine lv_iload_n hx hb dX5_item_6 rfl (lv_at hl 2 rfl) ?_
    refine va_iald hx hb hK hP 6 0 rfl rfl (vp_in_nI (by omega) (by omega)) dX5_item_7 ?_
    refine lv_topi (fun v_10 e_10 => ?_)
    exact W.iret (v := v_10) hx hb hr (fun t ht hW => ⟨v_10, rfl, trivial, ht⟩) (fun _ h => by cases h) dX5_item_8
  · skip
    have hl : lv_has ls 3 [(0, .ref h), (1, .int 5), (2, .int (nI k))] := hl
    refine lv_aload_n hx hb dX5_item_0 rfl (lv_at hl 0 rfl) ?_
    refine va_get (D := (dC, dI)) (ci := 5) (v := .ref it) (C := RX5) (T := TX5) (N := 3) hx hb hts i_X5_item_X5 hown hK hP 0 rfl rfl 0 (by decide) (hts _ mx_X5_item_1) (fun _ h9 => h9) rfl dX5_item_1 ?_
    refine lv_iload_n hx hb dX5_item_4 rfl (lv_at hl 1 rfl) ?_
    refine nw_alk hx hb hK hP 1 3 rfl rfl 5 rfl (Nat.le_of_ble_eq_true rfl) (Nat.le_of_ble_eq_true rfl) hfi.2.2.2.2.2.1 dX5_item_5 ?_
    refine lv_iload_n hx hb dX5_item_6 rfl (lv_at hl 2 rfl) ?_
    refine va_iald hx hb hK hP 7 0 rfl rfl (vp_in_nI (by omega) (by omega)) dX5_item_7 ?_
    refine lv_topi (fun v_12 e_12 => ?_)
    exact W.iret (v := v_12) hx hb hr (fun t ht hW => ⟨v_12, rfl, trivial, ht⟩) (fun _ h => by cases h) dX5_item_8
  · skip
    have hl : lv_has ls 3 [(0, .ref h), (1, .int 6), (2, .int (nI k))] := hl
    refine lv_aload_n hx hb dX5_item_0 rfl (lv_at hl 0 rfl) ?_
    refine va_get (D := (dC, dI)) (ci := 5) (v := .ref it) (C := RX5) (T := TX5) (N := 3) hx hb hts i_X5_item_X5 hown hK hP 0 rfl rfl 0 (by decide) (hts _ mx_X5_item_1) (fun _ h9 => h9) rfl dX5_item_1 ?_
    refine lv_iload_n hx hb dX5_item_4 rfl (lv_at hl 1 rfl) ?_
    refine nw_alk hx hb hK hP 1 3 rfl rfl 6 rfl (Nat.le_of_ble_eq_true rfl) (Nat.le_of_ble_eq_true rfl) hfi.2.2.2.2.2.2.1 dX5_item_5 ?_
    refine lv_iload_n hx hb dX5_item_6 rfl (lv_at hl 2 rfl) ?_
    refine va_iald hx hb hK hP 8 0 rfl rfl (vp_in_nI (by omega) (by omega)) dX5_item_7 ?_
    refine lv_topi (fun v_14 e_14 => ?_)
    exact W.iret (v := v_14) hx hb hr (fun t ht hW => ⟨v_14, rfl, trivial, ht⟩) (fun _ h => by cases h) dX5_item_8
  · skip
    have hl : lv_has ls 3 [(0, .ref h), (1, .int 7), (2, .int (nI k))] := hl
    refine lv_aload_n hx hb dX5_item_0 rfl (lv_at hl 0 rfl) ?_
    refine va_get (D := (dC, dI)) (ci := 5) (v := .ref it) (C := RX5) (T := TX5) (N := 3) hx hb hts i_X5_item_X5 hown hK hP 0 rfl rfl 0 (by decide) (hts _ mx_X5_item_1) (fun _ h9 => h9) rfl dX5_item_1 ?_
    refine lv_iload_n hx hb dX5_item_4 rfl (lv_at hl 1 rfl) ?_
    refine nw_alk hx hb hK hP 1 3 rfl rfl 7 rfl (Nat.le_of_ble_eq_true rfl) (Nat.le_of_ble_eq_true rfl) hfi.2.2.2.2.2.2.2 dX5_item_5 ?_
    refine lv_iload_n hx hb dX5_item_6 rfl (lv_at hl 2 rfl) ?_
    refine va_iald hx hb hK hP 9 0 rfl rfl (vp_in_nI (by omega) (by omega)) dX5_item_7 ?_
    refine lv_topi (fun v_16 e_16 => ?_)
    exact W.iret (v := v_16) hx hb hr (fun t ht hW => ⟨v_16, rfl, trivial, ht⟩) (fun _ h => by cases h) dX5_item_8
theorem lf_X5_put_1 {fl : Nat → Int32} {y0 : Nat} {y1 : Nat} {y2 : Nat} {y3 : Nat} {y4 : Nat} {y5 : Nat} {y6 : Nat} {y7 : Nat} {f0 : Nat → Int32} {fi : Nat → Option Nat} {k : Nat} {v : Int32} {v_1 : Int32} {v_3 : Int32} {g_6 : Nat → Int32} (hfi : fi 0 = some y0 ∧ fi 1 = some y1 ∧ fi 2 = some y2 ∧ fi 3 = some y3 ∧ fi 4 = some y4 ∧ fi 5 = some y5 ∧ fi 6 = some y6 ∧ fi 7 = some y7) (hj : 0 < 8) (hk : k < 40) (e_1 : v_1 = fl 0) (c_2 : ¬ (v_1 = 0)) (e_3 : v_3 = fl 0) (c_4 : ¬ (v_3 = 1)) (hu_6 : g_6 = upd f0 k v) : v = (laneX (fl 0) v) := by
  unfold laneX; grind
theorem lf_X5_put_2 {fl : Nat → Int32} {y0 : Nat} {y1 : Nat} {y2 : Nat} {y3 : Nat} {y4 : Nat} {y5 : Nat} {y6 : Nat} {y7 : Nat} {f1 : Nat → Int32} {fi : Nat → Option Nat} {k : Nat} {v : Int32} {v_1 : Int32} {v_3 : Int32} {g_8 : Nat → Int32} (hfi : fi 0 = some y0 ∧ fi 1 = some y1 ∧ fi 2 = some y2 ∧ fi 3 = some y3 ∧ fi 4 = some y4 ∧ fi 5 = some y5 ∧ fi 6 = some y6 ∧ fi 7 = some y7) (hj : 1 < 8) (hk : k < 40) (e_1 : v_1 = fl 1) (c_2 : ¬ (v_1 = 0)) (e_3 : v_3 = fl 1) (c_4 : ¬ (v_3 = 1)) (hu_8 : g_8 = upd f1 k v) : v = (laneX (fl 1) v) := by
  unfold laneX; grind
theorem lf_X5_put_3 {fl : Nat → Int32} {y0 : Nat} {y1 : Nat} {y2 : Nat} {y3 : Nat} {y4 : Nat} {y5 : Nat} {y6 : Nat} {y7 : Nat} {f2 : Nat → Int32} {fi : Nat → Option Nat} {k : Nat} {v : Int32} {v_1 : Int32} {v_3 : Int32} {g_10 : Nat → Int32} (hfi : fi 0 = some y0 ∧ fi 1 = some y1 ∧ fi 2 = some y2 ∧ fi 3 = some y3 ∧ fi 4 = some y4 ∧ fi 5 = some y5 ∧ fi 6 = some y6 ∧ fi 7 = some y7) (hj : 2 < 8) (hk : k < 40) (e_1 : v_1 = fl 2) (c_2 : ¬ (v_1 = 0)) (e_3 : v_3 = fl 2) (c_4 : ¬ (v_3 = 1)) (hu_10 : g_10 = upd f2 k v) : v = (laneX (fl 2) v) := by
  unfold laneX; grind
theorem lf_X5_put_4 {fl : Nat → Int32} {y0 : Nat} {y1 : Nat} {y2 : Nat} {y3 : Nat} {y4 : Nat} {y5 : Nat} {y6 : Nat} {y7 : Nat} {f3 : Nat → Int32} {fi : Nat → Option Nat} {k : Nat} {v : Int32} {v_1 : Int32} {v_3 : Int32} {g_12 : Nat → Int32} (hfi : fi 0 = some y0 ∧ fi 1 = some y1 ∧ fi 2 = some y2 ∧ fi 3 = some y3 ∧ fi 4 = some y4 ∧ fi 5 = some y5 ∧ fi 6 = some y6 ∧ fi 7 = some y7) (hj : 3 < 8) (hk : k < 40) (e_1 : v_1 = fl 3) (c_2 : ¬ (v_1 = 0)) (e_3 : v_3 = fl 3) (c_4 : ¬ (v_3 = 1)) (hu_12 : g_12 = upd f3 k v) : v = (laneX (fl 3) v) := by
  unfold laneX; grind
theorem lf_X5_put_5 {fl : Nat → Int32} {y0 : Nat} {y1 : Nat} {y2 : Nat} {y3 : Nat} {y4 : Nat} {y5 : Nat} {y6 : Nat} {y7 : Nat} {f4 : Nat → Int32} {fi : Nat → Option Nat} {k : Nat} {v : Int32} {v_1 : Int32} {v_3 : Int32} {g_14 : Nat → Int32} (hfi : fi 0 = some y0 ∧ fi 1 = some y1 ∧ fi 2 = some y2 ∧ fi 3 = some y3 ∧ fi 4 = some y4 ∧ fi 5 = some y5 ∧ fi 6 = some y6 ∧ fi 7 = some y7) (hj : 4 < 8) (hk : k < 40) (e_1 : v_1 = fl 4) (c_2 : ¬ (v_1 = 0)) (e_3 : v_3 = fl 4) (c_4 : ¬ (v_3 = 1)) (hu_14 : g_14 = upd f4 k v) : v = (laneX (fl 4) v) := by
  unfold laneX; grind
theorem lf_X5_put_6 {fl : Nat → Int32} {y0 : Nat} {y1 : Nat} {y2 : Nat} {y3 : Nat} {y4 : Nat} {y5 : Nat} {y6 : Nat} {y7 : Nat} {f5 : Nat → Int32} {fi : Nat → Option Nat} {k : Nat} {v : Int32} {v_1 : Int32} {v_3 : Int32} {g_16 : Nat → Int32} (hfi : fi 0 = some y0 ∧ fi 1 = some y1 ∧ fi 2 = some y2 ∧ fi 3 = some y3 ∧ fi 4 = some y4 ∧ fi 5 = some y5 ∧ fi 6 = some y6 ∧ fi 7 = some y7) (hj : 5 < 8) (hk : k < 40) (e_1 : v_1 = fl 5) (c_2 : ¬ (v_1 = 0)) (e_3 : v_3 = fl 5) (c_4 : ¬ (v_3 = 1)) (hu_16 : g_16 = upd f5 k v) : v = (laneX (fl 5) v) := by
  unfold laneX; grind
theorem lf_X5_put_7 {fl : Nat → Int32} {y0 : Nat} {y1 : Nat} {y2 : Nat} {y3 : Nat} {y4 : Nat} {y5 : Nat} {y6 : Nat} {y7 : Nat} {f6 : Nat → Int32} {fi : Nat → Option Nat} {k : Nat} {v : Int32} {v_1 : Int32} {v_3 : Int32} {g_18 : Nat → Int32} (hfi : fi 0 = some y0 ∧ fi 1 = some y1 ∧ fi 2 = some y2 ∧ fi 3 = some y3 ∧ fi 4 = some y4 ∧ fi 5 = some y5 ∧ fi 6 = some y6 ∧ fi 7 = some y7) (hj : 6 < 8) (hk : k < 40) (e_1 : v_1 = fl 6) (c_2 : ¬ (v_1 = 0)) (e_3 : v_3 = fl 6) (c_4 : ¬ (v_3 = 1)) (hu_18 : g_18 = upd f6 k v) : v = (laneX (fl 6) v) := by
  unfold laneX; grind
theorem lf_X5_put_8 {fl : Nat → Int32} {y0 : Nat} {y1 : Nat} {y2 : Nat} {y3 : Nat} {y4 : Nat} {y5 : Nat} {y6 : Nat} {y7 : Nat} {f7 : Nat → Int32} {fi : Nat → Option Nat} {k : Nat} {v : Int32} {v_1 : Int32} {v_3 : Int32} {g_20 : Nat → Int32} (hfi : fi 0 = some y0 ∧ fi 1 = some y1 ∧ fi 2 = some y2 ∧ fi 3 = some y3 ∧ fi 4 = some y4 ∧ fi 5 = some y5 ∧ fi 6 = some y6 ∧ fi 7 = some y7) (hj : 7 < 8) (hk : k < 40) (e_1 : v_1 = fl 7) (c_2 : ¬ (v_1 = 0)) (e_3 : v_3 = fl 7) (c_4 : ¬ (v_3 = 1)) (hu_20 : g_20 = upd f7 k v) : v = (laneX (fl 7) v) := by
  unfold laneX; grind
theorem lf_X5_put_9 {fl : Nat → Int32} {y0 : Nat} {y1 : Nat} {y2 : Nat} {y3 : Nat} {y4 : Nat} {y5 : Nat} {y6 : Nat} {y7 : Nat} {f0 : Nat → Int32} {fi : Nat → Option Nat} {k : Nat} {v : Int32} {v_1 : Int32} {v_3 : Int32} {v_21 : Int32} {g_23 : Nat → Int32} (hfi : fi 0 = some y0 ∧ fi 1 = some y1 ∧ fi 2 = some y2 ∧ fi 3 = some y3 ∧ fi 4 = some y4 ∧ fi 5 = some y5 ∧ fi 6 = some y6 ∧ fi 7 = some y7) (hj : 0 < 8) (hk : k < 40) (e_1 : v_1 = fl 0) (c_2 : ¬ (v_1 = 0)) (e_3 : v_3 = fl 0) (c_4 : v_3 = 1) (e_21 : v_21 = (v).toInt16.toInt32) (hu_23 : g_23 = upd f0 k v_21) : v_21 = (laneX (fl 0) v) := by
  unfold laneX; grind
theorem lf_X5_put_10 {fl : Nat → Int32} {y0 : Nat} {y1 : Nat} {y2 : Nat} {y3 : Nat} {y4 : Nat} {y5 : Nat} {y6 : Nat} {y7 : Nat} {f1 : Nat → Int32} {fi : Nat → Option Nat} {k : Nat} {v : Int32} {v_1 : Int32} {v_3 : Int32} {v_21 : Int32} {g_25 : Nat → Int32} (hfi : fi 0 = some y0 ∧ fi 1 = some y1 ∧ fi 2 = some y2 ∧ fi 3 = some y3 ∧ fi 4 = some y4 ∧ fi 5 = some y5 ∧ fi 6 = some y6 ∧ fi 7 = some y7) (hj : 1 < 8) (hk : k < 40) (e_1 : v_1 = fl 1) (c_2 : ¬ (v_1 = 0)) (e_3 : v_3 = fl 1) (c_4 : v_3 = 1) (e_21 : v_21 = (v).toInt16.toInt32) (hu_25 : g_25 = upd f1 k v_21) : v_21 = (laneX (fl 1) v) := by
  unfold laneX; grind
theorem lf_X5_put_11 {fl : Nat → Int32} {y0 : Nat} {y1 : Nat} {y2 : Nat} {y3 : Nat} {y4 : Nat} {y5 : Nat} {y6 : Nat} {y7 : Nat} {f2 : Nat → Int32} {fi : Nat → Option Nat} {k : Nat} {v : Int32} {v_1 : Int32} {v_3 : Int32} {v_21 : Int32} {g_27 : Nat → Int32} (hfi : fi 0 = some y0 ∧ fi 1 = some y1 ∧ fi 2 = some y2 ∧ fi 3 = some y3 ∧ fi 4 = some y4 ∧ fi 5 = some y5 ∧ fi 6 = some y6 ∧ fi 7 = some y7) (hj : 2 < 8) (hk : k < 40) (e_1 : v_1 = fl 2) (c_2 : ¬ (v_1 = 0)) (e_3 : v_3 = fl 2) (c_4 : v_3 = 1) (e_21 : v_21 = (v).toInt16.toInt32) (hu_27 : g_27 = upd f2 k v_21) : v_21 = (laneX (fl 2) v) := by
  unfold laneX; grind
theorem lf_X5_put_12 {fl : Nat → Int32} {y0 : Nat} {y1 : Nat} {y2 : Nat} {y3 : Nat} {y4 : Nat} {y5 : Nat} {y6 : Nat} {y7 : Nat} {f3 : Nat → Int32} {fi : Nat → Option Nat} {k : Nat} {v : Int32} {v_1 : Int32} {v_3 : Int32} {v_21 : Int32} {g_29 : Nat → Int32} (hfi : fi 0 = some y0 ∧ fi 1 = some y1 ∧ fi 2 = some y2 ∧ fi 3 = some y3 ∧ fi 4 = some y4 ∧ fi 5 = some y5 ∧ fi 6 = some y6 ∧ fi 7 = some y7) (hj : 3 < 8) (hk : k < 40) (e_1 : v_1 = fl 3) (c_2 : ¬ (v_1 = 0)) (e_3 : v_3 = fl 3) (c_4 : v_3 = 1) (e_21 : v_21 = (v).toInt16.toInt32) (hu_29 : g_29 = upd f3 k v_21) : v_21 = (laneX (fl 3) v) := by
  unfold laneX; grind
theorem lf_X5_put_13 {fl : Nat → Int32} {y0 : Nat} {y1 : Nat} {y2 : Nat} {y3 : Nat} {y4 : Nat} {y5 : Nat} {y6 : Nat} {y7 : Nat} {f4 : Nat → Int32} {fi : Nat → Option Nat} {k : Nat} {v : Int32} {v_1 : Int32} {v_3 : Int32} {v_21 : Int32} {g_31 : Nat → Int32} (hfi : fi 0 = some y0 ∧ fi 1 = some y1 ∧ fi 2 = some y2 ∧ fi 3 = some y3 ∧ fi 4 = some y4 ∧ fi 5 = some y5 ∧ fi 6 = some y6 ∧ fi 7 = some y7) (hj : 4 < 8) (hk : k < 40) (e_1 : v_1 = fl 4) (c_2 : ¬ (v_1 = 0)) (e_3 : v_3 = fl 4) (c_4 : v_3 = 1) (e_21 : v_21 = (v).toInt16.toInt32) (hu_31 : g_31 = upd f4 k v_21) : v_21 = (laneX (fl 4) v) := by
  unfold laneX; grind
theorem lf_X5_put_14 {fl : Nat → Int32} {y0 : Nat} {y1 : Nat} {y2 : Nat} {y3 : Nat} {y4 : Nat} {y5 : Nat} {y6 : Nat} {y7 : Nat} {f5 : Nat → Int32} {fi : Nat → Option Nat} {k : Nat} {v : Int32} {v_1 : Int32} {v_3 : Int32} {v_21 : Int32} {g_33 : Nat → Int32} (hfi : fi 0 = some y0 ∧ fi 1 = some y1 ∧ fi 2 = some y2 ∧ fi 3 = some y3 ∧ fi 4 = some y4 ∧ fi 5 = some y5 ∧ fi 6 = some y6 ∧ fi 7 = some y7) (hj : 5 < 8) (hk : k < 40) (e_1 : v_1 = fl 5) (c_2 : ¬ (v_1 = 0)) (e_3 : v_3 = fl 5) (c_4 : v_3 = 1) (e_21 : v_21 = (v).toInt16.toInt32) (hu_33 : g_33 = upd f5 k v_21) : v_21 = (laneX (fl 5) v) := by
  unfold laneX; grind
theorem lf_X5_put_15 {fl : Nat → Int32} {y0 : Nat} {y1 : Nat} {y2 : Nat} {y3 : Nat} {y4 : Nat} {y5 : Nat} {y6 : Nat} {y7 : Nat} {f6 : Nat → Int32} {fi : Nat → Option Nat} {k : Nat} {v : Int32} {v_1 : Int32} {v_3 : Int32} {v_21 : Int32} {g_35 : Nat → Int32} (hfi : fi 0 = some y0 ∧ fi 1 = some y1 ∧ fi 2 = some y2 ∧ fi 3 = some y3 ∧ fi 4 = some y4 ∧ fi 5 = some y5 ∧ fi 6 = some y6 ∧ fi 7 = some y7) (hj : 6 < 8) (hk : k < 40) (e_1 : v_1 = fl 6) (c_2 : ¬ (v_1 = 0)) (e_3 : v_3 = fl 6) (c_4 : v_3 = 1) (e_21 : v_21 = (v).toInt16.toInt32) (hu_35 : g_35 = upd f6 k v_21) : v_21 = (laneX (fl 6) v) := by
  unfold laneX; grind
theorem lf_X5_put_16 {fl : Nat → Int32} {y0 : Nat} {y1 : Nat} {y2 : Nat} {y3 : Nat} {y4 : Nat} {y5 : Nat} {y6 : Nat} {y7 : Nat} {f7 : Nat → Int32} {fi : Nat → Option Nat} {k : Nat} {v : Int32} {v_1 : Int32} {v_3 : Int32} {v_21 : Int32} {g_37 : Nat → Int32} (hfi : fi 0 = some y0 ∧ fi 1 = some y1 ∧ fi 2 = some y2 ∧ fi 3 = some y3 ∧ fi 4 = some y4 ∧ fi 5 = some y5 ∧ fi 6 = some y6 ∧ fi 7 = some y7) (hj : 7 < 8) (hk : k < 40) (e_1 : v_1 = fl 7) (c_2 : ¬ (v_1 = 0)) (e_3 : v_3 = fl 7) (c_4 : v_3 = 1) (e_21 : v_21 = (v).toInt16.toInt32) (hu_37 : g_37 = upd f7 k v_21) : v_21 = (laneX (fl 7) v) := by
  unfold laneX; grind
theorem lf_X5_put_17 {fl : Nat → Int32} {y0 : Nat} {y1 : Nat} {y2 : Nat} {y3 : Nat} {y4 : Nat} {y5 : Nat} {y6 : Nat} {y7 : Nat} {f0 : Nat → Int32} {fi : Nat → Option Nat} {k : Nat} {v : Int32} {v_1 : Int32} {v_38 : Int32} {g_40 : Nat → Int32} (hfi : fi 0 = some y0 ∧ fi 1 = some y1 ∧ fi 2 = some y2 ∧ fi 3 = some y3 ∧ fi 4 = some y4 ∧ fi 5 = some y5 ∧ fi 6 = some y6 ∧ fi 7 = some y7) (hj : 0 < 8) (hk : k < 40) (e_1 : v_1 = fl 0) (c_2 : v_1 = 0) (e_38 : v_38 = (v).toInt8.toInt32) (hu_40 : g_40 = upd f0 k v_38) : v_38 = (laneX (fl 0) v) := by
  unfold laneX; grind
theorem lf_X5_put_18 {fl : Nat → Int32} {y0 : Nat} {y1 : Nat} {y2 : Nat} {y3 : Nat} {y4 : Nat} {y5 : Nat} {y6 : Nat} {y7 : Nat} {f1 : Nat → Int32} {fi : Nat → Option Nat} {k : Nat} {v : Int32} {v_1 : Int32} {v_38 : Int32} {g_42 : Nat → Int32} (hfi : fi 0 = some y0 ∧ fi 1 = some y1 ∧ fi 2 = some y2 ∧ fi 3 = some y3 ∧ fi 4 = some y4 ∧ fi 5 = some y5 ∧ fi 6 = some y6 ∧ fi 7 = some y7) (hj : 1 < 8) (hk : k < 40) (e_1 : v_1 = fl 1) (c_2 : v_1 = 0) (e_38 : v_38 = (v).toInt8.toInt32) (hu_42 : g_42 = upd f1 k v_38) : v_38 = (laneX (fl 1) v) := by
  unfold laneX; grind
theorem lf_X5_put_19 {fl : Nat → Int32} {y0 : Nat} {y1 : Nat} {y2 : Nat} {y3 : Nat} {y4 : Nat} {y5 : Nat} {y6 : Nat} {y7 : Nat} {f2 : Nat → Int32} {fi : Nat → Option Nat} {k : Nat} {v : Int32} {v_1 : Int32} {v_38 : Int32} {g_44 : Nat → Int32} (hfi : fi 0 = some y0 ∧ fi 1 = some y1 ∧ fi 2 = some y2 ∧ fi 3 = some y3 ∧ fi 4 = some y4 ∧ fi 5 = some y5 ∧ fi 6 = some y6 ∧ fi 7 = some y7) (hj : 2 < 8) (hk : k < 40) (e_1 : v_1 = fl 2) (c_2 : v_1 = 0) (e_38 : v_38 = (v).toInt8.toInt32) (hu_44 : g_44 = upd f2 k v_38) : v_38 = (laneX (fl 2) v) := by
  unfold laneX; grind
theorem lf_X5_put_20 {fl : Nat → Int32} {y0 : Nat} {y1 : Nat} {y2 : Nat} {y3 : Nat} {y4 : Nat} {y5 : Nat} {y6 : Nat} {y7 : Nat} {f3 : Nat → Int32} {fi : Nat → Option Nat} {k : Nat} {v : Int32} {v_1 : Int32} {v_38 : Int32} {g_46 : Nat → Int32} (hfi : fi 0 = some y0 ∧ fi 1 = some y1 ∧ fi 2 = some y2 ∧ fi 3 = some y3 ∧ fi 4 = some y4 ∧ fi 5 = some y5 ∧ fi 6 = some y6 ∧ fi 7 = some y7) (hj : 3 < 8) (hk : k < 40) (e_1 : v_1 = fl 3) (c_2 : v_1 = 0) (e_38 : v_38 = (v).toInt8.toInt32) (hu_46 : g_46 = upd f3 k v_38) : v_38 = (laneX (fl 3) v) := by
  unfold laneX; grind
theorem lf_X5_put_21 {fl : Nat → Int32} {y0 : Nat} {y1 : Nat} {y2 : Nat} {y3 : Nat} {y4 : Nat} {y5 : Nat} {y6 : Nat} {y7 : Nat} {f4 : Nat → Int32} {fi : Nat → Option Nat} {k : Nat} {v : Int32} {v_1 : Int32} {v_38 : Int32} {g_48 : Nat → Int32} (hfi : fi 0 = some y0 ∧ fi 1 = some y1 ∧ fi 2 = some y2 ∧ fi 3 = some y3 ∧ fi 4 = some y4 ∧ fi 5 = some y5 ∧ fi 6 = some y6 ∧ fi 7 = some y7) (hj : 4 < 8) (hk : k < 40) (e_1 : v_1 = fl 4) (c_2 : v_1 = 0) (e_38 : v_38 = (v).toInt8.toInt32) (hu_48 : g_48 = upd f4 k v_38) : v_38 = (laneX (fl 4) v) := by
  unfold laneX; grind
theorem lf_X5_put_22 {fl : Nat → Int32} {y0 : Nat} {y1 : Nat} {y2 : Nat} {y3 : Nat} {y4 : Nat} {y5 : Nat} {y6 : Nat} {y7 : Nat} {f5 : Nat → Int32} {fi : Nat → Option Nat} {k : Nat} {v : Int32} {v_1 : Int32} {v_38 : Int32} {g_50 : Nat → Int32} (hfi : fi 0 = some y0 ∧ fi 1 = some y1 ∧ fi 2 = some y2 ∧ fi 3 = some y3 ∧ fi 4 = some y4 ∧ fi 5 = some y5 ∧ fi 6 = some y6 ∧ fi 7 = some y7) (hj : 5 < 8) (hk : k < 40) (e_1 : v_1 = fl 5) (c_2 : v_1 = 0) (e_38 : v_38 = (v).toInt8.toInt32) (hu_50 : g_50 = upd f5 k v_38) : v_38 = (laneX (fl 5) v) := by
  unfold laneX; grind
theorem lf_X5_put_23 {fl : Nat → Int32} {y0 : Nat} {y1 : Nat} {y2 : Nat} {y3 : Nat} {y4 : Nat} {y5 : Nat} {y6 : Nat} {y7 : Nat} {f6 : Nat → Int32} {fi : Nat → Option Nat} {k : Nat} {v : Int32} {v_1 : Int32} {v_38 : Int32} {g_52 : Nat → Int32} (hfi : fi 0 = some y0 ∧ fi 1 = some y1 ∧ fi 2 = some y2 ∧ fi 3 = some y3 ∧ fi 4 = some y4 ∧ fi 5 = some y5 ∧ fi 6 = some y6 ∧ fi 7 = some y7) (hj : 6 < 8) (hk : k < 40) (e_1 : v_1 = fl 6) (c_2 : v_1 = 0) (e_38 : v_38 = (v).toInt8.toInt32) (hu_52 : g_52 = upd f6 k v_38) : v_38 = (laneX (fl 6) v) := by
  unfold laneX; grind
theorem lf_X5_put_24 {fl : Nat → Int32} {y0 : Nat} {y1 : Nat} {y2 : Nat} {y3 : Nat} {y4 : Nat} {y5 : Nat} {y6 : Nat} {y7 : Nat} {f7 : Nat → Int32} {fi : Nat → Option Nat} {k : Nat} {v : Int32} {v_1 : Int32} {v_38 : Int32} {g_54 : Nat → Int32} (hfi : fi 0 = some y0 ∧ fi 1 = some y1 ∧ fi 2 = some y2 ∧ fi 3 = some y3 ∧ fi 4 = some y4 ∧ fi 5 = some y5 ∧ fi 6 = some y6 ∧ fi 7 = some y7) (hj : 7 < 8) (hk : k < 40) (e_1 : v_1 = fl 7) (c_2 : v_1 = 0) (e_38 : v_38 = (v).toInt8.toInt32) (hu_54 : g_54 = upd f7 k v_38) : v_38 = (laneX (fl 7) v) := by
  unfold laneX; grind
set_option maxHeartbeats 4000000 in
set_option maxRecDepth 100000 in
theorem r_X5_put (l : Launch) (dC : Nat → ClassId) (dI : Nat → Nat → Nat) (cI cZ cL cJ : ClassId) (sz : Nat) (h : Nat) (it : Nat) (la : Nat) (le : Nat) (fl : Nat → Int32) (fe : Nat → Int32) (y0 : Nat) (y1 : Nat) (y2 : Nat) (y3 : Nat) (y4 : Nat) (y5 : Nat) (y6 : Nat) (y7 : Nat) (f0 : Nat → Int32) (f1 : Nat → Int32) (f2 : Nat → Int32) (f3 : Nat → Int32) (f4 : Nat → Int32) (f5 : Nat → Int32) (f6 : Nat → Int32) (f7 : Nat → Int32) (fi : Nat → Option Nat) (j : Nat) (k : Nat) (v : Int32) (hfi : fi 0 = some y0 ∧ fi 1 = some y1 ∧ fi 2 = some y2 ∧ fi 3 = some y3 ∧ fi 4 = some y4 ∧ fi 5 = some y5 ∧ fi 6 = some y6 ∧ fi 7 = some y7) (hj : j < 8) (hk : k < 40) : Met l yX5_put wsX5_put ({ frames := 0, cells := 0, slots := 0, locals := 0 }) (va_Pc [.ref h, .int (nI j), .int (nI k), .int v] (fun U => U.heap.size = sz ∧ va_P (dC, dI) vwCl [(xo_5_rrr h it la le), (xI la cI 8 fl), (xJ it cJ 8 fi), (xI y0 cI 40 f0), (xI y1 cI 40 f1), (xI y2 cI 40 f2), (xI y3 cI 40 f3), (xI y4 cI 40 f4), (xI y5 cI 40 f5), (xI y6 cI 40 f6), (xI y7 cI 40 f7)] U.heap ∧ va_K (dC, dI) vwCl [(cI, .int), (cZ, .boolean), (cL, .object RX3), (cJ, .array .int)] U ∧ va_D (fun _ => True) [(xo_5_rrr h it la le), (xI la cI 8 fl), (xJ it cJ 8 fi), (xI y0 cI 40 f0), (xI y1 cI 40 f1), (xI y2 cI 40 f2), (xI y3 cI 40 f3), (xI y4 cI 40 f4), (xI y5 cI 40 f5), (xI y6 cI 40 f6), (xI y7 cI 40 f7)])) (va_Qi (fun r (_ : Unit) => r = (laneX (fl j) v)) (fun (_ : Unit) t => ∃ (f0n : Nat → Int32) (f1n : Nat → Int32) (f2n : Nat → Int32) (f3n : Nat → Int32) (f4n : Nat → Int32) (f5n : Nat → Int32) (f6n : Nat → Int32) (f7n : Nat → Int32), va_P (dC, dI) vwCl [(xo_5_rrr h it la le), (xI la cI 8 fl), (xJ it cJ 8 fi), (xI y0 cI 40 f0n), (xI y1 cI 40 f1n), (xI y2 cI 40 f2n), (xI y3 cI 40 f3n), (xI y4 cI 40 f4n), (xI y5 cI 40 f5n), (xI y6 cI 40 f6n), (xI y7 cI 40 f7n)] t.heap ∧ va_D (va_A [(xo_5_rrr h it la le), (xI la cI 8 fl), (xJ it cJ 8 fi), (xI y0 cI 40 f0), (xI y1 cI 40 f1), (xI y2 cI 40 f2), (xI y3 cI 40 f3), (xI y4 cI 40 f4), (xI y5 cI 40 f5), (xI y6 cI 40 f6), (xI y7 cI 40 f7)] sz) [(xo_5_rrr h it la le), (xI la cI 8 fl), (xJ it cJ 8 fi), (xI y0 cI 40 f0n), (xI y1 cI 40 f1n), (xI y2 cI 40 f2n), (xI y3 cI 40 f3n), (xI y4 cI 40 f4n), (xI y5 cI 40 f5n), (xI y6 cI 40 f6n), (xI y7 cI 40 f7n)]) (va_A [(xo_5_rrr h it la le), (xI la cI 8 fl), (xJ it cJ 8 fi), (xI y0 cI 40 f0), (xI y1 cI 40 f1), (xI y2 cI 40 f2), (xI y3 cI 40 f3), (xI y4 cI 40 f4), (xI y5 cI 40 f5), (xI y6 cI 40 f6), (xI y7 cI 40 f7)] sz)) 0 0 (va_A [(xo_5_rrr h it la le), (xI la cI 8 fl), (xJ it cJ 8 fi), (xI y0 cI 40 f0), (xI y1 cI 40 f1), (xI y2 cI 40 f2), (xI y3 cI 40 f3), (xI y4 cI 40 f4), (xI y5 cI 40 f5), (xI y6 cI 40 f6), (xI y7 cI 40 f7)] sz) := by
  refine Met.ofW (cc := cX5_put) (maxL := 5) (ret := (some .int)) (by decide) rfl ?_
  intro p e s m args below meth c s₁ B hml hv
  obtain ⟨rfl, hsz, hP, hK, hD0⟩ := hv
  have hx := B.exec
  have hb := B.bytes
  have hr := B.returns
  have hts := atoms_spec (ws := wsX5_put) B.pre
  have hown : s.vm.findClass RX5 = some m.cls := findClass_of_methodNamed B.named
  have hlocks := B.notSynchronized
  subst hsz
  have hD := hD0.self (sz := s.heap.size)
  generalize hAe : va_A [(xo_5_rrr h it la le), (xI la cI 8 fl), (xJ it cJ 8 fi), (xI y0 cI 40 f0), (xI y1 cI 40 f1), (xI y2 cI 40 f2), (xI y3 cI 40 f3), (xI y4 cI 40 f4), (xI y5 cI 40 f5), (xI y6 cI 40 f6), (xI y7 cI 40 f7)] s.heap.size = A at hD ⊢
  have hA : ∀ q : Nat, s.heap.size ≤ q → A q := fun q h => by rw [← hAe]; exact Or.inr h
  have hS : va_S A s.heap s.heap [] := va_S.rf
  have hP : va_P (dC, dI) vwCl [(xo_5_rrr h it la le), (xI la cI 8 fl), (xJ it cJ 8 fi), (xI y0 cI 40 f0), (xI y1 cI 40 f1), (xI y2 cI 40 f2), (xI y3 cI 40 f3), (xI y4 cI 40 f4), (xI y5 cI 40 f5), (xI y6 cI 40 f6), (xI y7 cI 40 f7)] s.heap := hP
  have hl := lv_entry ([.ref h, .int (nI j), .int (nI k), .int v]) (n := 5) (Nat.le_of_ble_eq_true rfl)
  rw [lg_entry_eq]
  generalize (lg_sl ([.ref h, .int (nI j), .int (nI k), .int v]) ++ List.replicate (5 - (lg_sl ([.ref h, .int (nI j), .int (nI k), .int v])).length) Slot.unset).toArray = ls at hl ⊢
  have hl : lv_has ls 5 [(0, .ref h), (1, .int (nI j)), (2, .int (nI k)), (3, .int v)] := hl
  refine lv_iload_n hx hb dX5_put_0 rfl (lv_at hl 3 rfl) ?_
  refine lv_istore (lv' := [(4, .int v), (0, .ref h), (1, .int (nI j)), (2, .int (nI k)), (3, .int v)]) hx hb dX5_put_1 hl (by decide) rfl (fun ls hl => ?_)
  refine lv_aload_n hx hb dX5_put_3 rfl (lv_at hl 1 rfl) ?_
  refine va_get (D := (dC, dI)) (ci := 5) (v := .ref la) (C := RX5) (T := TX5) (N := 3) hx hb hts i_X5_put_X5 hown hK hP 0 rfl rfl 1 (by decide) (hts _ mx_X5_put_1) (fun _ h9 => h9) rfl dX5_put_4 ?_
  refine lv_iload_n hx hb dX5_put_7 rfl (lv_at hl 2 rfl) ?_
  refine va_iald hx hb hK hP 1 0 rfl rfl (vp_in_nI (by omega) (by omega)) dX5_put_8 ?_
  refine lv_topi (fun v_1 e_1 => ?_)
  have e_1 : v_1 = fl j := e_1.trans (congrArg fl (nI_clamp (by omega)))
  refine lv_if_ne (tgt := 19) hx hb dX5_put_9 (by decide) (fun c_2 => ?_) (fun c_2 => ?_)
  · skip
    refine lv_aload_n hx hb dX5_put_19 rfl (lv_at hl 1 rfl) ?_
    refine va_get (D := (dC, dI)) (ci := 5) (v := .ref la) (C := RX5) (T := TX5) (N := 3) hx hb hts i_X5_put_X5 hown hK hP 0 rfl rfl 1 (by decide) (hts _ mx_X5_put_1) (fun _ h9 => h9) rfl dX5_put_20 ?_
    refine lv_iload_n hx hb dX5_put_23 rfl (lv_at hl 2 rfl) ?_
    refine va_iald hx hb hK hP 1 0 rfl rfl (vp_in_nI (by omega) (by omega)) dX5_put_24 ?_
    refine lv_topi (fun v_3 e_3 => ?_)
    have e_3 : v_3 = fl j := e_3.trans (congrArg fl (nI_clamp (by omega)))
    refine lv_iconst (v := 1) hx hb dX5_put_25 (by decide) ?_
    refine lv_icmp_ne (tgt := 33) hx hb dX5_put_26 (by decide) (fun c_4 => ?_) (fun c_4 => ?_)
    · skip
      rcases (show j = 0 ∨ j = 1 ∨ j = 2 ∨ j = 3 ∨ j = 4 ∨ j = 5 ∨ j = 6 ∨ j = 7 by omega) with rfl | rfl | rfl | rfl | rfl | rfl | rfl | rfl
      · skip
        have hl : lv_has ls 5 [(4, .int v), (0, .ref h), (1, .int 0), (2, .int (nI k)), (3, .int v)] := hl
        refine lv_aload_n hx hb dX5_put_33 rfl (lv_at hl 1 rfl) ?_
        refine va_get (D := (dC, dI)) (ci := 5) (v := .ref it) (C := RX5) (T := TX5) (N := 3) hx hb hts i_X5_put_X5 hown hK hP 0 rfl rfl 0 (by decide) (hts _ mx_X5_put_2) (fun _ h9 => h9) rfl dX5_put_34 ?_
        refine lv_iload_n hx hb dX5_put_37 rfl (lv_at hl 2 rfl) ?_
        refine nw_alk hx hb hK hP 2 3 rfl rfl 0 rfl (Nat.le_of_ble_eq_true rfl) (Nat.le_of_ble_eq_true rfl) hfi.1 dX5_put_38 ?_
        refine lv_iload_n hx hb dX5_put_39 rfl (lv_at hl 3 rfl) ?_
        refine lv_iload hx hb dX5_put_40 (lv_at hl 0 rfl) ?_
        refine va_iast hx hb hK hP hD hS 3 0 rfl rfl (vp_in_nI (by omega) (by omega)) dX5_put_42 (fun H locs hP hD hS => ?_)
        generalize hg_6 : upd f0 ((nI k) : Int32).toNatClampNeg v = g_6 at hP hD
        have hu_6 : g_6 = upd f0 k v := (by rw [← hg_6, nI_clamp (by omega)])
        have hP : va_P (dC, dI) vwCl [(xo_5_rrr h it la le), (xI la cI 8 fl), (xJ it cJ 8 fi), (xI y0 cI 40 g_6), (xI y1 cI 40 f1), (xI y2 cI 40 f2), (xI y3 cI 40 f3), (xI y4 cI 40 f4), (xI y5 cI 40 f5), (xI y6 cI 40 f6), (xI y7 cI 40 f7)] H := hP
        have hD := dto hP hD
        refine lv_iload hx hb dX5_put_43 (lv_at hl 0 rfl) ?_
        have hX9 := cut2 (wc := [(xo_5_rrr h it la le), (xI la cI 8 fl), (xJ it cJ 8 fi), (xI y0 cI 40 g_6), (xI y1 cI 40 f1), (xI y2 cI 40 f2), (xI y3 cI 40 f3), (xI y4 cI 40 f4), (xI y5 cI 40 f5), (xI y6 cI 40 f6), (xI y7 cI 40 f7)]) hP hD [0, 1, 2, 3, 4, 5, 6, 7, 8, 9, 10] (by decide +kernel) rfl
        exact W.iret (v := v) hx hb hr (fun t ht hW => ⟨⟨v, (), rfl, (lf_X5_put_1 hfi hj hk e_1 c_2 e_3 c_4 hu_6), ⟨g_6, f1, f2, f3, f4, f5, f6, f7, va_Ht ht hX9.1, hX9.2⟩⟩, hS.F ht⟩) hS.2.2 dX5_put_45
      · skip
        have hl : lv_has ls 5 [(4, .int v), (0, .ref h), (1, .int 1), (2, .int (nI k)), (3, .int v)] := hl
        refine lv_aload_n hx hb dX5_put_33 rfl (lv_at hl 1 rfl) ?_
        refine va_get (D := (dC, dI)) (ci := 5) (v := .ref it) (C := RX5) (T := TX5) (N := 3) hx hb hts i_X5_put_X5 hown hK hP 0 rfl rfl 0 (by decide) (hts _ mx_X5_put_2) (fun _ h9 => h9) rfl dX5_put_34 ?_
        refine lv_iload_n hx hb dX5_put_37 rfl (lv_at hl 2 rfl) ?_
        refine nw_alk hx hb hK hP 2 3 rfl rfl 1 rfl (Nat.le_of_ble_eq_true rfl) (Nat.le_of_ble_eq_true rfl) hfi.2.1 dX5_put_38 ?_
        refine lv_iload_n hx hb dX5_put_39 rfl (lv_at hl 3 rfl) ?_
        refine lv_iload hx hb dX5_put_40 (lv_at hl 0 rfl) ?_
        refine va_iast hx hb hK hP hD hS 4 0 rfl rfl (vp_in_nI (by omega) (by omega)) dX5_put_42 (fun H locs hP hD hS => ?_)
        generalize hg_8 : upd f1 ((nI k) : Int32).toNatClampNeg v = g_8 at hP hD
        have hu_8 : g_8 = upd f1 k v := (by rw [← hg_8, nI_clamp (by omega)])
        have hP : va_P (dC, dI) vwCl [(xo_5_rrr h it la le), (xI la cI 8 fl), (xJ it cJ 8 fi), (xI y0 cI 40 f0), (xI y1 cI 40 g_8), (xI y2 cI 40 f2), (xI y3 cI 40 f3), (xI y4 cI 40 f4), (xI y5 cI 40 f5), (xI y6 cI 40 f6), (xI y7 cI 40 f7)] H := hP
        have hD := dto hP hD
        refine lv_iload hx hb dX5_put_43 (lv_at hl 0 rfl) ?_
        have hX9 := cut2 (wc := [(xo_5_rrr h it la le), (xI la cI 8 fl), (xJ it cJ 8 fi), (xI y0 cI 40 f0), (xI y1 cI 40 g_8), (xI y2 cI 40 f2), (xI y3 cI 40 f3), (xI y4 cI 40 f4), (xI y5 cI 40 f5), (xI y6 cI 40 f6), (xI y7 cI 40 f7)]) hP hD [0, 1, 2, 3, 4, 5, 6, 7, 8, 9, 10] (by decide +kernel) rfl
        exact W.iret (v := v) hx hb hr (fun t ht hW => ⟨⟨v, (), rfl, (lf_X5_put_2 hfi hj hk e_1 c_2 e_3 c_4 hu_8), ⟨f0, g_8, f2, f3, f4, f5, f6, f7, va_Ht ht hX9.1, hX9.2⟩⟩, hS.F ht⟩) hS.2.2 dX5_put_45
      · skip
        have hl : lv_has ls 5 [(4, .int v), (0, .ref h), (1, .int 2), (2, .int (nI k)), (3, .int v)] := hl
        refine lv_aload_n hx hb dX5_put_33 rfl (lv_at hl 1 rfl) ?_
        refine va_get (D := (dC, dI)) (ci := 5) (v := .ref it) (C := RX5) (T := TX5) (N := 3) hx hb hts i_X5_put_X5 hown hK hP 0 rfl rfl 0 (by decide) (hts _ mx_X5_put_2) (fun _ h9 => h9) rfl dX5_put_34 ?_
        refine lv_iload_n hx hb dX5_put_37 rfl (lv_at hl 2 rfl) ?_
        refine nw_alk hx hb hK hP 2 3 rfl rfl 2 rfl (Nat.le_of_ble_eq_true rfl) (Nat.le_of_ble_eq_true rfl) hfi.2.2.1 dX5_put_38 ?_
        refine lv_iload_n hx hb dX5_put_39 rfl (lv_at hl 3 rfl) ?_
        refine lv_iload hx hb dX5_put_40 (lv_at hl 0 rfl) ?_
        refine va_iast hx hb hK hP hD hS 5 0 rfl rfl (vp_in_nI (by omega) (by omega)) dX5_put_42 (fun H locs hP hD hS => ?_)
        generalize hg_10 : upd f2 ((nI k) : Int32).toNatClampNeg v = g_10 at hP hD
        have hu_10 : g_10 = upd f2 k v := (by rw [← hg_10, nI_clamp (by omega)])
        have hP : va_P (dC, dI) vwCl [(xo_5_rrr h it la le), (xI la cI 8 fl), (xJ it cJ 8 fi), (xI y0 cI 40 f0), (xI y1 cI 40 f1), (xI y2 cI 40 g_10), (xI y3 cI 40 f3), (xI y4 cI 40 f4), (xI y5 cI 40 f5), (xI y6 cI 40 f6), (xI y7 cI 40 f7)] H := hP
        have hD := dto hP hD
        refine lv_iload hx hb dX5_put_43 (lv_at hl 0 rfl) ?_
        have hX9 := cut2 (wc := [(xo_5_rrr h it la le), (xI la cI 8 fl), (xJ it cJ 8 fi), (xI y0 cI 40 f0), (xI y1 cI 40 f1), (xI y2 cI 40 g_10), (xI y3 cI 40 f3), (xI y4 cI 40 f4), (xI y5 cI 40 f5), (xI y6 cI 40 f6), (xI y7 cI 40 f7)]) hP hD [0, 1, 2, 3, 4, 5, 6, 7, 8, 9, 10] (by decide +kernel) rfl
        exact W.iret (v := v) hx hb hr (fun t ht hW => ⟨⟨v, (), rfl, (lf_X5_put_3 hfi hj hk e_1 c_2 e_3 c_4 hu_10), ⟨f0, f1, g_10, f3, f4, f5, f6, f7, va_Ht ht hX9.1, hX9.2⟩⟩, hS.F ht⟩) hS.2.2 dX5_put_45
      · skip
        have hl : lv_has ls 5 [(4, .int v), (0, .ref h), (1, .int 3), (2, .int (nI k)), (3, .int v)] := hl
        refine lv_aload_n hx hb dX5_put_33 rfl (lv_at hl 1 rfl) ?_
        refine va_get (D := (dC, dI)) (ci := 5) (v := .ref it) (C := RX5) (T := TX5) (N := 3) hx hb hts i_X5_put_X5 hown hK hP 0 rfl rfl 0 (by decide) (hts _ mx_X5_put_2) (fun _ h9 => h9) rfl dX5_put_34 ?_
        refine lv_iload_n hx hb dX5_put_37 rfl (lv_at hl 2 rfl) ?_
        refine nw_alk hx hb hK hP 2 3 rfl rfl 3 rfl (Nat.le_of_ble_eq_true rfl) (Nat.le_of_ble_eq_true rfl) hfi.2.2.2.1 dX5_put_38 ?_
        refine lv_iload_n hx hb dX5_put_39 rfl (lv_at hl 3 rfl) ?_
        refine lv_iload hx hb dX5_put_40 (lv_at hl 0 rfl) ?_
        refine va_iast hx hb hK hP hD hS 6 0 rfl rfl (vp_in_nI (by omega) (by omega)) dX5_put_42 (fun H locs hP hD hS => ?_)
        generalize hg_12 : upd f3 ((nI k) : Int32).toNatClampNeg v = g_12 at hP hD
        have hu_12 : g_12 = upd f3 k v := (by rw [← hg_12, nI_clamp (by omega)])
        have hP : va_P (dC, dI) vwCl [(xo_5_rrr h it la le), (xI la cI 8 fl), (xJ it cJ 8 fi), (xI y0 cI 40 f0), (xI y1 cI 40 f1), (xI y2 cI 40 f2), (xI y3 cI 40 g_12), (xI y4 cI 40 f4), (xI y5 cI 40 f5), (xI y6 cI 40 f6), (xI y7 cI 40 f7)] H := hP
        have hD := dto hP hD
        refine lv_iload hx hb dX5_put_43 (lv_at hl 0 rfl) ?_
        have hX9 := cut2 (wc := [(xo_5_rrr h it la le), (xI la cI 8 fl), (xJ it cJ 8 fi), (xI y0 cI 40 f0), (xI y1 cI 40 f1), (xI y2 cI 40 f2), (xI y3 cI 40 g_12), (xI y4 cI 40 f4), (xI y5 cI 40 f5), (xI y6 cI 40 f6), (xI y7 cI 40 f7)]) hP hD [0, 1, 2, 3, 4, 5, 6, 7, 8, 9, 10] (by decide +kernel) rfl
        exact W.iret (v := v) hx hb hr (fun t ht hW => ⟨⟨v, (), rfl, (lf_X5_put_4 hfi hj hk e_1 c_2 e_3 c_4 hu_12), ⟨f0, f1, f2, g_12, f4, f5, f6, f7, va_Ht ht hX9.1, hX9.2⟩⟩, hS.F ht⟩) hS.2.2 dX5_put_45
      · skip
        have hl : lv_has ls 5 [(4, .int v), (0, .ref h), (1, .int 4), (2, .int (nI k)), (3, .int v)] := hl
        refine lv_aload_n hx hb dX5_put_33 rfl (lv_at hl 1 rfl) ?_
        refine va_get (D := (dC, dI)) (ci := 5) (v := .ref it) (C := RX5) (T := TX5) (N := 3) hx hb hts i_X5_put_X5 hown hK hP 0 rfl rfl 0 (by decide) (hts _ mx_X5_put_2) (fun _ h9 => h9) rfl dX5_put_34 ?_
        refine lv_iload_n hx hb dX5_put_37 rfl (lv_at hl 2 rfl) ?_
        refine nw_alk hx hb hK hP 2 3 rfl rfl 4 rfl (Nat.le_of_ble_eq_true rfl) (Nat.le_of_ble_eq_true rfl) hfi.2.2.2.2.1 dX5_put_38 ?_
        refine lv_iload_n hx hb dX5_put_39 rfl (lv_at hl 3 rfl) ?_
        refine lv_iload hx hb dX5_put_40 (lv_at hl 0 rfl) ?_
        refine va_iast hx hb hK hP hD hS 7 0 rfl rfl (vp_in_nI (by omega) (by omega)) dX5_put_42 (fun H locs hP hD hS => ?_)
        generalize hg_14 : upd f4 ((nI k) : Int32).toNatClampNeg v = g_14 at hP hD
        have hu_14 : g_14 = upd f4 k v := (by rw [← hg_14, nI_clamp (by omega)])
        have hP : va_P (dC, dI) vwCl [(xo_5_rrr h it la le), (xI la cI 8 fl), (xJ it cJ 8 fi), (xI y0 cI 40 f0), (xI y1 cI 40 f1), (xI y2 cI 40 f2), (xI y3 cI 40 f3), (xI y4 cI 40 g_14), (xI y5 cI 40 f5), (xI y6 cI 40 f6), (xI y7 cI 40 f7)] H := hP
        have hD := dto hP hD
        refine lv_iload hx hb dX5_put_43 (lv_at hl 0 rfl) ?_
        have hX9 := cut2 (wc := [(xo_5_rrr h it la le), (xI la cI 8 fl), (xJ it cJ 8 fi), (xI y0 cI 40 f0), (xI y1 cI 40 f1), (xI y2 cI 40 f2), (xI y3 cI 40 f3), (xI y4 cI 40 g_14), (xI y5 cI 40 f5), (xI y6 cI 40 f6), (xI y7 cI 40 f7)]) hP hD [0, 1, 2, 3, 4, 5, 6, 7, 8, 9, 10] (by decide +kernel) rfl
        exact W.iret (v := v) hx hb hr (fun t ht hW => ⟨⟨v, (), rfl, (lf_X5_put_5 hfi hj hk e_1 c_2 e_3 c_4 hu_14), ⟨f0, f1, f2, f3, g_14, f5, f6, f7, va_Ht ht hX9.1, hX9.2⟩⟩, hS.F ht⟩) hS.2.2 dX5_put_45
      · skip
        have hl : lv_has ls 5 [(4, .int v), (0, .ref h), (1, .int 5), (2, .int (nI k)), (3, .int v)] := hl
        refine lv_aload_n hx hb dX5_put_33 rfl (lv_at hl 1 rfl) ?_
        refine va_get (D := (dC, dI)) (ci := 5) (v := .ref it) (C := RX5) (T := TX5) (N := 3) hx hb hts i_X5_put_X5 hown hK hP 0 rfl rfl 0 (by decide) (hts _ mx_X5_put_2) (fun _ h9 => h9) rfl dX5_put_34 ?_
        refine lv_iload_n hx hb dX5_put_37 rfl (lv_at hl 2 rfl) ?_
        refine nw_alk hx hb hK hP 2 3 rfl rfl 5 rfl (Nat.le_of_ble_eq_true rfl) (Nat.le_of_ble_eq_true rfl) hfi.2.2.2.2.2.1 dX5_put_38 ?_
        refine lv_iload_n hx hb dX5_put_39 rfl (lv_at hl 3 rfl) ?_
        refine lv_iload hx hb dX5_put_40 (lv_at hl 0 rfl) ?_
        refine va_iast hx hb hK hP hD hS 8 0 rfl rfl (vp_in_nI (by omega) (by omega)) dX5_put_42 (fun H locs hP hD hS => ?_)
        generalize hg_16 : upd f5 ((nI k) : Int32).toNatClampNeg v = g_16 at hP hD
        have hu_16 : g_16 = upd f5 k v := (by rw [← hg_16, nI_clamp (by omega)])
        have hP : va_P (dC, dI) vwCl [(xo_5_rrr h it la le), (xI la cI 8 fl), (xJ it cJ 8 fi), (xI y0 cI 40 f0), (xI y1 cI 40 f1), (xI y2 cI 40 f2), (xI y3 cI 40 f3), (xI y4 cI 40 f4), (xI y5 cI 40 g_16), (xI y6 cI 40 f6), (xI y7 cI 40 f7)] H := hP
        have hD := dto hP hD
        refine lv_iload hx hb dX5_put_43 (lv_at hl 0 rfl) ?_
        have hX9 := cut2 (wc := [(xo_5_rrr h it la le), (xI la cI 8 fl), (xJ it cJ 8 fi), (xI y0 cI 40 f0), (xI y1 cI 40 f1), (xI y2 cI 40 f2), (xI y3 cI 40 f3), (xI y4 cI 40 f4), (xI y5 cI 40 g_16), (xI y6 cI 40 f6), (xI y7 cI 40 f7)]) hP hD [0, 1, 2, 3, 4, 5, 6, 7, 8, 9, 10] (by decide +kernel) rfl
        exact W.iret (v := v) hx hb hr (fun t ht hW => ⟨⟨v, (), rfl, (lf_X5_put_6 hfi hj hk e_1 c_2 e_3 c_4 hu_16), ⟨f0, f1, f2, f3, f4, g_16, f6, f7, va_Ht ht hX9.1, hX9.2⟩⟩, hS.F ht⟩) hS.2.2 dX5_put_45
      · skip
        have hl : lv_has ls 5 [(4, .int v), (0, .ref h), (1, .int 6), (2, .int (nI k)), (3, .int v)] := hl
        refine lv_aload_n hx hb dX5_put_33 rfl (lv_at hl 1 rfl) ?_
        refine va_get (D := (dC, dI)) (ci := 5) (v := .ref it) (C := RX5) (T := TX5) (N := 3) hx hb hts i_X5_put_X5 hown hK hP 0 rfl rfl 0 (by decide) (hts _ mx_X5_put_2) (fun _ h9 => h9) rfl dX5_put_34 ?_
        refine lv_iload_n hx hb dX5_put_37 rfl (lv_at hl 2 rfl) ?_
        refine nw_alk hx hb hK hP 2 3 rfl rfl 6 rfl (Nat.le_of_ble_eq_true rfl) (Nat.le_of_ble_eq_true rfl) hfi.2.2.2.2.2.2.1 dX5_put_38 ?_
        refine lv_iload_n hx hb dX5_put_39 rfl (lv_at hl 3 rfl) ?_
        refine lv_iload hx hb dX5_put_40 (lv_at hl 0 rfl) ?_
        refine va_iast hx hb hK hP hD hS 9 0 rfl rfl (vp_in_nI (by omega) (by omega)) dX5_put_42 (fun H locs hP hD hS => ?_)
        generalize hg_18 : upd f6 ((nI k) : Int32).toNatClampNeg v = g_18 at hP hD
        have hu_18 : g_18 = upd f6 k v := (by rw [← hg_18, nI_clamp (by omega)])
        have hP : va_P (dC, dI) vwCl [(xo_5_rrr h it la le), (xI la cI 8 fl), (xJ it cJ 8 fi), (xI y0 cI 40 f0), (xI y1 cI 40 f1), (xI y2 cI 40 f2), (xI y3 cI 40 f3), (xI y4 cI 40 f4), (xI y5 cI 40 f5), (xI y6 cI 40 g_18), (xI y7 cI 40 f7)] H := hP
        have hD := dto hP hD
        refine lv_iload hx hb dX5_put_43 (lv_at hl 0 rfl) ?_
        have hX9 := cut2 (wc := [(xo_5_rrr h it la le), (xI la cI 8 fl), (xJ it cJ 8 fi), (xI y0 cI 40 f0), (xI y1 cI 40 f1), (xI y2 cI 40 f2), (xI y3 cI 40 f3), (xI y4 cI 40 f4), (xI y5 cI 40 f5), (xI y6 cI 40 g_18), (xI y7 cI 40 f7)]) hP hD [0, 1, 2, 3, 4, 5, 6, 7, 8, 9, 10] (by decide +kernel) rfl
        exact W.iret (v := v) hx hb hr (fun t ht hW => ⟨⟨v, (), rfl, (lf_X5_put_7 hfi hj hk e_1 c_2 e_3 c_4 hu_18), ⟨f0, f1, f2, f3, f4, f5, g_18, f7, va_Ht ht hX9.1, hX9.2⟩⟩, hS.F ht⟩) hS.2.2 dX5_put_45
      · skip
        have hl : lv_has ls 5 [(4, .int v), (0, .ref h), (1, .int 7), (2, .int (nI k)), (3, .int v)] := hl
        refine lv_aload_n hx hb dX5_put_33 rfl (lv_at hl 1 rfl) ?_
        refine va_get (D := (dC, dI)) (ci := 5) (v := .ref it) (C := RX5) (T := TX5) (N := 3) hx hb hts i_X5_put_X5 hown hK hP 0 rfl rfl 0 (by decide) (hts _ mx_X5_put_2) (fun _ h9 => h9) rfl dX5_put_34 ?_
        refine lv_iload_n hx hb dX5_put_37 rfl (lv_at hl 2 rfl) ?_
        refine nw_alk hx hb hK hP 2 3 rfl rfl 7 rfl (Nat.le_of_ble_eq_true rfl) (Nat.le_of_ble_eq_true rfl) hfi.2.2.2.2.2.2.2 dX5_put_38 ?_
        refine lv_iload_n hx hb dX5_put_39 rfl (lv_at hl 3 rfl) ?_
        refine lv_iload hx hb dX5_put_40 (lv_at hl 0 rfl) ?_
        refine va_iast hx hb hK hP hD hS 10 0 rfl rfl (vp_in_nI (by omega) (by omega)) dX5_put_42 (fun H locs hP hD hS => ?_)
        generalize hg_20 : upd f7 ((nI k) : Int32).toNatClampNeg v = g_20 at hP hD
        have hu_20 : g_20 = upd f7 k v := (by rw [← hg_20, nI_clamp (by omega)])
        have hP : va_P (dC, dI) vwCl [(xo_5_rrr h it la le), (xI la cI 8 fl), (xJ it cJ 8 fi), (xI y0 cI 40 f0), (xI y1 cI 40 f1), (xI y2 cI 40 f2), (xI y3 cI 40 f3), (xI y4 cI 40 f4), (xI y5 cI 40 f5), (xI y6 cI 40 f6), (xI y7 cI 40 g_20)] H := hP
        have hD := dto hP hD
        refine lv_iload hx hb dX5_put_43 (lv_at hl 0 rfl) ?_
        have hX9 := cut2 (wc := [(xo_5_rrr h it la le), (xI la cI 8 fl), (xJ it cJ 8 fi), (xI y0 cI 40 f0), (xI y1 cI 40 f1), (xI y2 cI 40 f2), (xI y3 cI 40 f3), (xI y4 cI 40 f4), (xI y5 cI 40 f5), (xI y6 cI 40 f6), (xI y7 cI 40 g_20)]) hP hD [0, 1, 2, 3, 4, 5, 6, 7, 8, 9, 10] (by decide +kernel) rfl
        exact W.iret (v := v) hx hb hr (fun t ht hW => ⟨⟨v, (), rfl, (lf_X5_put_8 hfi hj hk e_1 c_2 e_3 c_4 hu_20), ⟨f0, f1, f2, f3, f4, f5, f6, g_20, va_Ht ht hX9.1, hX9.2⟩⟩, hS.F ht⟩) hS.2.2 dX5_put_45
    · skip
      refine lv_iload_n hx hb dX5_put_29 rfl (lv_at hl 4 rfl) ?_
      refine lv_i2s hx hb dX5_put_30 rfl ?_
      refine lv_topi (fun v_21 e_21 => ?_)
      refine lv_istore (lv' := [(4, .int v_21), (0, .ref h), (1, .int (nI j)), (2, .int (nI k)), (3, .int v)]) hx hb dX5_put_31 hl (by decide) rfl (fun ls hl => ?_)
      rcases (show j = 0 ∨ j = 1 ∨ j = 2 ∨ j = 3 ∨ j = 4 ∨ j = 5 ∨ j = 6 ∨ j = 7 by omega) with rfl | rfl | rfl | rfl | rfl | rfl | rfl | rfl
      · skip
        have hl : lv_has ls 5 [(4, .int v_21), (0, .ref h), (1, .int 0), (2, .int (nI k)), (3, .int v)] := hl
        refine lv_aload_n hx hb dX5_put_33 rfl (lv_at hl 1 rfl) ?_
        refine va_get (D := (dC, dI)) (ci := 5) (v := .ref it) (C := RX5) (T := TX5) (N := 3) hx hb hts i_X5_put_X5 hown hK hP 0 rfl rfl 0 (by decide) (hts _ mx_X5_put_2) (fun _ h9 => h9) rfl dX5_put_34 ?_
        refine lv_iload_n hx hb dX5_put_37 rfl (lv_at hl 2 rfl) ?_
        refine nw_alk hx hb hK hP 2 3 rfl rfl 0 rfl (Nat.le_of_ble_eq_true rfl) (Nat.le_of_ble_eq_true rfl) hfi.1 dX5_put_38 ?_
        refine lv_iload_n hx hb dX5_put_39 rfl (lv_at hl 3 rfl) ?_
        refine lv_iload hx hb dX5_put_40 (lv_at hl 0 rfl) ?_
        refine va_iast hx hb hK hP hD hS 3 0 rfl rfl (vp_in_nI (by omega) (by omega)) dX5_put_42 (fun H locs hP hD hS => ?_)
        generalize hg_23 : upd f0 ((nI k) : Int32).toNatClampNeg v_21 = g_23 at hP hD
        have hu_23 : g_23 = upd f0 k v_21 := (by rw [← hg_23, nI_clamp (by omega)])
        have hP : va_P (dC, dI) vwCl [(xo_5_rrr h it la le), (xI la cI 8 fl), (xJ it cJ 8 fi), (xI y0 cI 40 g_23), (xI y1 cI 40 f1), (xI y2 cI 40 f2), (xI y3 cI 40 f3), (xI y4 cI 40 f4), (xI y5 cI 40 f5), (xI y6 cI 40 f6), (xI y7 cI 40 f7)] H := hP
        have hD := dto hP hD
        refine lv_iload hx hb dX5_put_43 (lv_at hl 0 rfl) ?_
        have hX9 := cut2 (wc := [(xo_5_rrr h it la le), (xI la cI 8 fl), (xJ it cJ 8 fi), (xI y0 cI 40 g_23), (xI y1 cI 40 f1), (xI y2 cI 40 f2), (xI y3 cI 40 f3), (xI y4 cI 40 f4), (xI y5 cI 40 f5), (xI y6 cI 40 f6), (xI y7 cI 40 f7)]) hP hD [0, 1, 2, 3, 4, 5, 6, 7, 8, 9, 10] (by decide +kernel) rfl
        exact W.iret (v := v_21) hx hb hr (fun t ht hW => ⟨⟨v_21, (), rfl, (lf_X5_put_9 hfi hj hk e_1 c_2 e_3 c_4 e_21 hu_23), ⟨g_23, f1, f2, f3, f4, f5, f6, f7, va_Ht ht hX9.1, hX9.2⟩⟩, hS.F ht⟩) hS.2.2 dX5_put_45
      · skip
        have hl : lv_has ls 5 [(4, .int v_21), (0, .ref h), (1, .int 1), (2, .int (nI k)), (3, .int v)] := hl
        refine lv_aload_n hx hb dX5_put_33 rfl (lv_at hl 1 rfl) ?_
        refine va_get (D := (dC, dI)) (ci := 5) (v := .ref it) (C := RX5) (T := TX5) (N := 3) hx hb hts i_X5_put_X5 hown hK hP 0 rfl rfl 0 (by decide) (hts _ mx_X5_put_2) (fun _ h9 => h9) rfl dX5_put_34 ?_
        refine lv_iload_n hx hb dX5_put_37 rfl (lv_at hl 2 rfl) ?_
        refine nw_alk hx hb hK hP 2 3 rfl rfl 1 rfl (Nat.le_of_ble_eq_true rfl) (Nat.le_of_ble_eq_true rfl) hfi.2.1 dX5_put_38 ?_
        refine lv_iload_n hx hb dX5_put_39 rfl (lv_at hl 3 rfl) ?_
        refine lv_iload hx hb dX5_put_40 (lv_at hl 0 rfl) ?_
        refine va_iast hx hb hK hP hD hS 4 0 rfl rfl (vp_in_nI (by omega) (by omega)) dX5_put_42 (fun H locs hP hD hS => ?_)
        generalize hg_25 : upd f1 ((nI k) : Int32).toNatClampNeg v_21 = g_25 at hP hD
        have hu_25 : g_25 = upd f1 k v_21 := (by rw [← hg_25, nI_clamp (by omega)])
        have hP : va_P (dC, dI) vwCl [(xo_5_rrr h it la le), (xI la cI 8 fl), (xJ it cJ 8 fi), (xI y0 cI 40 f0), (xI y1 cI 40 g_25), (xI y2 cI 40 f2), (xI y3 cI 40 f3), (xI y4 cI 40 f4), (xI y5 cI 40 f5), (xI y6 cI 40 f6), (xI y7 cI 40 f7)] H := hP
        have hD := dto hP hD
        refine lv_iload hx hb dX5_put_43 (lv_at hl 0 rfl) ?_
        have hX9 := cut2 (wc := [(xo_5_rrr h it la le), (xI la cI 8 fl), (xJ it cJ 8 fi), (xI y0 cI 40 f0), (xI y1 cI 40 g_25), (xI y2 cI 40 f2), (xI y3 cI 40 f3), (xI y4 cI 40 f4), (xI y5 cI 40 f5), (xI y6 cI 40 f6), (xI y7 cI 40 f7)]) hP hD [0, 1, 2, 3, 4, 5, 6, 7, 8, 9, 10] (by decide +kernel) rfl
        exact W.iret (v := v_21) hx hb hr (fun t ht hW => ⟨⟨v_21, (), rfl, (lf_X5_put_10 hfi hj hk e_1 c_2 e_3 c_4 e_21 hu_25), ⟨f0, g_25, f2, f3, f4, f5, f6, f7, va_Ht ht hX9.1, hX9.2⟩⟩, hS.F ht⟩) hS.2.2 dX5_put_45
      · skip
        have hl : lv_has ls 5 [(4, .int v_21), (0, .ref h), (1, .int 2), (2, .int (nI k)), (3, .int v)] := hl
        refine lv_aload_n hx hb dX5_put_33 rfl (lv_at hl 1 rfl) ?_
        refine va_get (D := (dC, dI)) (ci := 5) (v := .ref it) (C := RX5) (T := TX5) (N := 3) hx hb hts i_X5_put_X5 hown hK hP 0 rfl rfl 0 (by decide) (hts _ mx_X5_put_2) (fun _ h9 => h9) rfl dX5_put_34 ?_
        refine lv_iload_n hx hb dX5_put_37 rfl (lv_at hl 2 rfl) ?_
        refine nw_alk hx hb hK hP 2 3 rfl rfl 2 rfl (Nat.le_of_ble_eq_true rfl) (Nat.le_of_ble_eq_true rfl) hfi.2.2.1 dX5_put_38 ?_
        refine lv_iload_n hx hb dX5_put_39 rfl (lv_at hl 3 rfl) ?_
        refine lv_iload hx hb dX5_put_40 (lv_at hl 0 rfl) ?_
        refine va_iast hx hb hK hP hD hS 5 0 rfl rfl (vp_in_nI (by omega) (by omega)) dX5_put_42 (fun H locs hP hD hS => ?_)
        generalize hg_27 : upd f2 ((nI k) : Int32).toNatClampNeg v_21 = g_27 at hP hD
        have hu_27 : g_27 = upd f2 k v_21 := (by rw [← hg_27, nI_clamp (by omega)])
        have hP : va_P (dC, dI) vwCl [(xo_5_rrr h it la le), (xI la cI 8 fl), (xJ it cJ 8 fi), (xI y0 cI 40 f0), (xI y1 cI 40 f1), (xI y2 cI 40 g_27), (xI y3 cI 40 f3), (xI y4 cI 40 f4), (xI y5 cI 40 f5), (xI y6 cI 40 f6), (xI y7 cI 40 f7)] H := hP
        have hD := dto hP hD
        refine lv_iload hx hb dX5_put_43 (lv_at hl 0 rfl) ?_
        have hX9 := cut2 (wc := [(xo_5_rrr h it la le), (xI la cI 8 fl), (xJ it cJ 8 fi), (xI y0 cI 40 f0), (xI y1 cI 40 f1), (xI y2 cI 40 g_27), (xI y3 cI 40 f3), (xI y4 cI 40 f4), (xI y5 cI 40 f5), (xI y6 cI 40 f6), (xI y7 cI 40 f7)]) hP hD [0, 1, 2, 3, 4, 5, 6, 7, 8, 9, 10] (by decide +kernel) rfl
        exact W.iret (v := v_21) hx hb hr (fun t ht hW => ⟨⟨v_21, (), rfl, (lf_X5_put_11 hfi hj hk e_1 c_2 e_3 c_4 e_21 hu_27), ⟨f0, f1, g_27, f3, f4, f5, f6, f7, va_Ht ht hX9.1, hX9.2⟩⟩, hS.F ht⟩) hS.2.2 dX5_put_45
      · skip
        have hl : lv_has ls 5 [(4, .int v_21), (0, .ref h), (1, .int 3), (2, .int (nI k)), (3, .int v)] := hl
        refine lv_aload_n hx hb dX5_put_33 rfl (lv_at hl 1 rfl) ?_
        refine va_get (D := (dC, dI)) (ci := 5) (v := .ref it) (C := RX5) (T := TX5) (N := 3) hx hb hts i_X5_put_X5 hown hK hP 0 rfl rfl 0 (by decide) (hts _ mx_X5_put_2) (fun _ h9 => h9) rfl dX5_put_34 ?_
        refine lv_iload_n hx hb dX5_put_37 rfl (lv_at hl 2 rfl) ?_
        refine nw_alk hx hb hK hP 2 3 rfl rfl 3 rfl (Nat.le_of_ble_eq_true rfl) (Nat.le_of_ble_eq_true rfl) hfi.2.2.2.1 dX5_put_38 ?_
        refine lv_iload_n hx hb dX5_put_39 rfl (lv_at hl 3 rfl) ?_
        refine lv_iload hx hb dX5_put_40 (lv_at hl 0 rfl) ?_
        refine va_iast hx hb hK hP hD hS 6 0 rfl rfl (vp_in_nI (by omega) (by omega)) dX5_put_42 (fun H locs hP hD hS => ?_)
        generalize hg_29 : upd f3 ((nI k) : Int32).toNatClampNeg v_21 = g_29 at hP hD
        have hu_29 : g_29 = upd f3 k v_21 := (by rw [← hg_29, nI_clamp (by omega)])
        have hP : va_P (dC, dI) vwCl [(xo_5_rrr h it la le), (xI la cI 8 fl), (xJ it cJ 8 fi), (xI y0 cI 40 f0), (xI y1 cI 40 f1), (xI y2 cI 40 f2), (xI y3 cI 40 g_29), (xI y4 cI 40 f4), (xI y5 cI 40 f5), (xI y6 cI 40 f6), (xI y7 cI 40 f7)] H := hP
        have hD := dto hP hD
        refine lv_iload hx hb dX5_put_43 (lv_at hl 0 rfl) ?_
        have hX9 := cut2 (wc := [(xo_5_rrr h it la le), (xI la cI 8 fl), (xJ it cJ 8 fi), (xI y0 cI 40 f0), (xI y1 cI 40 f1), (xI y2 cI 40 f2), (xI y3 cI 40 g_29), (xI y4 cI 40 f4), (xI y5 cI 40 f5), (xI y6 cI 40 f6), (xI y7 cI 40 f7)]) hP hD [0, 1, 2, 3, 4, 5, 6, 7, 8, 9, 10] (by decide +kernel) rfl
        exact W.iret (v := v_21) hx hb hr (fun t ht hW => ⟨⟨v_21, (), rfl, (lf_X5_put_12 hfi hj hk e_1 c_2 e_3 c_4 e_21 hu_29), ⟨f0, f1, f2, g_29, f4, f5, f6, f7, va_Ht ht hX9.1, hX9.2⟩⟩, hS.F ht⟩) hS.2.2 dX5_put_45
      · skip
        have hl : lv_has ls 5 [(4, .int v_21), (0, .ref h), (1, .int 4), (2, .int (nI k)), (3, .int v)] := hl
        refine lv_aload_n hx hb dX5_put_33 rfl (lv_at hl 1 rfl) ?_
        refine va_get (D := (dC, dI)) (ci := 5) (v := .ref it) (C := RX5) (T := TX5) (N := 3) hx hb hts i_X5_put_X5 hown hK hP 0 rfl rfl 0 (by decide) (hts _ mx_X5_put_2) (fun _ h9 => h9) rfl dX5_put_34 ?_
        refine lv_iload_n hx hb dX5_put_37 rfl (lv_at hl 2 rfl) ?_
        refine nw_alk hx hb hK hP 2 3 rfl rfl 4 rfl (Nat.le_of_ble_eq_true rfl) (Nat.le_of_ble_eq_true rfl) hfi.2.2.2.2.1 dX5_put_38 ?_
        refine lv_iload_n hx hb dX5_put_39 rfl (lv_at hl 3 rfl) ?_
        refine lv_iload hx hb dX5_put_40 (lv_at hl 0 rfl) ?_
        refine va_iast hx hb hK hP hD hS 7 0 rfl rfl (vp_in_nI (by omega) (by omega)) dX5_put_42 (fun H locs hP hD hS => ?_)
        generalize hg_31 : upd f4 ((nI k) : Int32).toNatClampNeg v_21 = g_31 at hP hD
        have hu_31 : g_31 = upd f4 k v_21 := (by rw [← hg_31, nI_clamp (by omega)])
        have hP : va_P (dC, dI) vwCl [(xo_5_rrr h it la le), (xI la cI 8 fl), (xJ it cJ 8 fi), (xI y0 cI 40 f0), (xI y1 cI 40 f1), (xI y2 cI 40 f2), (xI y3 cI 40 f3), (xI y4 cI 40 g_31), (xI y5 cI 40 f5), (xI y6 cI 40 f6), (xI y7 cI 40 f7)] H := hP
        have hD := dto hP hD
        refine lv_iload hx hb dX5_put_43 (lv_at hl 0 rfl) ?_
        have hX9 := cut2 (wc := [(xo_5_rrr h it la le), (xI la cI 8 fl), (xJ it cJ 8 fi), (xI y0 cI 40 f0), (xI y1 cI 40 f1), (xI y2 cI 40 f2), (xI y3 cI 40 f3), (xI y4 cI 40 g_31), (xI y5 cI 40 f5), (xI y6 cI 40 f6), (xI y7 cI 40 f7)]) hP hD [0, 1, 2, 3, 4, 5, 6, 7, 8, 9, 10] (by decide +kernel) rfl
        exact W.iret (v := v_21) hx hb hr (fun t ht hW => ⟨⟨v_21, (), rfl, (lf_X5_put_13 hfi hj hk e_1 c_2 e_3 c_4 e_21 hu_31), ⟨f0, f1, f2, f3, g_31, f5, f6, f7, va_Ht ht hX9.1, hX9.2⟩⟩, hS.F ht⟩) hS.2.2 dX5_put_45
      · skip
        have hl : lv_has ls 5 [(4, .int v_21), (0, .ref h), (1, .int 5), (2, .int (nI k)), (3, .int v)] := hl
        refine lv_aload_n hx hb dX5_put_33 rfl (lv_at hl 1 rfl) ?_
        refine va_get (D := (dC, dI)) (ci := 5) (v := .ref it) (C := RX5) (T := TX5) (N := 3) hx hb hts i_X5_put_X5 hown hK hP 0 rfl rfl 0 (by decide) (hts _ mx_X5_put_2) (fun _ h9 => h9) rfl dX5_put_34 ?_
        refine lv_iload_n hx hb dX5_put_37 rfl (lv_at hl 2 rfl) ?_
        refine nw_alk hx hb hK hP 2 3 rfl rfl 5 rfl (Nat.le_of_ble_eq_true rfl) (Nat.le_of_ble_eq_true rfl) hfi.2.2.2.2.2.1 dX5_put_38 ?_
        refine lv_iload_n hx hb dX5_put_39 rfl (lv_at hl 3 rfl) ?_
        refine lv_iload hx hb dX5_put_40 (lv_at hl 0 rfl) ?_
        refine va_iast hx hb hK hP hD hS 8 0 rfl rfl (vp_in_nI (by omega) (by omega)) dX5_put_42 (fun H locs hP hD hS => ?_)
        generalize hg_33 : upd f5 ((nI k) : Int32).toNatClampNeg v_21 = g_33 at hP hD
        have hu_33 : g_33 = upd f5 k v_21 := (by rw [← hg_33, nI_clamp (by omega)])
        have hP : va_P (dC, dI) vwCl [(xo_5_rrr h it la le), (xI la cI 8 fl), (xJ it cJ 8 fi), (xI y0 cI 40 f0), (xI y1 cI 40 f1), (xI y2 cI 40 f2), (xI y3 cI 40 f3), (xI y4 cI 40 f4), (xI y5 cI 40 g_33), (xI y6 cI 40 f6), (xI y7 cI 40 f7)] H := hP
        have hD := dto hP hD
        refine lv_iload hx hb dX5_put_43 (lv_at hl 0 rfl) ?_
        have hX9 := cut2 (wc := [(xo_5_rrr h it la le), (xI la cI 8 fl), (xJ it cJ 8 fi), (xI y0 cI 40 f0), (xI y1 cI 40 f1), (xI y2 cI 40 f2), (xI y3 cI 40 f3), (xI y4 cI 40 f4), (xI y5 cI 40 g_33), (xI y6 cI 40 f6), (xI y7 cI 40 f7)]) hP hD [0, 1, 2, 3, 4, 5, 6, 7, 8, 9, 10] (by decide +kernel) rfl
        exact W.iret (v := v_21) hx hb hr (fun t ht hW => ⟨⟨v_21, (), rfl, (lf_X5_put_14 hfi hj hk e_1 c_2 e_3 c_4 e_21 hu_33), ⟨f0, f1, f2, f3, f4, g_33, f6, f7, va_Ht ht hX9.1, hX9.2⟩⟩, hS.F ht⟩) hS.2.2 dX5_put_45
      · skip
        have hl : lv_has ls 5 [(4, .int v_21), (0, .ref h), (1, .int 6), (2, .int (nI k)), (3, .int v)] := hl
        refine lv_aload_n hx hb dX5_put_33 rfl (lv_at hl 1 rfl) ?_
        refine va_get (D := (dC, dI)) (ci := 5) (v := .ref it) (C := RX5) (T := TX5) (N := 3) hx hb hts i_X5_put_X5 hown hK hP 0 rfl rfl 0 (by decide) (hts _ mx_X5_put_2) (fun _ h9 => h9) rfl dX5_put_34 ?_
        refine lv_iload_n hx hb dX5_put_37 rfl (lv_at hl 2 rfl) ?_
        refine nw_alk hx hb hK hP 2 3 rfl rfl 6 rfl (Nat.le_of_ble_eq_true rfl) (Nat.le_of_ble_eq_true rfl) hfi.2.2.2.2.2.2.1 dX5_put_38 ?_
        refine lv_iload_n hx hb dX5_put_39 rfl (lv_at hl 3 rfl) ?_
        refine lv_iload hx hb dX5_put_40 (lv_at hl 0 rfl) ?_
        refine va_iast hx hb hK hP hD hS 9 0 rfl rfl (vp_in_nI (by omega) (by omega)) dX5_put_42 (fun H locs hP hD hS => ?_)
        generalize hg_35 : upd f6 ((nI k) : Int32).toNatClampNeg v_21 = g_35 at hP hD
        have hu_35 : g_35 = upd f6 k v_21 := (by rw [← hg_35, nI_clamp (by omega)])
        have hP : va_P (dC, dI) vwCl [(xo_5_rrr h it la le), (xI la cI 8 fl), (xJ it cJ 8 fi), (xI y0 cI 40 f0), (xI y1 cI 40 f1), (xI y2 cI 40 f2), (xI y3 cI 40 f3), (xI y4 cI 40 f4), (xI y5 cI 40 f5), (xI y6 cI 40 g_35), (xI y7 cI 40 f7)] H := hP
        have hD := dto hP hD
        refine lv_iload hx hb dX5_put_43 (lv_at hl 0 rfl) ?_
        have hX9 := cut2 (wc := [(xo_5_rrr h it la le), (xI la cI 8 fl), (xJ it cJ 8 fi), (xI y0 cI 40 f0), (xI y1 cI 40 f1), (xI y2 cI 40 f2), (xI y3 cI 40 f3), (xI y4 cI 40 f4), (xI y5 cI 40 f5), (xI y6 cI 40 g_35), (xI y7 cI 40 f7)]) hP hD [0, 1, 2, 3, 4, 5, 6, 7, 8, 9, 10] (by decide +kernel) rfl
        exact W.iret (v := v_21) hx hb hr (fun t ht hW => ⟨⟨v_21, (), rfl, (lf_X5_put_15 hfi hj hk e_1 c_2 e_3 c_4 e_21 hu_35), ⟨f0, f1, f2, f3, f4, f5, g_35, f7, va_Ht ht hX9.1, hX9.2⟩⟩, hS.F ht⟩) hS.2.2 dX5_put_45
      · skip
        have hl : lv_has ls 5 [(4, .int v_21), (0, .ref h), (1, .int 7), (2, .int (nI k)), (3, .int v)] := hl
        refine lv_aload_n hx hb dX5_put_33 rfl (lv_at hl 1 rfl) ?_
        refine va_get (D := (dC, dI)) (ci := 5) (v := .ref it) (C := RX5) (T := TX5) (N := 3) hx hb hts i_X5_put_X5 hown hK hP 0 rfl rfl 0 (by decide) (hts _ mx_X5_put_2) (fun _ h9 => h9) rfl dX5_put_34 ?_
        refine lv_iload_n hx hb dX5_put_37 rfl (lv_at hl 2 rfl) ?_
        refine nw_alk hx hb hK hP 2 3 rfl rfl 7 rfl (Nat.le_of_ble_eq_true rfl) (Nat.le_of_ble_eq_true rfl) hfi.2.2.2.2.2.2.2 dX5_put_38 ?_
        refine lv_iload_n hx hb dX5_put_39 rfl (lv_at hl 3 rfl) ?_
        refine lv_iload hx hb dX5_put_40 (lv_at hl 0 rfl) ?_
        refine va_iast hx hb hK hP hD hS 10 0 rfl rfl (vp_in_nI (by omega) (by omega)) dX5_put_42 (fun H locs hP hD hS => ?_)
        generalize hg_37 : upd f7 ((nI k) : Int32).toNatClampNeg v_21 = g_37 at hP hD
        have hu_37 : g_37 = upd f7 k v_21 := (by rw [← hg_37, nI_clamp (by omega)])
        have hP : va_P (dC, dI) vwCl [(xo_5_rrr h it la le), (xI la cI 8 fl), (xJ it cJ 8 fi), (xI y0 cI 40 f0), (xI y1 cI 40 f1), (xI y2 cI 40 f2), (xI y3 cI 40 f3), (xI y4 cI 40 f4), (xI y5 cI 40 f5), (xI y6 cI 40 f6), (xI y7 cI 40 g_37)] H := hP
        have hD := dto hP hD
        refine lv_iload hx hb dX5_put_43 (lv_at hl 0 rfl) ?_
        have hX9 := cut2 (wc := [(xo_5_rrr h it la le), (xI la cI 8 fl), (xJ it cJ 8 fi), (xI y0 cI 40 f0), (xI y1 cI 40 f1), (xI y2 cI 40 f2), (xI y3 cI 40 f3), (xI y4 cI 40 f4), (xI y5 cI 40 f5), (xI y6 cI 40 f6), (xI y7 cI 40 g_37)]) hP hD [0, 1, 2, 3, 4, 5, 6, 7, 8, 9, 10] (by decide +kernel) rfl
        exact W.iret (v := v_21) hx hb hr (fun t ht hW => ⟨⟨v_21, (), rfl, (lf_X5_put_16 hfi hj hk e_1 c_2 e_3 c_4 e_21 hu_37), ⟨f0, f1, f2, f3, f4, f5, f6, g_37, va_Ht ht hX9.1, hX9.2⟩⟩, hS.F ht⟩) hS.2.2 dX5_put_45
  · skip
    refine lv_iload_n hx hb dX5_put_12 rfl (lv_at hl 4 rfl) ?_
    refine lv_i2b hx hb dX5_put_13 rfl ?_
    refine lv_topi (fun v_38 e_38 => ?_)
    refine lv_istore (lv' := [(4, .int v_38), (0, .ref h), (1, .int (nI j)), (2, .int (nI k)), (3, .int v)]) hx hb dX5_put_14 hl (by decide) rfl (fun ls hl => ?_)
    refine lv_goto (tgt := 33) hx hb dX5_put_16 (by decide) ?_
    rcases (show j = 0 ∨ j = 1 ∨ j = 2 ∨ j = 3 ∨ j = 4 ∨ j = 5 ∨ j = 6 ∨ j = 7 by omega) with rfl | rfl | rfl | rfl | rfl | rfl | rfl | rfl
    · skip
      have hl : lv_has ls 5 [(4, .int v_38), (0, .ref h), (1, .int 0), (2, .int (nI k)), (3, .int v)] := hl
      refine lv_aload_n hx hb dX5_put_33 rfl (lv_at hl 1 rfl) ?_
      refine va_get (D := (dC, dI)) (ci := 5) (v := .ref it) (C := RX5) (T := TX5) (N := 3) hx hb hts i_X5_put_X5 hown hK hP 0 rfl rfl 0 (by decide) (hts _ mx_X5_put_2) (fun _ h9 => h9) rfl dX5_put_34 ?_
      refine lv_iload_n hx hb dX5_put_37 rfl (lv_at hl 2 rfl) ?_
      refine nw_alk hx hb hK hP 2 3 rfl rfl 0 rfl (Nat.le_of_ble_eq_true rfl) (Nat.le_of_ble_eq_true rfl) hfi.1 dX5_put_38 ?_
      refine lv_iload_n hx hb dX5_put_39 rfl (lv_at hl 3 rfl) ?_
      refine lv_iload hx hb dX5_put_40 (lv_at hl 0 rfl) ?_
      refine va_iast hx hb hK hP hD hS 3 0 rfl rfl (vp_in_nI (by omega) (by omega)) dX5_put_42 (fun H locs hP hD hS => ?_)
      generalize hg_40 : upd f0 ((nI k) : Int32).toNatClampNeg v_38 = g_40 at hP hD
      have hu_40 : g_40 = upd f0 k v_38 := (by rw [← hg_40, nI_clamp (by omega)])
      have hP : va_P (dC, dI) vwCl [(xo_5_rrr h it la le), (xI la cI 8 fl), (xJ it cJ 8 fi), (xI y0 cI 40 g_40), (xI y1 cI 40 f1), (xI y2 cI 40 f2), (xI y3 cI 40 f3), (xI y4 cI 40 f4), (xI y5 cI 40 f5), (xI y6 cI 40 f6), (xI y7 cI 40 f7)] H := hP
      have hD := dto hP hD
      refine lv_iload hx hb dX5_put_43 (lv_at hl 0 rfl) ?_
      have hX9 := cut2 (wc := [(xo_5_rrr h it la le), (xI la cI 8 fl), (xJ it cJ 8 fi), (xI y0 cI 40 g_40), (xI y1 cI 40 f1), (xI y2 cI 40 f2), (xI y3 cI 40 f3), (xI y4 cI 40 f4), (xI y5 cI 40 f5), (xI y6 cI 40 f6), (xI y7 cI 40 f7)]) hP hD [0, 1, 2, 3, 4, 5, 6, 7, 8, 9, 10] (by decide +kernel) rfl
      exact W.iret (v := v_38) hx hb hr (fun t ht hW => ⟨⟨v_38, (), rfl, (lf_X5_put_17 hfi hj hk e_1 c_2 e_38 hu_40), ⟨g_40, f1, f2, f3, f4, f5, f6, f7, va_Ht ht hX9.1, hX9.2⟩⟩, hS.F ht⟩) hS.2.2 dX5_put_45
    · skip
      have hl : lv_has ls 5 [(4, .int v_38), (0, .ref h), (1, .int 1), (2, .int (nI k)), (3, .int v)] := hl
      refine lv_aload_n hx hb dX5_put_33 rfl (lv_at hl 1 rfl) ?_
      refine va_get (D := (dC, dI)) (ci := 5) (v := .ref it) (C := RX5) (T := TX5) (N := 3) hx hb hts i_X5_put_X5 hown hK hP 0 rfl rfl 0 (by decide) (hts _ mx_X5_put_2) (fun _ h9 => h9) rfl dX5_put_34 ?_
      refine lv_iload_n hx hb dX5_put_37 rfl (lv_at hl 2 rfl) ?_
      refine nw_alk hx hb hK hP 2 3 rfl rfl 1 rfl (Nat.le_of_ble_eq_true rfl) (Nat.le_of_ble_eq_true rfl) hfi.2.1 dX5_put_38 ?_
      refine lv_iload_n hx hb dX5_put_39 rfl (lv_at hl 3 rfl) ?_
      refine lv_iload hx hb dX5_put_40 (lv_at hl 0 rfl) ?_
      refine va_iast hx hb hK hP hD hS 4 0 rfl rfl (vp_in_nI (by omega) (by omega)) dX5_put_42 (fun H locs hP hD hS => ?_)
      generalize hg_42 : upd f1 ((nI k) : Int32).toNatClampNeg v_38 = g_42 at hP hD
      have hu_42 : g_42 = upd f1 k v_38 := (by rw [← hg_42, nI_clamp (by omega)])
      have hP : va_P (dC, dI) vwCl [(xo_5_rrr h it la le), (xI la cI 8 fl), (xJ it cJ 8 fi), (xI y0 cI 40 f0), (xI y1 cI 40 g_42), (xI y2 cI 40 f2), (xI y3 cI 40 f3), (xI y4 cI 40 f4), (xI y5 cI 40 f5), (xI y6 cI 40 f6), (xI y7 cI 40 f7)] H := hP
      have hD := dto hP hD
      refine lv_iload hx hb dX5_put_43 (lv_at hl 0 rfl) ?_
      have hX9 := cut2 (wc := [(xo_5_rrr h it la le), (xI la cI 8 fl), (xJ it cJ 8 fi), (xI y0 cI 40 f0), (xI y1 cI 40 g_42), (xI y2 cI 40 f2), (xI y3 cI 40 f3), (xI y4 cI 40 f4), (xI y5 cI 40 f5), (xI y6 cI 40 f6), (xI y7 cI 40 f7)]) hP hD [0, 1, 2, 3, 4, 5, 6, 7, 8, 9, 10] (by decide +kernel) rfl
      exact W.iret (v := v_38) hx hb hr (fun t ht hW => ⟨⟨v_38, (), rfl, (lf_X5_put_18 hfi hj hk e_1 c_2 e_38 hu_42), ⟨f0, g_42, f2, f3, f4, f5, f6, f7, va_Ht ht hX9.1, hX9.2⟩⟩, hS.F ht⟩) hS.2.2 dX5_put_45
    · skip
      have hl : lv_has ls 5 [(4, .int v_38), (0, .ref h), (1, .int 2), (2, .int (nI k)), (3, .int v)] := hl
      refine lv_aload_n hx hb dX5_put_33 rfl (lv_at hl 1 rfl) ?_
      refine va_get (D := (dC, dI)) (ci := 5) (v := .ref it) (C := RX5) (T := TX5) (N := 3) hx hb hts i_X5_put_X5 hown hK hP 0 rfl rfl 0 (by decide) (hts _ mx_X5_put_2) (fun _ h9 => h9) rfl dX5_put_34 ?_
      refine lv_iload_n hx hb dX5_put_37 rfl (lv_at hl 2 rfl) ?_
      refine nw_alk hx hb hK hP 2 3 rfl rfl 2 rfl (Nat.le_of_ble_eq_true rfl) (Nat.le_of_ble_eq_true rfl) hfi.2.2.1 dX5_put_38 ?_
      refine lv_iload_n hx hb dX5_put_39 rfl (lv_at hl 3 rfl) ?_
      refine lv_iload hx hb dX5_put_40 (lv_at hl 0 rfl) ?_
      refine va_iast hx hb hK hP hD hS 5 0 rfl rfl (vp_in_nI (by omega) (by omega)) dX5_put_42 (fun H locs hP hD hS => ?_)
      generalize hg_44 : upd f2 ((nI k) : Int32).toNatClampNeg v_38 = g_44 at hP hD
      have hu_44 : g_44 = upd f2 k v_38 := (by rw [← hg_44, nI_clamp (by omega)])
      have hP : va_P (dC, dI) vwCl [(xo_5_rrr h it la le), (xI la cI 8 fl), (xJ it cJ 8 fi), (xI y0 cI 40 f0), (xI y1 cI 40 f1), (xI y2 cI 40 g_44), (xI y3 cI 40 f3), (xI y4 cI 40 f4), (xI y5 cI 40 f5), (xI y6 cI 40 f6), (xI y7 cI 40 f7)] H := hP
      have hD := dto hP hD
      refine lv_iload hx hb dX5_put_43 (lv_at hl 0 rfl) ?_
      have hX9 := cut2 (wc := [(xo_5_rrr h it la le), (xI la cI 8 fl), (xJ it cJ 8 fi), (xI y0 cI 40 f0), (xI y1 cI 40 f1), (xI y2 cI 40 g_44), (xI y3 cI 40 f3), (xI y4 cI 40 f4), (xI y5 cI 40 f5), (xI y6 cI 40 f6), (xI y7 cI 40 f7)]) hP hD [0, 1, 2, 3, 4, 5, 6, 7, 8, 9, 10] (by decide +kernel) rfl
      exact W.iret (v := v_38) hx hb hr (fun t ht hW => ⟨⟨v_38, (), rfl, (lf_X5_put_19 hfi hj hk e_1 c_2 e_38 hu_44), ⟨f0, f1, g_44, f3, f4, f5, f6, f7, va_Ht ht hX9.1, hX9.2⟩⟩, hS.F ht⟩) hS.2.2 dX5_put_45
    · skip
      have hl : lv_has ls 5 [(4, .int v_38), (0, .ref h), (1, .int 3), (2, .int (nI k)), (3, .int v)] := hl
      refine lv_aload_n hx hb dX5_put_33 rfl (lv_at hl 1 rfl) ?_
      refine va_get (D := (dC, dI)) (ci := 5) (v := .ref it) (C := RX5) (T := TX5) (N := 3) hx hb hts i_X5_put_X5 hown hK hP 0 rfl rfl 0 (by decide) (hts _ mx_X5_put_2) (fun _ h9 => h9) rfl dX5_put_34 ?_
      refine lv_iload_n hx hb dX5_put_37 rfl (lv_at hl 2 rfl) ?_
      refine nw_alk hx hb hK hP 2 3 rfl rfl 3 rfl (Nat.le_of_ble_eq_true rfl) (Nat.le_of_ble_eq_true rfl) hfi.2.2.2.1 dX5_put_38 ?_
      refine lv_iload_n hx hb dX5_put_39 rfl (lv_at hl 3 rfl) ?_
      refine lv_iload hx hb dX5_put_40 (lv_at hl 0 rfl) ?_
      refine va_iast hx hb hK hP hD hS 6 0 rfl rfl (vp_in_nI (by omega) (by omega)) dX5_put_42 (fun H locs hP hD hS => ?_)
      generalize hg_46 : upd f3 ((nI k) : Int32).toNatClampNeg v_38 = g_46 at hP hD
      have hu_46 : g_46 = upd f3 k v_38 := (by rw [← hg_46, nI_clamp (by omega)])
      have hP : va_P (dC, dI) vwCl [(xo_5_rrr h it la le), (xI la cI 8 fl), (xJ it cJ 8 fi), (xI y0 cI 40 f0), (xI y1 cI 40 f1), (xI y2 cI 40 f2), (xI y3 cI 40 g_46), (xI y4 cI 40 f4), (xI y5 cI 40 f5), (xI y6 cI 40 f6), (xI y7 cI 40 f7)] H := hP
      have hD := dto hP hD
      refine lv_iload hx hb dX5_put_43 (lv_at hl 0 rfl) ?_
      have hX9 := cut2 (wc := [(xo_5_rrr h it la le), (xI la cI 8 fl), (xJ it cJ 8 fi), (xI y0 cI 40 f0), (xI y1 cI 40 f1), (xI y2 cI 40 f2), (xI y3 cI 40 g_46), (xI y4 cI 40 f4), (xI y5 cI 40 f5), (xI y6 cI 40 f6), (xI y7 cI 40 f7)]) hP hD [0, 1, 2, 3, 4, 5, 6, 7, 8, 9, 10] (by decide +kernel) rfl
      exact W.iret (v := v_38) hx hb hr (fun t ht hW => ⟨⟨v_38, (), rfl, (lf_X5_put_20 hfi hj hk e_1 c_2 e_38 hu_46), ⟨f0, f1, f2, g_46, f4, f5, f6, f7, va_Ht ht hX9.1, hX9.2⟩⟩, hS.F ht⟩) hS.2.2 dX5_put_45
    · skip
      have hl : lv_has ls 5 [(4, .int v_38), (0, .ref h), (1, .int 4), (2, .int (nI k)), (3, .int v)] := hl
      refine lv_aload_n hx hb dX5_put_33 rfl (lv_at hl 1 rfl) ?_
      refine va_get (D := (dC, dI)) (ci := 5) (v := .ref it) (C := RX5) (T := TX5) (N := 3) hx hb hts i_X5_put_X5 hown hK hP 0 rfl rfl 0 (by decide) (hts _ mx_X5_put_2) (fun _ h9 => h9) rfl dX5_put_34 ?_
      refine lv_iload_n hx hb dX5_put_37 rfl (lv_at hl 2 rfl) ?_
      refine nw_alk hx hb hK hP 2 3 rfl rfl 4 rfl (Nat.le_of_ble_eq_true rfl) (Nat.le_of_ble_eq_true rfl) hfi.2.2.2.2.1 dX5_put_38 ?_
      refine lv_iload_n hx hb dX5_put_39 rfl (lv_at hl 3 rfl) ?_
      refine lv_iload hx hb dX5_put_40 (lv_at hl 0 rfl) ?_
      refine va_iast hx hb hK hP hD hS 7 0 rfl rfl (vp_in_nI (by omega) (by omega)) dX5_put_42 (fun H locs hP hD hS => ?_)
      generalize hg_48 : upd f4 ((nI k) : Int32).toNatClampNeg v_38 = g_48 at hP hD
      have hu_48 : g_48 = upd f4 k v_38 := (by rw [← hg_48, nI_clamp (by omega)])
      have hP : va_P (dC, dI) vwCl [(xo_5_rrr h it la le), (xI la cI 8 fl), (xJ it cJ 8 fi), (xI y0 cI 40 f0), (xI y1 cI 40 f1), (xI y2 cI 40 f2), (xI y3 cI 40 f3), (xI y4 cI 40 g_48), (xI y5 cI 40 f5), (xI y6 cI 40 f6), (xI y7 cI 40 f7)] H := hP
      have hD := dto hP hD
      refine lv_iload hx hb dX5_put_43 (lv_at hl 0 rfl) ?_
      have hX9 := cut2 (wc := [(xo_5_rrr h it la le), (xI la cI 8 fl), (xJ it cJ 8 fi), (xI y0 cI 40 f0), (xI y1 cI 40 f1), (xI y2 cI 40 f2), (xI y3 cI 40 f3), (xI y4 cI 40 g_48), (xI y5 cI 40 f5), (xI y6 cI 40 f6), (xI y7 cI 40 f7)]) hP hD [0, 1, 2, 3, 4, 5, 6, 7, 8, 9, 10] (by decide +kernel) rfl
      exact W.iret (v := v_38) hx hb hr (fun t ht hW => ⟨⟨v_38, (), rfl, (lf_X5_put_21 hfi hj hk e_1 c_2 e_38 hu_48), ⟨f0, f1, f2, f3, g_48, f5, f6, f7, va_Ht ht hX9.1, hX9.2⟩⟩, hS.F ht⟩) hS.2.2 dX5_put_45
    · skip
      have hl : lv_has ls 5 [(4, .int v_38), (0, .ref h), (1, .int 5), (2, .int (nI k)), (3, .int v)] := hl
      refine lv_aload_n hx hb dX5_put_33 rfl (lv_at hl 1 rfl) ?_
      refine va_get (D := (dC, dI)) (ci := 5) (v := .ref it) (C := RX5) (T := TX5) (N := 3) hx hb hts i_X5_put_X5 hown hK hP 0 rfl rfl 0 (by decide) (hts _ mx_X5_put_2) (fun _ h9 => h9) rfl dX5_put_34 ?_
      refine lv_iload_n hx hb dX5_put_37 rfl (lv_at hl 2 rfl) ?_
      refine nw_alk hx hb hK hP 2 3 rfl rfl 5 rfl (Nat.le_of_ble_eq_true rfl) (Nat.le_of_ble_eq_true rfl) hfi.2.2.2.2.2.1 dX5_put_38 ?_
      refine lv_iload_n hx hb dX5_put_39 rfl (lv_at hl 3 rfl) ?_
      refine lv_iload hx hb dX5_put_40 (lv_at hl 0 rfl) ?_
      refine va_iast hx hb hK hP hD hS 8 0 rfl rfl (vp_in_nI (by omega) (by omega)) dX5_put_42 (fun H locs hP hD hS => ?_)
      generalize hg_50 : upd f5 ((nI k) : Int32).toNatClampNeg v_38 = g_50 at hP hD
      have hu_50 : g_50 = upd f5 k v_38 := (by rw [← hg_50, nI_clamp (by omega)])
      have hP : va_P (dC, dI) vwCl [(xo_5_rrr h it la le), (xI la cI 8 fl), (xJ it cJ 8 fi), (xI y0 cI 40 f0), (xI y1 cI 40 f1), (xI y2 cI 40 f2), (xI y3 cI 40 f3), (xI y4 cI 40 f4), (xI y5 cI 40 g_50), (xI y6 cI 40 f6), (xI y7 cI 40 f7)] H := hP
      have hD := dto hP hD
      refine lv_iload hx hb dX5_put_43 (lv_at hl 0 rfl) ?_
      have hX9 := cut2 (wc := [(xo_5_rrr h it la le), (xI la cI 8 fl), (xJ it cJ 8 fi), (xI y0 cI 40 f0), (xI y1 cI 40 f1), (xI y2 cI 40 f2), (xI y3 cI 40 f3), (xI y4 cI 40 f4), (xI y5 cI 40 g_50), (xI y6 cI 40 f6), (xI y7 cI 40 f7)]) hP hD [0, 1, 2, 3, 4, 5, 6, 7, 8, 9, 10] (by decide +kernel) rfl
      exact W.iret (v := v_38) hx hb hr (fun t ht hW => ⟨⟨v_38, (), rfl, (lf_X5_put_22 hfi hj hk e_1 c_2 e_38 hu_50), ⟨f0, f1, f2, f3, f4, g_50, f6, f7, va_Ht ht hX9.1, hX9.2⟩⟩, hS.F ht⟩) hS.2.2 dX5_put_45
    · skip
      have hl : lv_has ls 5 [(4, .int v_38), (0, .ref h), (1, .int 6), (2, .int (nI k)), (3, .int v)] := hl
      refine lv_aload_n hx hb dX5_put_33 rfl (lv_at hl 1 rfl) ?_
      refine va_get (D := (dC, dI)) (ci := 5) (v := .ref it) (C := RX5) (T := TX5) (N := 3) hx hb hts i_X5_put_X5 hown hK hP 0 rfl rfl 0 (by decide) (hts _ mx_X5_put_2) (fun _ h9 => h9) rfl dX5_put_34 ?_
      refine lv_iload_n hx hb dX5_put_37 rfl (lv_at hl 2 rfl) ?_
      refine nw_alk hx hb hK hP 2 3 rfl rfl 6 rfl (Nat.le_of_ble_eq_true rfl) (Nat.le_of_ble_eq_true rfl) hfi.2.2.2.2.2.2.1 dX5_put_38 ?_
      refine lv_iload_n hx hb dX5_put_39 rfl (lv_at hl 3 rfl) ?_
      refine lv_iload hx hb dX5_put_40 (lv_at hl 0 rfl) ?_
      refine va_iast hx hb hK hP hD hS 9 0 rfl rfl (vp_in_nI (by omega) (by omega)) dX5_put_42 (fun H locs hP hD hS => ?_)
      generalize hg_52 : upd f6 ((nI k) : Int32).toNatClampNeg v_38 = g_52 at hP hD
      have hu_52 : g_52 = upd f6 k v_38 := (by rw [← hg_52, nI_clamp (by omega)])
      have hP : va_P (dC, dI) vwCl [(xo_5_rrr h it la le), (xI la cI 8 fl), (xJ it cJ 8 fi), (xI y0 cI 40 f0), (xI y1 cI 40 f1), (xI y2 cI 40 f2), (xI y3 cI 40 f3), (xI y4 cI 40 f4), (xI y5 cI 40 f5), (xI y6 cI 40 g_52), (xI y7 cI 40 f7)] H := hP
      have hD := dto hP hD
      refine lv_iload hx hb dX5_put_43 (lv_at hl 0 rfl) ?_
      have hX9 := cut2 (wc := [(xo_5_rrr h it la le), (xI la cI 8 fl), (xJ it cJ 8 fi), (xI y0 cI 40 f0), (xI y1 cI 40 f1), (xI y2 cI 40 f2), (xI y3 cI 40 f3), (xI y4 cI 40 f4), (xI y5 cI 40 f5), (xI y6 cI 40 g_52), (xI y7 cI 40 f7)]) hP hD [0, 1, 2, 3, 4, 5, 6, 7, 8, 9, 10] (by decide +kernel) rfl
      exact W.iret (v := v_38) hx hb hr (fun t ht hW => ⟨⟨v_38, (), rfl, (lf_X5_put_23 hfi hj hk e_1 c_2 e_38 hu_52), ⟨f0, f1, f2, f3, f4, f5, g_52, f7, va_Ht ht hX9.1, hX9.2⟩⟩, hS.F ht⟩) hS.2.2 dX5_put_45
    · skip
      have hl : lv_has ls 5 [(4, .int v_38), (0, .ref h), (1, .int 7), (2, .int (nI k)), (3, .int v)] := hl
      refine lv_aload_n hx hb dX5_put_33 rfl (lv_at hl 1 rfl) ?_
      refine va_get (D := (dC, dI)) (ci := 5) (v := .ref it) (C := RX5) (T := TX5) (N := 3) hx hb hts i_X5_put_X5 hown hK hP 0 rfl rfl 0 (by decide) (hts _ mx_X5_put_2) (fun _ h9 => h9) rfl dX5_put_34 ?_
      refine lv_iload_n hx hb dX5_put_37 rfl (lv_at hl 2 rfl) ?_
      refine nw_alk hx hb hK hP 2 3 rfl rfl 7 rfl (Nat.le_of_ble_eq_true rfl) (Nat.le_of_ble_eq_true rfl) hfi.2.2.2.2.2.2.2 dX5_put_38 ?_
      refine lv_iload_n hx hb dX5_put_39 rfl (lv_at hl 3 rfl) ?_
      refine lv_iload hx hb dX5_put_40 (lv_at hl 0 rfl) ?_
      refine va_iast hx hb hK hP hD hS 10 0 rfl rfl (vp_in_nI (by omega) (by omega)) dX5_put_42 (fun H locs hP hD hS => ?_)
      generalize hg_54 : upd f7 ((nI k) : Int32).toNatClampNeg v_38 = g_54 at hP hD
      have hu_54 : g_54 = upd f7 k v_38 := (by rw [← hg_54, nI_clamp (by omega)])
      have hP : va_P (dC, dI) vwCl [(xo_5_rrr h it la le), (xI la cI 8 fl), (xJ it cJ 8 fi), (xI y0 cI 40 f0), (xI y1 cI 40 f1), (xI y2 cI 40 f2), (xI y3 cI 40 f3), (xI y4 cI 40 f4), (xI y5 cI 40 f5), (xI y6 cI 40 f6), (xI y7 cI 40 g_54)] H := hP
      have hD := dto hP hD
      refine lv_iload hx hb dX5_put_43 (lv_at hl 0 rfl) ?_
      have hX9 := cut2 (wc := [(xo_5_rrr h it la le), (xI la cI 8 fl), (xJ it cJ 8 fi), (xI y0 cI 40 f0), (xI y1 cI 40 f1), (xI y2 cI 40 f2), (xI y3 cI 40 f3), (xI y4 cI 40 f4), (xI y5 cI 40 f5), (xI y6 cI 40 f6), (xI y7 cI 40 g_54)]) hP hD [0, 1, 2, 3, 4, 5, 6, 7, 8, 9, 10] (by decide +kernel) rfl
      exact W.iret (v := v_38) hx hb hr (fun t ht hW => ⟨⟨v_38, (), rfl, (lf_X5_put_24 hfi hj hk e_1 c_2 e_38 hu_54), ⟨f0, f1, f2, f3, f4, f5, f6, g_54, va_Ht ht hX9.1, hX9.2⟩⟩, hS.F ht⟩) hS.2.2 dX5_put_45
set_option maxHeartbeats 4000000 in
set_option maxRecDepth 100000 in
theorem r_X5_move (l : Launch) (dC : Nat → ClassId) (dI : Nat → Nat → Nat) (cI cZ cL cJ : ClassId) (sz : Nat) (h : Nat) (it : Nat) (la : Nat) (le : Nat) (fl : Nat → Int32) (fe : Nat → Int32) (y0 : Nat) (y1 : Nat) (y2 : Nat) (y3 : Nat) (y4 : Nat) (y5 : Nat) (y6 : Nat) (y7 : Nat) (f0 : Nat → Int32) (f1 : Nat → Int32) (f2 : Nat → Int32) (f3 : Nat → Int32) (f4 : Nat → Int32) (f5 : Nat → Int32) (f6 : Nat → Int32) (f7 : Nat → Int32) (fi : Nat → Option Nat) (j : Nat) (a : Nat) (k : Nat) (b : Nat) (n : Nat) (hfi : fi 0 = some y0 ∧ fi 1 = some y1 ∧ fi 2 = some y2 ∧ fi 3 = some y3 ∧ fi 4 = some y4 ∧ fi 5 = some y5 ∧ fi 6 = some y6 ∧ fi 7 = some y7) (hj : j < 8) (hk : k < 8) (ha : a + n ≤ 40) (hb2 : b + n ≤ 40) : Met l yX5_move wsX5_move ({ frames := 1, cells := 0, slots := 0, locals := 80 }) (va_Pc [.ref h, .int (nI j), .int (nI a), .int (nI k), .int (nI b), .int (nI n)] (fun U => U.heap.size = sz ∧ va_P (dC, dI) vwCl [(xo_5_rrr h it la le), (xJ it cJ 8 fi), (xI y0 cI 40 f0), (xI y1 cI 40 f1), (xI y2 cI 40 f2), (xI y3 cI 40 f3), (xI y4 cI 40 f4), (xI y5 cI 40 f5), (xI y6 cI 40 f6), (xI y7 cI 40 f7)] U.heap ∧ va_K (dC, dI) vwCl [(cI, .int), (cZ, .boolean), (cL, .object RX3), (cJ, .array .int)] U ∧ va_D (fun _ => True) [(xo_5_rrr h it la le), (xJ it cJ 8 fi), (xI y0 cI 40 f0), (xI y1 cI 40 f1), (xI y2 cI 40 f2), (xI y3 cI 40 f3), (xI y4 cI 40 f4), (xI y5 cI 40 f5), (xI y6 cI 40 f6), (xI y7 cI 40 f7)])) (va_Qv (fun (_ : Unit) => True) (fun (_ : Unit) t => ∃ (f0n : Nat → Int32) (f1n : Nat → Int32) (f2n : Nat → Int32) (f3n : Nat → Int32) (f4n : Nat → Int32) (f5n : Nat → Int32) (f6n : Nat → Int32) (f7n : Nat → Int32), va_P (dC, dI) vwCl [(xo_5_rrr h it la le), (xJ it cJ 8 fi), (xI y0 cI 40 f0n), (xI y1 cI 40 f1n), (xI y2 cI 40 f2n), (xI y3 cI 40 f3n), (xI y4 cI 40 f4n), (xI y5 cI 40 f5n), (xI y6 cI 40 f6n), (xI y7 cI 40 f7n)] t.heap ∧ va_D (va_A [(xo_5_rrr h it la le), (xJ it cJ 8 fi), (xI y0 cI 40 f0), (xI y1 cI 40 f1), (xI y2 cI 40 f2), (xI y3 cI 40 f3), (xI y4 cI 40 f4), (xI y5 cI 40 f5), (xI y6 cI 40 f6), (xI y7 cI 40 f7)] sz) [(xo_5_rrr h it la le), (xJ it cJ 8 fi), (xI y0 cI 40 f0n), (xI y1 cI 40 f1n), (xI y2 cI 40 f2n), (xI y3 cI 40 f3n), (xI y4 cI 40 f4n), (xI y5 cI 40 f5n), (xI y6 cI 40 f6n), (xI y7 cI 40 f7n)]) (va_A [(xo_5_rrr h it la le), (xJ it cJ 8 fi), (xI y0 cI 40 f0), (xI y1 cI 40 f1), (xI y2 cI 40 f2), (xI y3 cI 40 f3), (xI y4 cI 40 f4), (xI y5 cI 40 f5), (xI y6 cI 40 f6), (xI y7 cI 40 f7)] sz)) 0 0 (va_A [(xo_5_rrr h it la le), (xJ it cJ 8 fi), (xI y0 cI 40 f0), (xI y1 cI 40 f1), (xI y2 cI 40 f2), (xI y3 cI 40 f3), (xI y4 cI 40 f4), (xI y5 cI 40 f5), (xI y6 cI 40 f6), (xI y7 cI 40 f7)] sz) := by
  refine Met.ofW (cc := cX5_move) (maxL := 6) (ret := none) (by decide) rfl ?_
  intro p e s m args below meth c s₁ B hml hv
  obtain ⟨rfl, hsz, hP, hK, hD0⟩ := hv
  have hx := B.exec
  have hb := B.bytes
  have hr := B.returns
  have hts := atoms_spec (ws := wsX5_move) B.pre
  have hown : s.vm.findClass RX5 = some m.cls := findClass_of_methodNamed B.named
  have hlocks := B.notSynchronized
  subst hsz
  have hD := hD0.self (sz := s.heap.size)
  generalize hAe : va_A [(xo_5_rrr h it la le), (xJ it cJ 8 fi), (xI y0 cI 40 f0), (xI y1 cI 40 f1), (xI y2 cI 40 f2), (xI y3 cI 40 f3), (xI y4 cI 40 f4), (xI y5 cI 40 f5), (xI y6 cI 40 f6), (xI y7 cI 40 f7)] s.heap.size = A at hD ⊢
  have hA : ∀ q : Nat, s.heap.size ≤ q → A q := fun q h => by rw [← hAe]; exact Or.inr h
  have hS : va_S A s.heap s.heap [] := va_S.rf
  have hP : va_P (dC, dI) vwCl [(xo_5_rrr h it la le), (xJ it cJ 8 fi), (xI y0 cI 40 f0), (xI y1 cI 40 f1), (xI y2 cI 40 f2), (xI y3 cI 40 f3), (xI y4 cI 40 f4), (xI y5 cI 40 f5), (xI y6 cI 40 f6), (xI y7 cI 40 f7)] s.heap := hP
  have hl := lv_entry ([.ref h, .int (nI j), .int (nI a), .int (nI k), .int (nI b), .int (nI n)]) (n := 6) (Nat.le_of_ble_eq_true rfl)
  rw [lg_entry_eq]
  generalize (lg_sl ([.ref h, .int (nI j), .int (nI a), .int (nI k), .int (nI b), .int (nI n)]) ++ List.replicate (6 - (lg_sl ([.ref h, .int (nI j), .int (nI a), .int (nI k), .int (nI b), .int (nI n)])).length) Slot.unset).toArray = ls at hl ⊢
  have hl : lv_has ls 6 [(0, .ref h), (1, .int (nI j)), (2, .int (nI a)), (3, .int (nI k)), (4, .int (nI b)), (5, .int (nI n))] := hl
  rcases (show j = 0 ∨ j = 1 ∨ j = 2 ∨ j = 3 ∨ j = 4 ∨ j = 5 ∨ j = 6 ∨ j = 7 by omega) with rfl | rfl | rfl | rfl | rfl | rfl | rfl | rfl
  · skip
    have hl : lv_has ls 6 [(0, .ref h), (1, .int 0), (2, .int (nI a)), (3, .int (nI k)), (4, .int (nI b)), (5, .int (nI n))] := hl
    refine lv_aload_n hx hb dX5_move_0 rfl (lv_at hl 0 rfl) ?_
    refine va_get (D := (dC, dI)) (ci := 5) (v := .ref it) (C := RX5) (T := TX5) (N := 3) hx hb hts i_X5_move_X5 hown hK hP 0 rfl rfl 0 (by decide) (hts _ mx_X5_move_1) (fun _ h9 => h9) rfl dX5_move_1 ?_
    refine lv_iload_n hx hb dX5_move_4 rfl (lv_at hl 1 rfl) ?_
    refine nw_alk hx hb hK hP 1 3 rfl rfl 0 rfl (Nat.le_of_ble_eq_true rfl) (Nat.le_of_ble_eq_true rfl) hfi.1 dX5_move_5 ?_
    refine lv_iload_n hx hb dX5_move_6 rfl (lv_at hl 2 rfl) ?_
    rcases (show k = 0 ∨ k = 1 ∨ k = 2 ∨ k = 3 ∨ k = 4 ∨ k = 5 ∨ k = 6 ∨ k = 7 by omega) with rfl | rfl | rfl | rfl | rfl | rfl | rfl | rfl
    · skip
      have hl : lv_has ls 6 [(0, .ref h), (1, .int 0), (2, .int (nI a)), (3, .int 0), (4, .int (nI b)), (5, .int (nI n))] := hl
      refine lv_aload_n hx hb dX5_move_7 rfl (lv_at hl 0 rfl) ?_
      refine va_get (D := (dC, dI)) (ci := 5) (v := .ref it) (C := RX5) (T := TX5) (N := 3) hx hb hts i_X5_move_X5 hown hK hP 0 rfl rfl 0 (by decide) (hts _ mx_X5_move_1) (fun _ h9 => h9) rfl dX5_move_8 ?_
      refine lv_iload_n hx hb dX5_move_11 rfl (lv_at hl 3 rfl) ?_
      refine nw_alk hx hb hK hP 1 3 rfl rfl 0 rfl (Nat.le_of_ble_eq_true rfl) (Nat.le_of_ble_eq_true rfl) hfi.1 dX5_move_12 ?_
      refine lv_iload hx hb dX5_move_13 (lv_at hl 4 rfl) ?_
      refine lv_iload hx hb dX5_move_15 (lv_at hl 5 rfl) ?_
      refine va_copyN hx hb hml hl hown (hts _ mx_X5_move_2) (hts _ mx_X5_move_3) (hts _ mx_X5_move_4) (hts _ mx_X5_move_5) hK hP hD hS 2 2 rfl rfl rfl rfl (by omega) (by omega) (Nat.le_of_ble_eq_true rfl) (Nat.le_of_ble_eq_true rfl) (Nat.le_of_ble_eq_true rfl) (Nat.le_of_ble_eq_true rfl) dX5_move_17 (fun H locs hP hD hS => ?_)
      generalize hg_3 : va_cpy f0 f0 ((nI a) : Int32).toNatClampNeg ((nI b) : Int32).toNatClampNeg ((nI n) : Int32).toNatClampNeg = g_3 at hP hD
      have hP : va_P (dC, dI) vwCl [(xo_5_rrr h it la le), (xJ it cJ 8 fi), (xI y0 cI 40 g_3), (xI y1 cI 40 f1), (xI y2 cI 40 f2), (xI y3 cI 40 f3), (xI y4 cI 40 f4), (xI y5 cI 40 f5), (xI y6 cI 40 f6), (xI y7 cI 40 f7)] H := hP
      have hD := dto hP hD
      have hX9 := cut2 (wc := [(xo_5_rrr h it la le), (xJ it cJ 8 fi), (xI y0 cI 40 g_3), (xI y1 cI 40 f1), (xI y2 cI 40 f2), (xI y3 cI 40 f3), (xI y4 cI 40 f4), (xI y5 cI 40 f5), (xI y6 cI 40 f6), (xI y7 cI 40 f7)]) hP hD [0, 1, 2, 3, 4, 5, 6, 7, 8, 9] (by decide +kernel) rfl
      exact W.vret hx hb hr (fun t ht hW => ⟨⟨(), rfl, trivial, ⟨g_3, f1, f2, f3, f4, f5, f6, f7, va_Ht ht hX9.1, hX9.2⟩⟩, hS.F ht⟩) hS.2.2 dX5_move_20
    · skip
      have hl : lv_has ls 6 [(0, .ref h), (1, .int 0), (2, .int (nI a)), (3, .int 1), (4, .int (nI b)), (5, .int (nI n))] := hl
      refine lv_aload_n hx hb dX5_move_7 rfl (lv_at hl 0 rfl) ?_
      refine va_get (D := (dC, dI)) (ci := 5) (v := .ref it) (C := RX5) (T := TX5) (N := 3) hx hb hts i_X5_move_X5 hown hK hP 0 rfl rfl 0 (by decide) (hts _ mx_X5_move_1) (fun _ h9 => h9) rfl dX5_move_8 ?_
      refine lv_iload_n hx hb dX5_move_11 rfl (lv_at hl 3 rfl) ?_
      refine nw_alk hx hb hK hP 1 3 rfl rfl 1 rfl (Nat.le_of_ble_eq_true rfl) (Nat.le_of_ble_eq_true rfl) hfi.2.1 dX5_move_12 ?_
      refine lv_iload hx hb dX5_move_13 (lv_at hl 4 rfl) ?_
      refine lv_iload hx hb dX5_move_15 (lv_at hl 5 rfl) ?_
      refine va_copyN hx hb hml hl hown (hts _ mx_X5_move_2) (hts _ mx_X5_move_3) (hts _ mx_X5_move_4) (hts _ mx_X5_move_5) hK hP hD hS 2 3 rfl rfl rfl rfl (by omega) (by omega) (Nat.le_of_ble_eq_true rfl) (Nat.le_of_ble_eq_true rfl) (Nat.le_of_ble_eq_true rfl) (Nat.le_of_ble_eq_true rfl) dX5_move_17 (fun H locs hP hD hS => ?_)
      generalize hg_5 : va_cpy f0 f1 ((nI a) : Int32).toNatClampNeg ((nI b) : Int32).toNatClampNeg ((nI n) : Int32).toNatClampNeg = g_5 at hP hD
      have hP : va_P (dC, dI) vwCl [(xo_5_rrr h it la le), (xJ it cJ 8 fi), (xI y0 cI 40 f0), (xI y1 cI 40 g_5), (xI y2 cI 40 f2), (xI y3 cI 40 f3), (xI y4 cI 40 f4), (xI y5 cI 40 f5), (xI y6 cI 40 f6), (xI y7 cI 40 f7)] H := hP
      have hD := dto hP hD
      have hX9 := cut2 (wc := [(xo_5_rrr h it la le), (xJ it cJ 8 fi), (xI y0 cI 40 f0), (xI y1 cI 40 g_5), (xI y2 cI 40 f2), (xI y3 cI 40 f3), (xI y4 cI 40 f4), (xI y5 cI 40 f5), (xI y6 cI 40 f6), (xI y7 cI 40 f7)]) hP hD [0, 1, 2, 3, 4, 5, 6, 7, 8, 9] (by decide +kernel) rfl
      exact W.vret hx hb hr (fun t ht hW => ⟨⟨(), rfl, trivial, ⟨f0, g_5, f2, f3, f4, f5, f6, f7, va_Ht ht hX9.1, hX9.2⟩⟩, hS.F ht⟩) hS.2.2 dX5_move_20
    · skip
      have hl : lv_has ls 6 [(0, .ref h), (1, .int 0), (2, .int (nI a)), (3, .int 2), (4, .int (nI b)), (5, .int (nI n))] := hl
      refine lv_aload_n hx hb dX5_move_7 rfl (lv_at hl 0 rfl) ?_
      refine va_get (D := (dC, dI)) (ci := 5) (v := .ref it) (C := RX5) (T := TX5) (N := 3) hx hb hts i_X5_move_X5 hown hK hP 0 rfl rfl 0 (by decide) (hts _ mx_X5_move_1) (fun _ h9 => h9) rfl dX5_move_8 ?_
      refine lv_iload_n hx hb dX5_move_11 rfl (lv_at hl 3 rfl) ?_
      refine nw_alk hx hb hK hP 1 3 rfl rfl 2 rfl (Nat.le_of_ble_eq_true rfl) (Nat.le_of_ble_eq_true rfl) hfi.2.2.1 dX5_move_12 ?_
      refine lv_iload hx hb dX5_move_13 (lv_at hl 4 rfl) ?_
      refine lv_iload hx hb dX5_move_15 (lv_at hl 5 rfl) ?_
      refine va_copyN hx hb hml hl hown (hts _ mx_X5_move_2) (hts _ mx_X5_move_3) (hts _ mx_X5_move_4) (hts _ mx_X5_move_5) hK hP hD hS 2 4 rfl rfl rfl rfl (by omega) (by omega) (Nat.le_of_ble_eq_true rfl) (Nat.le_of_ble_eq_true rfl) (Nat.le_of_ble_eq_true rfl) (Nat.le_of_ble_eq_true rfl) dX5_move_17 (fun H locs hP hD hS => ?_)
      generalize hg_7 : va_cpy f0 f2 ((nI a) : Int32).toNatClampNeg ((nI b) : Int32).toNatClampNeg ((nI n) : Int32).toNatClampNeg = g_7 at hP hD
      have hP : va_P (dC, dI) vwCl [(xo_5_rrr h it la le), (xJ it cJ 8 fi), (xI y0 cI 40 f0), (xI y1 cI 40 f1), (xI y2 cI 40 g_7), (xI y3 cI 40 f3), (xI y4 cI 40 f4), (xI y5 cI 40 f5), (xI y6 cI 40 f6), (xI y7 cI 40 f7)] H := hP
      have hD := dto hP hD
      have hX9 := cut2 (wc := [(xo_5_rrr h it la le), (xJ it cJ 8 fi), (xI y0 cI 40 f0), (xI y1 cI 40 f1), (xI y2 cI 40 g_7), (xI y3 cI 40 f3), (xI y4 cI 40 f4), (xI y5 cI 40 f5), (xI y6 cI 40 f6), (xI y7 cI 40 f7)]) hP hD [0, 1, 2, 3, 4, 5, 6, 7, 8, 9] (by decide +kernel) rfl
      exact W.vret hx hb hr (fun t ht hW => ⟨⟨(), rfl, trivial, ⟨f0, f1, g_7, f3, f4, f5, f6, f7, va_Ht ht hX9.1, hX9.2⟩⟩, hS.F ht⟩) hS.2.2 dX5_move_20
    · skip
      have hl : lv_has ls 6 [(0, .ref h), (1, .int 0), (2, .int (nI a)), (3, .int 3), (4, .int (nI b)), (5, .int (nI n))] := hl
      refine lv_aload_n hx hb dX5_move_7 rfl (lv_at hl 0 rfl) ?_
      refine va_get (D := (dC, dI)) (ci := 5) (v := .ref it) (C := RX5) (T := TX5) (N := 3) hx hb hts i_X5_move_X5 hown hK hP 0 rfl rfl 0 (by decide) (hts _ mx_X5_move_1) (fun _ h9 => h9) rfl dX5_move_8 ?_
      refine lv_iload_n hx hb dX5_move_11 rfl (lv_at hl 3 rfl) ?_
      refine nw_alk hx hb hK hP 1 3 rfl rfl 3 rfl (Nat.le_of_ble_eq_true rfl) (Nat.le_of_ble_eq_true rfl) hfi.2.2.2.1 dX5_move_12 ?_
      refine lv_iload hx hb dX5_move_13 (lv_at hl 4 rfl) ?_
      refine lv_iload hx hb dX5_move_15 (lv_at hl 5 rfl) ?_
      refine va_copyN hx hb hml hl hown (hts _ mx_X5_move_2) (hts _ mx_X5_move_3) (hts _ mx_X5_move_4) (hts _ mx_X5_move_5) hK hP hD hS 2 5 rfl rfl rfl rfl (by omega) (by omega) (Nat.le_of_ble_eq_true rfl) (Nat.le_of_ble_eq_true rfl) (Nat.le_of_ble_eq_true rfl) (Nat.le_of_ble_eq_true rfl) dX5_move_17 (fun H locs hP hD hS => ?_)
      generalize hg_9 : va_cpy f0 f3 ((nI a) : Int32).toNatClampNeg ((nI b) : Int32).toNatClampNeg ((nI n) : Int32).toNatClampNeg = g_9 at hP hD
      have hP : va_P (dC, dI) vwCl [(xo_5_rrr h it la le), (xJ it cJ 8 fi), (xI y0 cI 40 f0), (xI y1 cI 40 f1), (xI y2 cI 40 f2), (xI y3 cI 40 g_9), (xI y4 cI 40 f4), (xI y5 cI 40 f5), (xI y6 cI 40 f6), (xI y7 cI 40 f7)] H := hP
      have hD := dto hP hD
      have hX9 := cut2 (wc := [(xo_5_rrr h it la le), (xJ it cJ 8 fi), (xI y0 cI 40 f0), (xI y1 cI 40 f1), (xI y2 cI 40 f2), (xI y3 cI 40 g_9), (xI y4 cI 40 f4), (xI y5 cI 40 f5), (xI y6 cI 40 f6), (xI y7 cI 40 f7)]) hP hD [0, 1, 2, 3, 4, 5, 6, 7, 8, 9] (by decide +kernel) rfl
      exact W.vret hx hb hr (fun t ht hW => ⟨⟨(), rfl, trivial, ⟨f0, f1, f2, g_9, f4, f5, f6, f7, va_Ht ht hX9.1, hX9.2⟩⟩, hS.F ht⟩) hS.2.2 dX5_move_20
    · skip
      have hl : lv_has ls 6 [(0, .ref h), (1, .int 0), (2, .int (nI a)), (3, .int 4), (4, .int (nI b)), (5, .int (nI n))] := hl
      refine lv_aload_n hx hb dX5_move_7 rfl (lv_at hl 0 rfl) ?_
      refine va_get (D := (dC, dI)) (ci := 5) (v := .ref it) (C := RX5) (T := TX5) (N := 3) hx hb hts i_X5_move_X5 hown hK hP 0 rfl rfl 0 (by decide) (hts _ mx_X5_move_1) (fun _ h9 => h9) rfl dX5_move_8 ?_
      refine lv_iload_n hx hb dX5_move_11 rfl (lv_at hl 3 rfl) ?_
      refine nw_alk hx hb hK hP 1 3 rfl rfl 4 rfl (Nat.le_of_ble_eq_true rfl) (Nat.le_of_ble_eq_true rfl) hfi.2.2.2.2.1 dX5_move_12 ?_
      refine lv_iload hx hb dX5_move_13 (lv_at hl 4 rfl) ?_
      refine lv_iload hx hb dX5_move_15 (lv_at hl 5 rfl) ?_
      refine va_copyN hx hb hml hl hown (hts _ mx_X5_move_2) (hts _ mx_X5_move_3) (hts _ mx_X5_move_4) (hts _ mx_X5_move_5) hK hP hD hS 2 6 rfl rfl rfl rfl (by omega) (by omega) (Nat.le_of_ble_eq_true rfl) (Nat.le_of_ble_eq_true rfl) (Nat.le_of_ble_eq_true rfl) (Nat.le_of_ble_eq_true rfl) dX5_move_17 (fun H locs hP hD hS => ?_)
      generalize hg_11 : va_cpy f0 f4 ((nI a) : Int32).toNatClampNeg ((nI b) : Int32).toNatClampNeg ((nI n) : Int32).toNatClampNeg = g_11 at hP hD
      have hP : va_P (dC, dI) vwCl [(xo_5_rrr h it la le), (xJ it cJ 8 fi), (xI y0 cI 40 f0), (xI y1 cI 40 f1), (xI y2 cI 40 f2), (xI y3 cI 40 f3), (xI y4 cI 40 g_11), (xI y5 cI 40 f5), (xI y6 cI 40 f6), (xI y7 cI 40 f7)] H := hP
      have hD := dto hP hD
      have hX9 := cut2 (wc := [(xo_5_rrr h it la le), (xJ it cJ 8 fi), (xI y0 cI 40 f0), (xI y1 cI 40 f1), (xI y2 cI 40 f2), (xI y3 cI 40 f3), (xI y4 cI 40 g_11), (xI y5 cI 40 f5), (xI y6 cI 40 f6), (xI y7 cI 40 f7)]) hP hD [0, 1, 2, 3, 4, 5, 6, 7, 8, 9] (by decide +kernel) rfl
      exact W.vret hx hb hr (fun t ht hW => ⟨⟨(), rfl, trivial, ⟨f0, f1, f2, f3, g_11, f5, f6, f7, va_Ht ht hX9.1, hX9.2⟩⟩, hS.F ht⟩) hS.2.2 dX5_move_20
    · skip
      have hl : lv_has ls 6 [(0, .ref h), (1, .int 0), (2, .int (nI a)), (3, .int 5), (4, .int (nI b)), (5, .int (nI n))] := hl
      refine lv_aload_n hx hb dX5_move_7 rfl (lv_at hl 0 rfl) ?_
      refine va_get (D := (dC, dI)) (ci := 5) (v := .ref it) (C := RX5) (T := TX5) (N := 3) hx hb hts i_X5_move_X5 hown hK hP 0 rfl rfl 0 (by decide) (hts _ mx_X5_move_1) (fun _ h9 => h9) rfl dX5_move_8 ?_
      refine lv_iload_n hx hb dX5_move_11 rfl (lv_at hl 3 rfl) ?_
      refine nw_alk hx hb hK hP 1 3 rfl rfl 5 rfl (Nat.le_of_ble_eq_true rfl) (Nat.le_of_ble_eq_true rfl) hfi.2.2.2.2.2.1 dX5_move_12 ?_
      refine lv_iload hx hb dX5_move_13 (lv_at hl 4 rfl) ?_
      refine lv_iload hx hb dX5_move_15 (lv_at hl 5 rfl) ?_
      refine va_copyN hx hb hml hl hown (hts _ mx_X5_move_2) (hts _ mx_X5_move_3) (hts _ mx_X5_move_4) (hts _ mx_X5_move_5) hK hP hD hS 2 7 rfl rfl rfl rfl (by omega) (by omega) (Nat.le_of_ble_eq_true rfl) (Nat.le_of_ble_eq_true rfl) (Nat.le_of_ble_eq_true rfl) (Nat.le_of_ble_eq_true rfl) dX5_move_17 (fun H locs hP hD hS => ?_)
      generalize hg_13 : va_cpy f0 f5 ((nI a) : Int32).toNatClampNeg ((nI b) : Int32).toNatClampNeg ((nI n) : Int32).toNatClampNeg = g_13 at hP hD
      have hP : va_P (dC, dI) vwCl [(xo_5_rrr h it la le), (xJ it cJ 8 fi), (xI y0 cI 40 f0), (xI y1 cI 40 f1), (xI y2 cI 40 f2), (xI y3 cI 40 f3), (xI y4 cI 40 f4), (xI y5 cI 40 g_13), (xI y6 cI 40 f6), (xI y7 cI 40 f7)] H := hP
      have hD := dto hP hD
      have hX9 := cut2 (wc := [(xo_5_rrr h it la le), (xJ it cJ 8 fi), (xI y0 cI 40 f0), (xI y1 cI 40 f1), (xI y2 cI 40 f2), (xI y3 cI 40 f3), (xI y4 cI 40 f4), (xI y5 cI 40 g_13), (xI y6 cI 40 f6), (xI y7 cI 40 f7)]) hP hD [0, 1, 2, 3, 4, 5, 6, 7, 8, 9] (by decide +kernel) rfl
      exact W.vret hx hb hr (fun t ht hW => ⟨⟨(), rfl, trivial, ⟨f0, f1, f2, f3, f4, g_13, f6, f7, va_Ht ht hX9.1, hX9.2⟩⟩, hS.F ht⟩) hS.2.2 dX5_move_20
    · skip
      have hl : lv_has ls 6 [(0, .ref h), (1, .int 0), (2, .int (nI a)), (3, .int 6), (4, .int (nI b)), (5, .int (nI n))] := hl
      refine lv_aload_n hx hb dX5_move_7 rfl (lv_at hl 0 rfl) ?_
      refine va_get (D := (dC, dI)) (ci := 5) (v := .ref it) (C := RX5) (T := TX5) (N := 3) hx hb hts i_X5_move_X5 hown hK hP 0 rfl rfl 0 (by decide) (hts _ mx_X5_move_1) (fun _ h9 => h9) rfl dX5_move_8 ?_
      refine lv_iload_n hx hb dX5_move_11 rfl (lv_at hl 3 rfl) ?_
      refine nw_alk hx hb hK hP 1 3 rfl rfl 6 rfl (Nat.le_of_ble_eq_true rfl) (Nat.le_of_ble_eq_true rfl) hfi.2.2.2.2.2.2.1 dX5_move_12 ?_
      refine lv_iload hx hb dX5_move_13 (lv_at hl 4 rfl) ?_
      refine lv_iload hx hb dX5_move_15 (lv_at hl 5 rfl) ?_
      refine va_copyN hx hb hml hl hown (hts _ mx_X5_move_2) (hts _ mx_X5_move_3) (hts _ mx_X5_move_4) (hts _ mx_X5_move_5) hK hP hD hS 2 8 rfl rfl rfl rfl (by omega) (by omega) (Nat.le_of_ble_eq_true rfl) (Nat.le_of_ble_eq_true rfl) (Nat.le_of_ble_eq_true rfl) (Nat.le_of_ble_eq_true rfl) dX5_move_17 (fun H locs hP hD hS => ?_)
      generalize hg_15 : va_cpy f0 f6 ((nI a) : Int32).toNatClampNeg ((nI b) : Int32).toNatClampNeg ((nI n) : Int32).toNatClampNeg = g_15 at hP hD
      have hP : va_P (dC, dI) vwCl [(xo_5_rrr h it la le), (xJ it cJ 8 fi), (xI y0 cI 40 f0), (xI y1 cI 40 f1), (xI y2 cI 40 f2), (xI y3 cI 40 f3), (xI y4 cI 40 f4), (xI y5 cI 40 f5), (xI y6 cI 40 g_15), (xI y7 cI 40 f7)] H := hP
      have hD := dto hP hD
      have hX9 := cut2 (wc := [(xo_5_rrr h it la le), (xJ it cJ 8 fi), (xI y0 cI 40 f0), (xI y1 cI 40 f1), (xI y2 cI 40 f2), (xI y3 cI 40 f3), (xI y4 cI 40 f4), (xI y5 cI 40 f5), (xI y6 cI 40 g_15), (xI y7 cI 40 f7)]) hP hD [0, 1, 2, 3, 4, 5, 6, 7, 8, 9] (by decide +kernel) rfl
      exact W.vret hx hb hr (fun t ht hW => ⟨⟨(), rfl, trivial, ⟨f0, f1, f2, f3, f4, f5, g_15, f7, va_Ht ht hX9.1, hX9.2⟩⟩, hS.F ht⟩) hS.2.2 dX5_move_20
    · skip
      have hl : lv_has ls 6 [(0, .ref h), (1, .int 0), (2, .int (nI a)), (3, .int 7), (4, .int (nI b)), (5, .int (nI n))] := hl
      refine lv_aload_n hx hb dX5_move_7 rfl (lv_at hl 0 rfl) ?_
      refine va_get (D := (dC, dI)) (ci := 5) (v := .ref it) (C := RX5) (T := TX5) (N := 3) hx hb hts i_X5_move_X5 hown hK hP 0 rfl rfl 0 (by decide) (hts _ mx_X5_move_1) (fun _ h9 => h9) rfl dX5_move_8 ?_
      refine lv_iload_n hx hb dX5_move_11 rfl (lv_at hl 3 rfl) ?_
      refine nw_alk hx hb hK hP 1 3 rfl rfl 7 rfl (Nat.le_of_ble_eq_true rfl) (Nat.le_of_ble_eq_true rfl) hfi.2.2.2.2.2.2.2 dX5_move_12 ?_
      refine lv_iload hx hb dX5_move_13 (lv_at hl 4 rfl) ?_
      refine lv_iload hx hb dX5_move_15 (lv_at hl 5 rfl) ?_
      refine va_copyN hx hb hml hl hown (hts _ mx_X5_move_2) (hts _ mx_X5_move_3) (hts _ mx_X5_move_4) (hts _ mx_X5_move_5) hK hP hD hS 2 9 rfl rfl rfl rfl (by omega) (by omega) (Nat.le_of_ble_eq_true rfl) (Nat.le_of_ble_eq_true rfl) (Nat.le_of_ble_eq_true rfl) (Nat.le_of_ble_eq_true rfl) dX5_move_17 (fun H locs hP hD hS => ?_)
      generalize hg_17 : va_cpy f0 f7 ((nI a) : Int32).toNatClampNeg ((nI b) : Int32).toNatClampNeg ((nI n) : Int32).toNatClampNeg = g_17 at hP hD
      have hP : va_P (dC, dI) vwCl [(xo_5_rrr h it la le), (xJ it cJ 8 fi), (xI y0 cI 40 f0), (xI y1 cI 40 f1), (xI y2 cI 40 f2), (xI y3 cI 40 f3), (xI y4 cI 40 f4), (xI y5 cI 40 f5), (xI y6 cI 40 f6), (xI y7 cI 40 g_17)] H := hP
      have hD := dto hP hD
      have hX9 := cut2 (wc := [(xo_5_rrr h it la le), (xJ it cJ 8 fi), (xI y0 cI 40 f0), (xI y1 cI 40 f1), (xI y2 cI 40 f2), (xI y3 cI 40 f3), (xI y4 cI 40 f4), (xI y5 cI 40 f5), (xI y6 cI 40 f6), (xI y7 cI 40 g_17)]) hP hD [0, 1, 2, 3, 4, 5, 6, 7, 8, 9] (by decide +kernel) rfl
      exact W.vret hx hb hr (fun t ht hW => ⟨⟨(), rfl, trivial, ⟨f0, f1, f2, f3, f4, f5, f6, g_17, va_Ht ht hX9.1, hX9.2⟩⟩, hS.F ht⟩) hS.2.2 dX5_move_20
  · skip
    have hl : lv_has ls 6 [(0, .ref h), (1, .int 1), (2, .int (nI a)), (3, .int (nI k)), (4, .int (nI b)), (5, .int (nI n))] := hl
    refine lv_aload_n hx hb dX5_move_0 rfl (lv_at hl 0 rfl) ?_
    refine va_get (D := (dC, dI)) (ci := 5) (v := .ref it) (C := RX5) (T := TX5) (N := 3) hx hb hts i_X5_move_X5 hown hK hP 0 rfl rfl 0 (by decide) (hts _ mx_X5_move_1) (fun _ h9 => h9) rfl dX5_move_1 ?_
    refine lv_iload_n hx hb dX5_move_4 rfl (lv_at hl 1 rfl) ?_
    refine nw_alk hx hb hK hP 1 3 rfl rfl 1 rfl (Nat.le_of_ble_eq_true rfl) (Nat.le_of_ble_eq_true rfl) hfi.2.1 dX5_move_5 ?_
    refine lv_iload_n hx hb dX5_move_6 rfl (lv_at hl 2 rfl) ?_
    rcases (show k = 0 ∨ k = 1 ∨ k = 2 ∨ k = 3 ∨ k = 4 ∨ k = 5 ∨ k = 6 ∨ k = 7 by omega) with rfl | rfl | rfl | rfl | rfl | rfl | rfl | rfl
    · skip
      have hl : lv_has ls 6 [(0, .ref h), (1, .int 1), (2, .int (nI a)), (3, .int 0), (4, .int (nI b)), (5, .int (nI n))] := hl
      refine lv_aload_n hx hb dX5_move_7 rfl (lv_at hl 0 rfl) ?_
      refine va_get (D := (dC, dI)) (ci := 5) (v := .ref it) (C := RX5) (T := TX5) (N := 3) hx hb hts i_X5_move_X5 hown hK hP 0 rfl rfl 0 (by decide) (hts _ mx_X5_move_1) (fun _ h9 => h9) rfl dX5_move_8 ?_
      refine lv_iload_n hx hb dX5_move_11 rfl (lv_at hl 3 rfl) ?_
      refine nw_alk hx hb hK hP 1 3 rfl rfl 0 rfl (Nat.le_of_ble_eq_true rfl) (Nat.le_of_ble_eq_true rfl) hfi.1 dX5_move_12 ?_
      refine lv_iload hx hb dX5_move_13 (lv_at hl 4 rfl) ?_
      refine lv_iload hx hb dX5_move_15 (lv_at hl 5 rfl) ?_
      refine va_copyN hx hb hml hl hown (hts _ mx_X5_move_2) (hts _ mx_X5_move_3) (hts _ mx_X5_move_4) (hts _ mx_X5_move_5) hK hP hD hS 3 2 rfl rfl rfl rfl (by omega) (by omega) (Nat.le_of_ble_eq_true rfl) (Nat.le_of_ble_eq_true rfl) (Nat.le_of_ble_eq_true rfl) (Nat.le_of_ble_eq_true rfl) dX5_move_17 (fun H locs hP hD hS => ?_)
      generalize hg_20 : va_cpy f1 f0 ((nI a) : Int32).toNatClampNeg ((nI b) : Int32).toNatClampNeg ((nI n) : Int32).toNatClampNeg = g_20 at hP hD
      have hP : va_P (dC, dI) vwCl [(xo_5_rrr h it la le), (xJ it cJ 8 fi), (xI y0 cI 40 g_20), (xI y1 cI 40 f1), (xI y2 cI 40 f2), (xI y3 cI 40 f3), (xI y4 cI 40 f4), (xI y5 cI 40 f5), (xI y6 cI 40 f6), (xI y7 cI 40 f7)] H := hP
      have hD := dto hP hD
      have hX9 := cut2 (wc := [(xo_5_rrr h it la le), (xJ it cJ 8 fi), (xI y0 cI 40 g_20), (xI y1 cI 40 f1), (xI y2 cI 40 f2), (xI y3 cI 40 f3), (xI y4 cI 40 f4), (xI y5 cI 40 f5), (xI y6 cI 40 f6), (xI y7 cI 40 f7)]) hP hD [0, 1, 2, 3, 4, 5, 6, 7, 8, 9] (by decide +kernel) rfl
      exact W.vret hx hb hr (fun t ht hW => ⟨⟨(), rfl, trivial, ⟨g_20, f1, f2, f3, f4, f5, f6, f7, va_Ht ht hX9.1, hX9.2⟩⟩, hS.F ht⟩) hS.2.2 dX5_move_20
    · skip
      have hl : lv_has ls 6 [(0, .ref h), (1, .int 1), (2, .int (nI a)), (3, .int 1), (4, .int (nI b)), (5, .int (nI n))] := hl
      refine lv_aload_n hx hb dX5_move_7 rfl (lv_at hl 0 rfl) ?_
      refine va_get (D := (dC, dI)) (ci := 5) (v := .ref it) (C := RX5) (T := TX5) (N := 3) hx hb hts i_X5_move_X5 hown hK hP 0 rfl rfl 0 (by decide) (hts _ mx_X5_move_1) (fun _ h9 => h9) rfl dX5_move_8 ?_
      refine lv_iload_n hx hb dX5_move_11 rfl (lv_at hl 3 rfl) ?_
      refine nw_alk hx hb hK hP 1 3 rfl rfl 1 rfl (Nat.le_of_ble_eq_true rfl) (Nat.le_of_ble_eq_true rfl) hfi.2.1 dX5_move_12 ?_
      refine lv_iload hx hb dX5_move_13 (lv_at hl 4 rfl) ?_
      refine lv_iload hx hb dX5_move_15 (lv_at hl 5 rfl) ?_
      refine va_copyN hx hb hml hl hown (hts _ mx_X5_move_2) (hts _ mx_X5_move_3) (hts _ mx_X5_move_4) (hts _ mx_X5_move_5) hK hP hD hS 3 3 rfl rfl rfl rfl (by omega) (by omega) (Nat.le_of_ble_eq_true rfl) (Nat.le_of_ble_eq_true rfl) (Nat.le_of_ble_eq_true rfl) (Nat.le_of_ble_eq_true rfl) dX5_move_17 (fun H locs hP hD hS => ?_)
      generalize hg_22 : va_cpy f1 f1 ((nI a) : Int32).toNatClampNeg ((nI b) : Int32).toNatClampNeg ((nI n) : Int32).toNatClampNeg = g_22 at hP hD
      have hP : va_P (dC, dI) vwCl [(xo_5_rrr h it la le), (xJ it cJ 8 fi), (xI y0 cI 40 f0), (xI y1 cI 40 g_22), (xI y2 cI 40 f2), (xI y3 cI 40 f3), (xI y4 cI 40 f4), (xI y5 cI 40 f5), (xI y6 cI 40 f6), (xI y7 cI 40 f7)] H := hP
      have hD := dto hP hD
      have hX9 := cut2 (wc := [(xo_5_rrr h it la le), (xJ it cJ 8 fi), (xI y0 cI 40 f0), (xI y1 cI 40 g_22), (xI y2 cI 40 f2), (xI y3 cI 40 f3), (xI y4 cI 40 f4), (xI y5 cI 40 f5), (xI y6 cI 40 f6), (xI y7 cI 40 f7)]) hP hD [0, 1, 2, 3, 4, 5, 6, 7, 8, 9] (by decide +kernel) rfl
      exact W.vret hx hb hr (fun t ht hW => ⟨⟨(), rfl, trivial, ⟨f0, g_22, f2, f3, f4, f5, f6, f7, va_Ht ht hX9.1, hX9.2⟩⟩, hS.F ht⟩) hS.2.2 dX5_move_20
    · skip
      have hl : lv_has ls 6 [(0, .ref h), (1, .int 1), (2, .int (nI a)), (3, .int 2), (4, .int (nI b)), (5, .int (nI n))] := hl
      refine lv_aload_n hx hb dX5_move_7 rfl (lv_at hl 0 rfl) ?_
      refine va_get (D := (dC, dI)) (ci := 5) (v := .ref it) (C := RX5) (T := TX5) (N := 3) hx hb hts i_X5_move_X5 hown hK hP 0 rfl rfl 0 (by decide) (hts _ mx_X5_move_1) (fun _ h9 => h9) rfl dX5_move_8 ?_
      refine lv_iload_n hx hb dX5_move_11 rfl (lv_at hl 3 rfl) ?_
      refine nw_alk hx hb hK hP 1 3 rfl rfl 2 rfl (Nat.le_of_ble_eq_true rfl) (Nat.le_of_ble_eq_true rfl) hfi.2.2.1 dX5_move_12 ?_
      refine lv_iload hx hb dX5_move_13 (lv_at hl 4 rfl) ?_
      refine lv_iload hx hb dX5_move_15 (lv_at hl 5 rfl) ?_
      refine va_copyN hx hb hml hl hown (hts _ mx_X5_move_2) (hts _ mx_X5_move_3) (hts _ mx_X5_move_4) (hts _ mx_X5_move_5) hK hP hD hS 3 4 rfl rfl rfl rfl (by omega) (by omega) (Nat.le_of_ble_eq_true rfl) (Nat.le_of_ble_eq_true rfl) (Nat.le_of_ble_eq_true rfl) (Nat.le_of_ble_eq_true rfl) dX5_move_17 (fun H locs hP hD hS => ?_)
      generalize hg_24 : va_cpy f1 f2 ((nI a) : Int32).toNatClampNeg ((nI b) : Int32).toNatClampNeg ((nI n) : Int32).toNatClampNeg = g_24 at hP hD
      have hP : va_P (dC, dI) vwCl [(xo_5_rrr h it la le), (xJ it cJ 8 fi), (xI y0 cI 40 f0), (xI y1 cI 40 f1), (xI y2 cI 40 g_24), (xI y3 cI 40 f3), (xI y4 cI 40 f4), (xI y5 cI 40 f5), (xI y6 cI 40 f6), (xI y7 cI 40 f7)] H := hP
      have hD := dto hP hD
      have hX9 := cut2 (wc := [(xo_5_rrr h it la le), (xJ it cJ 8 fi), (xI y0 cI 40 f0), (xI y1 cI 40 f1), (xI y2 cI 40 g_24), (xI y3 cI 40 f3), (xI y4 cI 40 f4), (xI y5 cI 40 f5), (xI y6 cI 40 f6), (xI y7 cI 40 f7)]) hP hD [0, 1, 2, 3, 4, 5, 6, 7, 8, 9] (by decide +kernel) rfl
      exact W.vret hx hb hr (fun t ht hW => ⟨⟨(), rfl, trivial, ⟨f0, f1, g_24, f3, f4, f5, f6, f7, va_Ht ht hX9.1, hX9.2⟩⟩, hS.F ht⟩) hS.2.2 dX5_move_20
    · skip
      have hl : lv_has ls 6 [(0, .ref h), (1, .int 1), (2, .int (nI a)), (3, .int 3), (4, .int (nI b)), (5, .int (nI n))] := hl
      refine lv_aload_n hx hb dX5_move_7 rfl (lv_at hl 0 rfl) ?_
      refine va_get (D := (dC, dI)) (ci := 5) (v := .ref it) (C := RX5) (T := TX5) (N := 3) hx hb hts i_X5_move_X5 hown hK hP 0 rfl rfl 0 (by decide) (hts _ mx_X5_move_1) (fun _ h9 => h9) rfl dX5_move_8 ?_
      refine lv_iload_n hx hb dX5_move_11 rfl (lv_at hl 3 rfl) ?_
      refine nw_alk hx hb hK hP 1 3 rfl rfl 3 rfl (Nat.le_of_ble_eq_true rfl) (Nat.le_of_ble_eq_true rfl) hfi.2.2.2.1 dX5_move_12 ?_
      refine lv_iload hx hb dX5_move_13 (lv_at hl 4 rfl) ?_
      refine lv_iload hx hb dX5_move_15 (lv_at hl 5 rfl) ?_
      refine va_copyN hx hb hml hl hown (hts _ mx_X5_move_2) (hts _ mx_X5_move_3) (hts _ mx_X5_move_4) (hts _ mx_X5_move_5) hK hP hD hS 3 5 rfl rfl rfl rfl (by omega) (by omega) (Nat.le_of_ble_eq_true rfl) (Nat.le_of_ble_eq_true rfl) (Nat.le_of_ble_eq_true rfl) (Nat.le_of_ble_eq_true rfl) dX5_move_17 (fun H locs hP hD hS => ?_)
      generalize hg_26 : va_cpy f1 f3 ((nI a) : Int32).toNatClampNeg ((nI b) : Int32).toNatClampNeg ((nI n) : Int32).toNatClampNeg = g_26 at hP hD
      have hP : va_P (dC, dI) vwCl [(xo_5_rrr h it la le), (xJ it cJ 8 fi), (xI y0 cI 40 f0), (xI y1 cI 40 f1), (xI y2 cI 40 f2), (xI y3 cI 40 g_26), (xI y4 cI 40 f4), (xI y5 cI 40 f5), (xI y6 cI 40 f6), (xI y7 cI 40 f7)] H := hP
      have hD := dto hP hD
      have hX9 := cut2 (wc := [(xo_5_rrr h it la le), (xJ it cJ 8 fi), (xI y0 cI 40 f0), (xI y1 cI 40 f1), (xI y2 cI 40 f2), (xI y3 cI 40 g_26), (xI y4 cI 40 f4), (xI y5 cI 40 f5), (xI y6 cI 40 f6), (xI y7 cI 40 f7)]) hP hD [0, 1, 2, 3, 4, 5, 6, 7, 8, 9] (by decide +kernel) rfl
      exact W.vret hx hb hr (fun t ht hW => ⟨⟨(), rfl, trivial, ⟨f0, f1, f2, g_26, f4, f5, f6, f7, va_Ht ht hX9.1, hX9.2⟩⟩, hS.F ht⟩) hS.2.2 dX5_move_20
    · skip
      have hl : lv_has ls 6 [(0, .ref h), (1, .int 1), (2, .int (nI a)), (3, .int 4), (4, .int (nI b)), (5, .int (nI n))] := hl
      refine lv_aload_n hx hb dX5_move_7 rfl (lv_at hl 0 rfl) ?_
      refine va_get (D := (dC, dI)) (ci := 5) (v := .ref it) (C := RX5) (T := TX5) (N := 3) hx hb hts i_X5_move_X5 hown hK hP 0 rfl rfl 0 (by decide) (hts _ mx_X5_move_1) (fun _ h9 => h9) rfl dX5_move_8 ?_
      refine lv_iload_n hx hb dX5_move_11 rfl (lv_at hl 3 rfl) ?_
      refine nw_alk hx hb hK hP 1 3 rfl rfl 4 rfl (Nat.le_of_ble_eq_true rfl) (Nat.le_of_ble_eq_true rfl) hfi.2.2.2.2.1 dX5_move_12 ?_
      refine lv_iload hx hb dX5_move_13 (lv_at hl 4 rfl) ?_
      refine lv_iload hx hb dX5_move_15 (lv_at hl 5 rfl) ?_
      refine va_copyN hx hb hml hl hown (hts _ mx_X5_move_2) (hts _ mx_X5_move_3) (hts _ mx_X5_move_4) (hts _ mx_X5_move_5) hK hP hD hS 3 6 rfl rfl rfl rfl (by omega) (by omega) (Nat.le_of_ble_eq_true rfl) (Nat.le_of_ble_eq_true rfl) (Nat.le_of_ble_eq_true rfl) (Nat.le_of_ble_eq_true rfl) dX5_move_17 (fun H locs hP hD hS => ?_)
      generalize hg_28 : va_cpy f1 f4 ((nI a) : Int32).toNatClampNeg ((nI b) : Int32).toNatClampNeg ((nI n) : Int32).toNatClampNeg = g_28 at hP hD
      have hP : va_P (dC, dI) vwCl [(xo_5_rrr h it la le), (xJ it cJ 8 fi), (xI y0 cI 40 f0), (xI y1 cI 40 f1), (xI y2 cI 40 f2), (xI y3 cI 40 f3), (xI y4 cI 40 g_28), (xI y5 cI 40 f5), (xI y6 cI 40 f6), (xI y7 cI 40 f7)] H := hP
      have hD := dto hP hD
      have hX9 := cut2 (wc := [(xo_5_rrr h it la le), (xJ it cJ 8 fi), (xI y0 cI 40 f0), (xI y1 cI 40 f1), (xI y2 cI 40 f2), (xI y3 cI 40 f3), (xI y4 cI 40 g_28), (xI y5 cI 40 f5), (xI y6 cI 40 f6), (xI y7 cI 40 f7)]) hP hD [0, 1, 2, 3, 4, 5, 6, 7, 8, 9] (by decide +kernel) rfl
      exact W.vret hx hb hr (fun t ht hW => ⟨⟨(), rfl, trivial, ⟨f0, f1, f2, f3, g_28, f5, f6, f7, va_Ht ht hX9.1, hX9.2⟩⟩, hS.F ht⟩) hS.2.2 dX5_move_20
    · skip
      have hl : lv_has ls 6 [(0, .ref h), (1, .int 1), (2, .int (nI a)), (3, .int 5), (4, .int (nI b)), (5, .int (nI n))] := hl
      refine lv_aload_n hx hb dX5_move_7 rfl (lv_at hl 0 rfl) ?_
      refine va_get (D := (dC, dI)) (ci := 5) (v := .ref it) (C := RX5) (T := TX5) (N := 3) hx hb hts i_X5_move_X5 hown hK hP 0 rfl rfl 0 (by decide) (hts _ mx_X5_move_1) (fun _ h9 => h9) rfl dX5_move_8 ?_
      refine lv_iload_n hx hb dX5_move_11 rfl (lv_at hl 3 rfl) ?_
      refine nw_alk hx hb hK hP 1 3 rfl rfl 5 rfl (Nat.le_of_ble_eq_true rfl) (Nat.le_of_ble_eq_true rfl) hfi.2.2.2.2.2.1 dX5_move_12 ?_
      refine lv_iload hx hb dX5_move_13 (lv_at hl 4 rfl) ?_
      refine lv_iload hx hb dX5_move_15 (lv_at hl 5 rfl) ?_
      refine va_copyN hx hb hml hl hown (hts _ mx_X5_move_2) (hts _ mx_X5_move_3) (hts _ mx_X5_move_4) (hts _ mx_X5_move_5) hK hP hD hS 3 7 rfl rfl rfl rfl (by omega) (by omega) (Nat.le_of_ble_eq_true rfl) (Nat.le_of_ble_eq_true rfl) (Nat.le_of_ble_eq_true rfl) (Nat.le_of_ble_eq_true rfl) dX5_move_17 (fun H locs hP hD hS => ?_)
      generalize hg_30 : va_cpy f1 f5 ((nI a) : Int32).toNatClampNeg ((nI b) : Int32).toNatClampNeg ((nI n) : Int32).toNatClampNeg = g_30 at hP hD
      have hP : va_P (dC, dI) vwCl [(xo_5_rrr h it la le), (xJ it cJ 8 fi), (xI y0 cI 40 f0), (xI y1 cI 40 f1), (xI y2 cI 40 f2), (xI y3 cI 40 f3), (xI y4 cI 40 f4), (xI y5 cI 40 g_30), (xI y6 cI 40 f6), (xI y7 cI 40 f7)] H := hP
      have hD := dto hP hD
      have hX9 := cut2 (wc := [(xo_5_rrr h it la le), (xJ it cJ 8 fi), (xI y0 cI 40 f0), (xI y1 cI 40 f1), (xI y2 cI 40 f2), (xI y3 cI 40 f3), (xI y4 cI 40 f4), (xI y5 cI 40 g_30), (xI y6 cI 40 f6), (xI y7 cI 40 f7)]) hP hD [0, 1, 2, 3, 4, 5, 6, 7, 8, 9] (by decide +kernel) rfl
      exact W.vret hx hb hr (fun t ht hW => ⟨⟨(), rfl, trivial, ⟨f0, f1, f2, f3, f4, g_30, f6, f7, va_Ht ht hX9.1, hX9.2⟩⟩, hS.F ht⟩) hS.2.2 dX5_move_20
    · skip
      have hl : lv_has ls 6 [(0, .ref h), (1, .int 1), (2, .int (nI a)), (3, .int 6), (4, .int (nI b)), (5, .int (nI n))] := hl
      refine lv_aload_n hx hb dX5_move_7 rfl (lv_at hl 0 rfl) ?_
      refine va_get (D := (dC, dI)) (ci := 5) (v := .ref it) (C := RX5) (T := TX5) (N := 3) hx hb hts i_X5_move_X5 hown hK hP 0 rfl rfl 0 (by decide) (hts _ mx_X5_move_1) (fun _ h9 => h9) rfl dX5_move_8 ?_
      refine lv_iload_n hx hb dX5_move_11 rfl (lv_at hl 3 rfl) ?_
      refine nw_alk hx hb hK hP 1 3 rfl rfl 6 rfl (Nat.le_of_ble_eq_true rfl) (Nat.le_of_ble_eq_true rfl) hfi.2.2.2.2.2.2.1 dX5_move_12 ?_
      refine lv_iload hx hb dX5_move_13 (lv_at hl 4 rfl) ?_
      refine lv_iload hx hb dX5_move_15 (lv_at hl 5 rfl) ?_
      refine va_copyN hx hb hml hl hown (hts _ mx_X5_move_2) (hts _ mx_X5_move_3) (hts _ mx_X5_move_4) (hts _ mx_X5_move_5) hK hP hD hS 3 8 rfl rfl rfl rfl (by omega) (by omega) (Nat.le_of_ble_eq_true rfl) (Nat.le_of_ble_eq_true rfl) (Nat.le_of_ble_eq_true rfl) (Nat.le_of_ble_eq_true rfl) dX5_move_17 (fun H locs hP hD hS => ?_)
      generalize hg_32 : va_cpy f1 f6 ((nI a) : Int32).toNatClampNeg ((nI b) : Int32).toNatClampNeg ((nI n) : Int32).toNatClampNeg = g_32 at hP hD
      have hP : va_P (dC, dI) vwCl [(xo_5_rrr h it la le), (xJ it cJ 8 fi), (xI y0 cI 40 f0), (xI y1 cI 40 f1), (xI y2 cI 40 f2), (xI y3 cI 40 f3), (xI y4 cI 40 f4), (xI y5 cI 40 f5), (xI y6 cI 40 g_32), (xI y7 cI 40 f7)] H := hP
      have hD := dto hP hD
      have hX9 := cut2 (wc := [(xo_5_rrr h it la le), (xJ it cJ 8 fi), (xI y0 cI 40 f0), (xI y1 cI 40 f1), (xI y2 cI 40 f2), (xI y3 cI 40 f3), (xI y4 cI 40 f4), (xI y5 cI 40 f5), (xI y6 cI 40 g_32), (xI y7 cI 40 f7)]) hP hD [0, 1, 2, 3, 4, 5, 6, 7, 8, 9] (by decide +kernel) rfl
      exact W.vret hx hb hr (fun t ht hW => ⟨⟨(), rfl, trivial, ⟨f0, f1, f2, f3, f4, f5, g_32, f7, va_Ht ht hX9.1, hX9.2⟩⟩, hS.F ht⟩) hS.2.2 dX5_move_20
    · skip
      have hl : lv_has ls 6 [(0, .ref h), (1, .int 1), (2, .int (nI a)), (3, .int 7), (4, .int (nI b)), (5, .int (nI n))] := hl
      refine lv_aload_n hx hb dX5_move_7 rfl (lv_at hl 0 rfl) ?_
      refine va_get (D := (dC, dI)) (ci := 5) (v := .ref it) (C := RX5) (T := TX5) (N := 3) hx hb hts i_X5_move_X5 hown hK hP 0 rfl rfl 0 (by decide) (hts _ mx_X5_move_1) (fun _ h9 => h9) rfl dX5_move_8 ?_
      refine lv_iload_n hx hb dX5_move_11 rfl (lv_at hl 3 rfl) ?_
      refine nw_alk hx hb hK hP 1 3 rfl rfl 7 rfl (Nat.le_of_ble_eq_true rfl) (Nat.le_of_ble_eq_true rfl) hfi.2.2.2.2.2.2.2 dX5_move_12 ?_
      refine lv_iload hx hb dX5_move_13 (lv_at hl 4 rfl) ?_
      refine lv_iload hx hb dX5_move_15 (lv_at hl 5 rfl) ?_
      refine va_copyN hx hb hml hl hown (hts _ mx_X5_move_2) (hts _ mx_X5_move_3) (hts _ mx_X5_move_4) (hts _ mx_X5_move_5) hK hP hD hS 3 9 rfl rfl rfl rfl (by omega) (by omega) (Nat.le_of_ble_eq_true rfl) (Nat.le_of_ble_eq_true rfl) (Nat.le_of_ble_eq_true rfl) (Nat.le_of_ble_eq_true rfl) dX5_move_17 (fun H locs hP hD hS => ?_)
      generalize hg_34 : va_cpy f1 f7 ((nI a) : Int32).toNatClampNeg ((nI b) : Int32).toNatClampNeg ((nI n) : Int32).toNatClampNeg = g_34 at hP hD
      have hP : va_P (dC, dI) vwCl [(xo_5_rrr h it la le), (xJ it cJ 8 fi), (xI y0 cI 40 f0), (xI y1 cI 40 f1), (xI y2 cI 40 f2), (xI y3 cI 40 f3), (xI y4 cI 40 f4), (xI y5 cI 40 f5), (xI y6 cI 40 f6), (xI y7 cI 40 g_34)] H := hP
      have hD := dto hP hD
      have hX9 := cut2 (wc := [(xo_5_rrr h it la le), (xJ it cJ 8 fi), (xI y0 cI 40 f0), (xI y1 cI 40 f1), (xI y2 cI 40 f2), (xI y3 cI 40 f3), (xI y4 cI 40 f4), (xI y5 cI 40 f5), (xI y6 cI 40 f6), (xI y7 cI 40 g_34)]) hP hD [0, 1, 2, 3, 4, 5, 6, 7, 8, 9] (by decide +kernel) rfl
      exact W.vret hx hb hr (fun t ht hW => ⟨⟨(), rfl, trivial, ⟨f0, f1, f2, f3, f4, f5, f6, g_34, va_Ht ht hX9.1, hX9.2⟩⟩, hS.F ht⟩) hS.2.2 dX5_move_20
  · skip
    have hl : lv_has ls 6 [(0, .ref h), (1, .int 2), (2, .int (nI a)), (3, .int (nI k)), (4, .int (nI b)), (5, .int (nI n))] := hl
    refine lv_aload_n hx hb dX5_move_0 rfl (lv_at hl 0 rfl) ?_
    refine va_get (D := (dC, dI)) (ci := 5) (v := .ref it) (C := RX5) (T := TX5) (N := 3) hx hb hts i_X5_move_X5 hown hK hP 0 rfl rfl 0 (by decide) (hts _ mx_X5_move_1) (fun _ h9 => h9) rfl dX5_move_1 ?_
    refine lv_iload_n hx hb dX5_move_4 rfl (lv_at hl 1 rfl) ?_
    refine nw_alk hx hb hK hP 1 3 rfl rfl 2 rfl (Nat.le_of_ble_eq_true rfl) (Nat.le_of_ble_eq_true rfl) hfi.2.2.1 dX5_move_5 ?_
    refine lv_iload_n hx hb dX5_move_6 rfl (lv_at hl 2 rfl) ?_
    rcases (show k = 0 ∨ k = 1 ∨ k = 2 ∨ k = 3 ∨ k = 4 ∨ k = 5 ∨ k = 6 ∨ k = 7 by omega) with rfl | rfl | rfl | rfl | rfl | rfl | rfl | rfl
    · skip
      have hl : lv_has ls 6 [(0, .ref h), (1, .int 2), (2, .int (nI a)), (3, .int 0), (4, .int (nI b)), (5, .int (nI n))] := hl
      refine lv_aload_n hx hb dX5_move_7 rfl (lv_at hl 0 rfl) ?_
      refine va_get (D := (dC, dI)) (ci := 5) (v := .ref it) (C := RX5) (T := TX5) (N := 3) hx hb hts i_X5_move_X5 hown hK hP 0 rfl rfl 0 (by decide) (hts _ mx_X5_move_1) (fun _ h9 => h9) rfl dX5_move_8 ?_
      refine lv_iload_n hx hb dX5_move_11 rfl (lv_at hl 3 rfl) ?_
      refine nw_alk hx hb hK hP 1 3 rfl rfl 0 rfl (Nat.le_of_ble_eq_true rfl) (Nat.le_of_ble_eq_true rfl) hfi.1 dX5_move_12 ?_
      refine lv_iload hx hb dX5_move_13 (lv_at hl 4 rfl) ?_
      refine lv_iload hx hb dX5_move_15 (lv_at hl 5 rfl) ?_
      refine va_copyN hx hb hml hl hown (hts _ mx_X5_move_2) (hts _ mx_X5_move_3) (hts _ mx_X5_move_4) (hts _ mx_X5_move_5) hK hP hD hS 4 2 rfl rfl rfl rfl (by omega) (by omega) (Nat.le_of_ble_eq_true rfl) (Nat.le_of_ble_eq_true rfl) (Nat.le_of_ble_eq_true rfl) (Nat.le_of_ble_eq_true rfl) dX5_move_17 (fun H locs hP hD hS => ?_)
      generalize hg_37 : va_cpy f2 f0 ((nI a) : Int32).toNatClampNeg ((nI b) : Int32).toNatClampNeg ((nI n) : Int32).toNatClampNeg = g_37 at hP hD
      have hP : va_P (dC, dI) vwCl [(xo_5_rrr h it la le), (xJ it cJ 8 fi), (xI y0 cI 40 g_37), (xI y1 cI 40 f1), (xI y2 cI 40 f2), (xI y3 cI 40 f3), (xI y4 cI 40 f4), (xI y5 cI 40 f5), (xI y6 cI 40 f6), (xI y7 cI 40 f7)] H := hP
      have hD := dto hP hD
      have hX9 := cut2 (wc := [(xo_5_rrr h it la le), (xJ it cJ 8 fi), (xI y0 cI 40 g_37), (xI y1 cI 40 f1), (xI y2 cI 40 f2), (xI y3 cI 40 f3), (xI y4 cI 40 f4), (xI y5 cI 40 f5), (xI y6 cI 40 f6), (xI y7 cI 40 f7)]) hP hD [0, 1, 2, 3, 4, 5, 6, 7, 8, 9] (by decide +kernel) rfl
      exact W.vret hx hb hr (fun t ht hW => ⟨⟨(), rfl, trivial, ⟨g_37, f1, f2, f3, f4, f5, f6, f7, va_Ht ht hX9.1, hX9.2⟩⟩, hS.F ht⟩) hS.2.2 dX5_move_20
    · skip
      have hl : lv_has ls 6 [(0, .ref h), (1, .int 2), (2, .int (nI a)), (3, .int 1), (4, .int (nI b)), (5, .int (nI n))] := hl
      refine lv_aload_n hx hb dX5_move_7 rfl (lv_at hl 0 rfl) ?_
      refine va_get (D := (dC, dI)) (ci := 5) (v := .ref it) (C := RX5) (T := TX5) (N := 3) hx hb hts i_X5_move_X5 hown hK hP 0 rfl rfl 0 (by decide) (hts _ mx_X5_move_1) (fun _ h9 => h9) rfl dX5_move_8 ?_
      refine lv_iload_n hx hb dX5_move_11 rfl (lv_at hl 3 rfl) ?_
      refine nw_alk hx hb hK hP 1 3 rfl rfl 1 rfl (Nat.le_of_ble_eq_true rfl) (Nat.le_of_ble_eq_true rfl) hfi.2.1 dX5_move_12 ?_
      refine lv_iload hx hb dX5_move_13 (lv_at hl 4 rfl) ?_
      refine lv_iload hx hb dX5_move_15 (lv_at hl 5 rfl) ?_
      refine va_copyN hx hb hml hl hown (hts _ mx_X5_move_2) (hts _ mx_X5_move_3) (hts _ mx_X5_move_4) (hts _ mx_X5_move_5) hK hP hD hS 4 3 rfl rfl rfl rfl (by omega) (by omega) (Nat.le_of_ble_eq_true rfl) (Nat.le_of_ble_eq_true rfl) (Nat.le_of_ble_eq_true rfl) (Nat.le_of_ble_eq_true rfl) dX5_move_17 (fun H locs hP hD hS => ?_)
      generalize hg_39 : va_cpy f2 f1 ((nI a) : Int32).toNatClampNeg ((nI b) : Int32).toNatClampNeg ((nI n) : Int32).toNatClampNeg = g_39 at hP hD
      have hP : va_P (dC, dI) vwCl [(xo_5_rrr h it la le), (xJ it cJ 8 fi), (xI y0 cI 40 f0), (xI y1 cI 40 g_39), (xI y2 cI 40 f2), (xI y3 cI 40 f3), (xI y4 cI 40 f4), (xI y5 cI 40 f5), (xI y6 cI 40 f6), (xI y7 cI 40 f7)] H := hP
      have hD := dto hP hD
      have hX9 := cut2 (wc := [(xo_5_rrr h it la le), (xJ it cJ 8 fi), (xI y0 cI 40 f0), (xI y1 cI 40 g_39), (xI y2 cI 40 f2), (xI y3 cI 40 f3), (xI y4 cI 40 f4), (xI y5 cI 40 f5), (xI y6 cI 40 f6), (xI y7 cI 40 f7)]) hP hD [0, 1, 2, 3, 4, 5, 6, 7, 8, 9] (by decide +kernel) rfl
      exact W.vret hx hb hr (fun t ht hW => ⟨⟨(), rfl, trivial, ⟨f0, g_39, f2, f3, f4, f5, f6, f7, va_Ht ht hX9.1, hX9.2⟩⟩, hS.F ht⟩) hS.2.2 dX5_move_20
    · skip
      have hl : lv_has ls 6 [(0, .ref h), (1, .int 2), (2, .int (nI a)), (3, .int 2), (4, .int (nI b)), (5, .int (nI n))] := hl
      refine lv_aload_n hx hb dX5_move_7 rfl (lv_at hl 0 rfl) ?_
      refine va_get (D := (dC, dI)) (ci := 5) (v := .ref it) (C := RX5) (T := TX5) (N := 3) hx hb hts i_X5_move_X5 hown hK hP 0 rfl rfl 0 (by decide) (hts _ mx_X5_move_1) (fun _ h9 => h9) rfl dX5_move_8 ?_
      refine lv_iload_n hx hb dX5_move_11 rfl (lv_at hl 3 rfl) ?_
      refine nw_alk hx hb hK hP 1 3 rfl rfl 2 rfl (Nat.le_of_ble_eq_true rfl) (Nat.le_of_ble_eq_true rfl) hfi.2.2.1 dX5_move_12 ?_
      refine lv_iload hx hb dX5_move_13 (lv_at hl 4 rfl) ?_
      refine lv_iload hx hb dX5_move_15 (lv_at hl 5 rfl) ?_
      refine va_copyN hx hb hml hl hown (hts _ mx_X5_move_2) (hts _ mx_X5_move_3) (hts _ mx_X5_move_4) (hts _ mx_X5_move_5) hK hP hD hS 4 4 rfl rfl rfl rfl (by omega) (by omega) (Nat.le_of_ble_eq_true rfl) (Nat.le_of_ble_eq_true rfl) (Nat.le_of_ble_eq_true rfl) (Nat.le_of_ble_eq_true rfl) dX5_move_17 (fun H locs hP hD hS => ?_)
      generalize hg_41 : va_cpy f2 f2 ((nI a) : Int32).toNatClampNeg ((nI b) : Int32).toNatClampNeg ((nI n) : Int32).toNatClampNeg = g_41 at hP hD
      have hP : va_P (dC, dI) vwCl [(xo_5_rrr h it la le), (xJ it cJ 8 fi), (xI y0 cI 40 f0), (xI y1 cI 40 f1), (xI y2 cI 40 g_41), (xI y3 cI 40 f3), (xI y4 cI 40 f4), (xI y5 cI 40 f5), (xI y6 cI 40 f6), (xI y7 cI 40 f7)] H := hP
      have hD := dto hP hD
      have hX9 := cut2 (wc := [(xo_5_rrr h it la le), (xJ it cJ 8 fi), (xI y0 cI 40 f0), (xI y1 cI 40 f1), (xI y2 cI 40 g_41), (xI y3 cI 40 f3), (xI y4 cI 40 f4), (xI y5 cI 40 f5), (xI y6 cI 40 f6), (xI y7 cI 40 f7)]) hP hD [0, 1, 2, 3, 4, 5, 6, 7, 8, 9] (by decide +kernel) rfl
      exact W.vret hx hb hr (fun t ht hW => ⟨⟨(), rfl, trivial, ⟨f0, f1, g_41, f3, f4, f5, f6, f7, va_Ht ht hX9.1, hX9.2⟩⟩, hS.F ht⟩) hS.2.2 dX5_move_20
    · skip
      have hl : lv_has ls 6 [(0, .ref h), (1, .int 2), (2, .int (nI a)), (3, .int 3), (4, .int (nI b)), (5, .int (nI n))] := hl
      refine lv_aload_n hx hb dX5_move_7 rfl (lv_at hl 0 rfl) ?_
      refine va_get (D := (dC, dI)) (ci := 5) (v := .ref it) (C := RX5) (T := TX5) (N := 3) hx hb hts i_X5_move_X5 hown hK hP 0 rfl rfl 0 (by decide) (hts _ mx_X5_move_1) (fun _ h9 => h9) rfl dX5_move_8 ?_
      refine lv_iload_n hx hb dX5_move_11 rfl (lv_at hl 3 rfl) ?_
      refine nw_alk hx hb hK hP 1 3 rfl rfl 3 rfl (Nat.le_of_ble_eq_true rfl) (Nat.le_of_ble_eq_true rfl) hfi.2.2.2.1 dX5_move_12 ?_
      refine lv_iload hx hb dX5_move_13 (lv_at hl 4 rfl) ?_
      refine lv_iload hx hb dX5_move_15 (lv_at hl 5 rfl) ?_
      refine va_copyN hx hb hml hl hown (hts _ mx_X5_move_2) (hts _ mx_X5_move_3) (hts _ mx_X5_move_4) (hts _ mx_X5_move_5) hK hP hD hS 4 5 rfl rfl rfl rfl (by omega) (by omega) (Nat.le_of_ble_eq_true rfl) (Nat.le_of_ble_eq_true rfl) (Nat.le_of_ble_eq_true rfl) (Nat.le_of_ble_eq_true rfl) dX5_move_17 (fun H locs hP hD hS => ?_)
      generalize hg_43 : va_cpy f2 f3 ((nI a) : Int32).toNatClampNeg ((nI b) : Int32).toNatClampNeg ((nI n) : Int32).toNatClampNeg = g_43 at hP hD
      have hP : va_P (dC, dI) vwCl [(xo_5_rrr h it la le), (xJ it cJ 8 fi), (xI y0 cI 40 f0), (xI y1 cI 40 f1), (xI y2 cI 40 f2), (xI y3 cI 40 g_43), (xI y4 cI 40 f4), (xI y5 cI 40 f5), (xI y6 cI 40 f6), (xI y7 cI 40 f7)] H := hP
      have hD := dto hP hD
      have hX9 := cut2 (wc := [(xo_5_rrr h it la le), (xJ it cJ 8 fi), (xI y0 cI 40 f0), (xI y1 cI 40 f1), (xI y2 cI 40 f2), (xI y3 cI 40 g_43), (xI y4 cI 40 f4), (xI y5 cI 40 f5), (xI y6 cI 40 f6), (xI y7 cI 40 f7)]) hP hD [0, 1, 2, 3, 4, 5, 6, 7, 8, 9] (by decide +kernel) rfl
      exact W.vret hx hb hr (fun t ht hW => ⟨⟨(), rfl, trivial, ⟨f0, f1, f2, g_43, f4, f5, f6, f7, va_Ht ht hX9.1, hX9.2⟩⟩, hS.F ht⟩) hS.2.2 dX5_move_20
    · skip
      have hl : lv_has ls 6 [(0, .ref h), (1, .int 2), (2, .int (nI a)), (3, .int 4), (4, .int (nI b)), (5, .int (nI n))] := hl
      refine lv_aload_n hx hb dX5_move_7 rfl (lv_at hl 0 rfl) ?_
      refine va_get (D := (dC, dI)) (ci := 5) (v := .ref it) (C := RX5) (T := TX5) (N := 3) hx hb hts i_X5_move_X5 hown hK hP 0 rfl rfl 0 (by decide) (hts _ mx_X5_move_1) (fun _ h9 => h9) rfl dX5_move_8 ?_
      refine lv_iload_n hx hb dX5_move_11 rfl (lv_at hl 3 rfl) ?_
      refine nw_alk hx hb hK hP 1 3 rfl rfl 4 rfl (Nat.le_of_ble_eq_true rfl) (Nat.le_of_ble_eq_true rfl) hfi.2.2.2.2.1 dX5_move_12 ?_
      refine lv_iload hx hb dX5_move_13 (lv_at hl 4 rfl) ?_
      refine lv_iload hx hb dX5_move_15 (lv_at hl 5 rfl) ?_
      refine va_copyN hx hb hml hl hown (hts _ mx_X5_move_2) (hts _ mx_X5_move_3) (hts _ mx_X5_move_4) (hts _ mx_X5_move_5) hK hP hD hS 4 6 rfl rfl rfl rfl (by omega) (by omega) (Nat.le_of_ble_eq_true rfl) (Nat.le_of_ble_eq_true rfl) (Nat.le_of_ble_eq_true rfl) (Nat.le_of_ble_eq_true rfl) dX5_move_17 (fun H locs hP hD hS => ?_)
      generalize hg_45 : va_cpy f2 f4 ((nI a) : Int32).toNatClampNeg ((nI b) : Int32).toNatClampNeg ((nI n) : Int32).toNatClampNeg = g_45 at hP hD
      have hP : va_P (dC, dI) vwCl [(xo_5_rrr h it la le), (xJ it cJ 8 fi), (xI y0 cI 40 f0), (xI y1 cI 40 f1), (xI y2 cI 40 f2), (xI y3 cI 40 f3), (xI y4 cI 40 g_45), (xI y5 cI 40 f5), (xI y6 cI 40 f6), (xI y7 cI 40 f7)] H := hP
      have hD := dto hP hD
      have hX9 := cut2 (wc := [(xo_5_rrr h it la le), (xJ it cJ 8 fi), (xI y0 cI 40 f0), (xI y1 cI 40 f1), (xI y2 cI 40 f2), (xI y3 cI 40 f3), (xI y4 cI 40 g_45), (xI y5 cI 40 f5), (xI y6 cI 40 f6), (xI y7 cI 40 f7)]) hP hD [0, 1, 2, 3, 4, 5, 6, 7, 8, 9] (by decide +kernel) rfl
      exact W.vret hx hb hr (fun t ht hW => ⟨⟨(), rfl, trivial, ⟨f0, f1, f2, f3, g_45, f5, f6, f7, va_Ht ht hX9.1, hX9.2⟩⟩, hS.F ht⟩) hS.2.2 dX5_move_20
    · skip
      have hl : lv_has ls 6 [(0, .ref h), (1, .int 2), (2, .int (nI a)), (3, .int 5), (4, .int (nI b)), (5, .int (nI n))] := hl
      refine lv_aload_n hx hb dX5_move_7 rfl (lv_at hl 0 rfl) ?_
      refine va_get (D := (dC, dI)) (ci := 5) (v := .ref it) (C := RX5) (T := TX5) (N := 3) hx hb hts i_X5_move_X5 hown hK hP 0 rfl rfl 0 (by decide) (hts _ mx_X5_move_1) (fun _ h9 => h9) rfl dX5_move_8 ?_
      refine lv_iload_n hx hb dX5_move_11 rfl (lv_at hl 3 rfl) ?_
      refine nw_alk hx hb hK hP 1 3 rfl rfl 5 rfl (Nat.le_of_ble_eq_true rfl) (Nat.le_of_ble_eq_true rfl) hfi.2.2.2.2.2.1 dX5_move_12 ?_
      refine lv_iload hx hb dX5_move_13 (lv_at hl 4 rfl) ?_
      refine lv_iload hx hb dX5_move_15 (lv_at hl 5 rfl) ?_
      refine va_copyN hx hb hml hl hown (hts _ mx_X5_move_2) (hts _ mx_X5_move_3) (hts _ mx_X5_move_4) (hts _ mx_X5_move_5) hK hP hD hS 4 7 rfl rfl rfl rfl (by omega) (by omega) (Nat.le_of_ble_eq_true rfl) (Nat.le_of_ble_eq_true rfl) (Nat.le_of_ble_eq_true rfl) (Nat.le_of_ble_eq_true rfl) dX5_move_17 (fun H locs hP hD hS => ?_)
      generalize hg_47 : va_cpy f2 f5 ((nI a) : Int32).toNatClampNeg ((nI b) : Int32).toNatClampNeg ((nI n) : Int32).toNatClampNeg = g_47 at hP hD
      have hP : va_P (dC, dI) vwCl [(xo_5_rrr h it la le), (xJ it cJ 8 fi), (xI y0 cI 40 f0), (xI y1 cI 40 f1), (xI y2 cI 40 f2), (xI y3 cI 40 f3), (xI y4 cI 40 f4), (xI y5 cI 40 g_47), (xI y6 cI 40 f6), (xI y7 cI 40 f7)] H := hP
      have hD := dto hP hD
      have hX9 := cut2 (wc := [(xo_5_rrr h it la le), (xJ it cJ 8 fi), (xI y0 cI 40 f0), (xI y1 cI 40 f1), (xI y2 cI 40 f2), (xI y3 cI 40 f3), (xI y4 cI 40 f4), (xI y5 cI 40 g_47), (xI y6 cI 40 f6), (xI y7 cI 40 f7)]) hP hD [0, 1, 2, 3, 4, 5, 6, 7, 8, 9] (by decide +kernel) rfl
      exact W.vret hx hb hr (fun t ht hW => ⟨⟨(), rfl, trivial, ⟨f0, f1, f2, f3, f4, g_47, f6, f7, va_Ht ht hX9.1, hX9.2⟩⟩, hS.F ht⟩) hS.2.2 dX5_move_20
    · skip
      have hl : lv_has ls 6 [(0, .ref h), (1, .int 2), (2, .int (nI a)), (3, .int 6), (4, .int (nI b)), (5, .int (nI n))] := hl
      refine lv_aload_n hx hb dX5_move_7 rfl (lv_at hl 0 rfl) ?_
      refine va_get (D := (dC, dI)) (ci := 5) (v := .ref it) (C := RX5) (T := TX5) (N := 3) hx hb hts i_X5_move_X5 hown hK hP 0 rfl rfl 0 (by decide) (hts _ mx_X5_move_1) (fun _ h9 => h9) rfl dX5_move_8 ?_
      refine lv_iload_n hx hb dX5_move_11 rfl (lv_at hl 3 rfl) ?_
      refine nw_alk hx hb hK hP 1 3 rfl rfl 6 rfl (Nat.le_of_ble_eq_true rfl) (Nat.le_of_ble_eq_true rfl) hfi.2.2.2.2.2.2.1 dX5_move_12 ?_
      refine lv_iload hx hb dX5_move_13 (lv_at hl 4 rfl) ?_
      refine lv_iload hx hb dX5_move_15 (lv_at hl 5 rfl) ?_
      refine va_copyN hx hb hml hl hown (hts _ mx_X5_move_2) (hts _ mx_X5_move_3) (hts _ mx_X5_move_4) (hts _ mx_X5_move_5) hK hP hD hS 4 8 rfl rfl rfl rfl (by omega) (by omega) (Nat.le_of_ble_eq_true rfl) (Nat.le_of_ble_eq_true rfl) (Nat.le_of_ble_eq_true rfl) (Nat.le_of_ble_eq_true rfl) dX5_move_17 (fun H locs hP hD hS => ?_)
      generalize hg_49 : va_cpy f2 f6 ((nI a) : Int32).toNatClampNeg ((nI b) : Int32).toNatClampNeg ((nI n) : Int32).toNatClampNeg = g_49 at hP hD
      have hP : va_P (dC, dI) vwCl [(xo_5_rrr h it la le), (xJ it cJ 8 fi), (xI y0 cI 40 f0), (xI y1 cI 40 f1), (xI y2 cI 40 f2), (xI y3 cI 40 f3), (xI y4 cI 40 f4), (xI y5 cI 40 f5), (xI y6 cI 40 g_49), (xI y7 cI 40 f7)] H := hP
      have hD := dto hP hD
      have hX9 := cut2 (wc := [(xo_5_rrr h it la le), (xJ it cJ 8 fi), (xI y0 cI 40 f0), (xI y1 cI 40 f1), (xI y2 cI 40 f2), (xI y3 cI 40 f3), (xI y4 cI 40 f4), (xI y5 cI 40 f5), (xI y6 cI 40 g_49), (xI y7 cI 40 f7)]) hP hD [0, 1, 2, 3, 4, 5, 6, 7, 8, 9] (by decide +kernel) rfl
      exact W.vret hx hb hr (fun t ht hW => ⟨⟨(), rfl, trivial, ⟨f0, f1, f2, f3, f4, f5, g_49, f7, va_Ht ht hX9.1, hX9.2⟩⟩, hS.F ht⟩) hS.2.2 dX5_move_20
    · skip
      have hl : lv_has ls 6 [(0, .ref h), (1, .int 2), (2, .int (nI a)), (3, .int 7), (4, .int (nI b)), (5, .int (nI n))] := hl
      refine lv_aload_n hx hb dX5_move_7 rfl (lv_at hl 0 rfl) ?_
      refine va_get (D := (dC, dI)) (ci := 5) (v := .ref it) (C := RX5) (T := TX5) (N := 3) hx hb hts i_X5_move_X5 hown hK hP 0 rfl rfl 0 (by decide) (hts _ mx_X5_move_1) (fun _ h9 => h9) rfl dX5_move_8 ?_
      refine lv_iload_n hx hb dX5_move_11 rfl (lv_at hl 3 rfl) ?_
      refine nw_alk hx hb hK hP 1 3 rfl rfl 7 rfl (Nat.le_of_ble_eq_true rfl) (Nat.le_of_ble_eq_true rfl) hfi.2.2.2.2.2.2.2 dX5_move_12 ?_
      refine lv_iload hx hb dX5_move_13 (lv_at hl 4 rfl) ?_
      refine lv_iload hx hb dX5_move_15 (lv_at hl 5 rfl) ?_
      refine va_copyN hx hb hml hl hown (hts _ mx_X5_move_2) (hts _ mx_X5_move_3) (hts _ mx_X5_move_4) (hts _ mx_X5_move_5) hK hP hD hS 4 9 rfl rfl rfl rfl (by omega) (by omega) (Nat.le_of_ble_eq_true rfl) (Nat.le_of_ble_eq_true rfl) (Nat.le_of_ble_eq_true rfl) (Nat.le_of_ble_eq_true rfl) dX5_move_17 (fun H locs hP hD hS => ?_)
      generalize hg_51 : va_cpy f2 f7 ((nI a) : Int32).toNatClampNeg ((nI b) : Int32).toNatClampNeg ((nI n) : Int32).toNatClampNeg = g_51 at hP hD
      have hP : va_P (dC, dI) vwCl [(xo_5_rrr h it la le), (xJ it cJ 8 fi), (xI y0 cI 40 f0), (xI y1 cI 40 f1), (xI y2 cI 40 f2), (xI y3 cI 40 f3), (xI y4 cI 40 f4), (xI y5 cI 40 f5), (xI y6 cI 40 f6), (xI y7 cI 40 g_51)] H := hP
      have hD := dto hP hD
      have hX9 := cut2 (wc := [(xo_5_rrr h it la le), (xJ it cJ 8 fi), (xI y0 cI 40 f0), (xI y1 cI 40 f1), (xI y2 cI 40 f2), (xI y3 cI 40 f3), (xI y4 cI 40 f4), (xI y5 cI 40 f5), (xI y6 cI 40 f6), (xI y7 cI 40 g_51)]) hP hD [0, 1, 2, 3, 4, 5, 6, 7, 8, 9] (by decide +kernel) rfl
      exact W.vret hx hb hr (fun t ht hW => ⟨⟨(), rfl, trivial, ⟨f0, f1, f2, f3, f4, f5, f6, g_51, va_Ht ht hX9.1, hX9.2⟩⟩, hS.F ht⟩) hS.2.2 dX5_move_20
  · skip
    have hl : lv_has ls 6 [(0, .ref h), (1, .int 3), (2, .int (nI a)), (3, .int (nI k)), (4, .int (nI b)), (5, .int (nI n))] := hl
    refine lv_aload_n hx hb dX5_move_0 rfl (lv_at hl 0 rfl) ?_
    refine va_get (D := (dC, dI)) (ci := 5) (v := .ref it) (C := RX5) (T := TX5) (N := 3) hx hb hts i_X5_move_X5 hown hK hP 0 rfl rfl 0 (by decide) (hts _ mx_X5_move_1) (fun _ h9 => h9) rfl dX5_move_1 ?_
    refine lv_iload_n hx hb dX5_move_4 rfl (lv_at hl 1 rfl) ?_
    refine nw_alk hx hb hK hP 1 3 rfl rfl 3 rfl (Nat.le_of_ble_eq_true rfl) (Nat.le_of_ble_eq_true rfl) hfi.2.2.2.1 dX5_move_5 ?_
    refine lv_iload_n hx hb dX5_move_6 rfl (lv_at hl 2 rfl) ?_
    rcases (show k = 0 ∨ k = 1 ∨ k = 2 ∨ k = 3 ∨ k = 4 ∨ k = 5 ∨ k = 6 ∨ k = 7 by omega) with rfl | rfl | rfl | rfl | rfl | rfl | rfl | rfl
    · skip
      have hl : lv_has ls 6 [(0, .ref h), (1, .int 3), (2, .int (nI a)), (3, .int 0), (4, .int (nI b)), (5, .int (nI n))] := hl
      refine lv_aload_n hx hb dX5_move_7 rfl (lv_at hl 0 rfl) ?_
      refine va_get (D := (dC, dI)) (ci := 5) (v := .ref it) (C := RX5) (T := TX5) (N := 3) hx hb hts i_X5_move_X5 hown hK hP 0 rfl rfl 0 (by decide) (hts _ mx_X5_move_1) (fun _ h9 => h9) rfl dX5_move_8 ?_
      refine lv_iload_n hx hb dX5_move_11 rfl (lv_at hl 3 rfl) ?_
      refine nw_alk hx hb hK hP 1 3 rfl rfl 0 rfl (Nat.le_of_ble_eq_true rfl) (Nat.le_of_ble_eq_true rfl) hfi.1 dX5_move_12 ?_
      refine lv_iload hx hb dX5_move_13 (lv_at hl 4 rfl) ?_
      refine lv_iload hx hb dX5_move_15 (lv_at hl 5 rfl) ?_
      refine va_copyN hx hb hml hl hown (hts _ mx_X5_move_2) (hts _ mx_X5_move_3) (hts _ mx_X5_move_4) (hts _ mx_X5_move_5) hK hP hD hS 5 2 rfl rfl rfl rfl (by omega) (by omega) (Nat.le_of_ble_eq_true rfl) (Nat.le_of_ble_eq_true rfl) (Nat.le_of_ble_eq_true rfl) (Nat.le_of_ble_eq_true rfl) dX5_move_17 (fun H locs hP hD hS => ?_)
      generalize hg_54 : va_cpy f3 f0 ((nI a) : Int32).toNatClampNeg ((nI b) : Int32).toNatClampNeg ((nI n) : Int32).toNatClampNeg = g_54 at hP hD
      have hP : va_P (dC, dI) vwCl [(xo_5_rrr h it la le), (xJ it cJ 8 fi), (xI y0 cI 40 g_54), (xI y1 cI 40 f1), (xI y2 cI 40 f2), (xI y3 cI 40 f3), (xI y4 cI 40 f4), (xI y5 cI 40 f5), (xI y6 cI 40 f6), (xI y7 cI 40 f7)] H := hP
      have hD := dto hP hD
      have hX9 := cut2 (wc := [(xo_5_rrr h it la le), (xJ it cJ 8 fi), (xI y0 cI 40 g_54), (xI y1 cI 40 f1), (xI y2 cI 40 f2), (xI y3 cI 40 f3), (xI y4 cI 40 f4), (xI y5 cI 40 f5), (xI y6 cI 40 f6), (xI y7 cI 40 f7)]) hP hD [0, 1, 2, 3, 4, 5, 6, 7, 8, 9] (by decide +kernel) rfl
      exact W.vret hx hb hr (fun t ht hW => ⟨⟨(), rfl, trivial, ⟨g_54, f1, f2, f3, f4, f5, f6, f7, va_Ht ht hX9.1, hX9.2⟩⟩, hS.F ht⟩) hS.2.2 dX5_move_20
    · skip
      have hl : lv_has ls 6 [(0, .ref h), (1, .int 3), (2, .int (nI a)), (3, .int 1), (4, .int (nI b)), (5, .int (nI n))] := hl
      refine lv_aload_n hx hb dX5_move_7 rfl (lv_at hl 0 rfl) ?_
      refine va_get (D := (dC, dI)) (ci := 5) (v := .ref it) (C := RX5) (T := TX5) (N := 3) hx hb hts i_X5_move_X5 hown hK hP 0 rfl rfl 0 (by decide) (hts _ mx_X5_move_1) (fun _ h9 => h9) rfl dX5_move_8 ?_
      refine lv_iload_n hx hb dX5_move_11 rfl (lv_at hl 3 rfl) ?_
      refine nw_alk hx hb hK hP 1 3 rfl rfl 1 rfl (Nat.le_of_ble_eq_true rfl) (Nat.le_of_ble_eq_true rfl) hfi.2.1 dX5_move_12 ?_
      refine lv_iload hx hb dX5_move_13 (lv_at hl 4 rfl) ?_
      refine lv_iload hx hb dX5_move_15 (lv_at hl 5 rfl) ?_
      refine va_copyN hx hb hml hl hown (hts _ mx_X5_move_2) (hts _ mx_X5_move_3) (hts _ mx_X5_move_4) (hts _ mx_X5_move_5) hK hP hD hS 5 3 rfl rfl rfl rfl (by omega) (by omega) (Nat.le_of_ble_eq_true rfl) (Nat.le_of_ble_eq_true rfl) (Nat.le_of_ble_eq_true rfl) (Nat.le_of_ble_eq_true rfl) dX5_move_17 (fun H locs hP hD hS => ?_)
      generalize hg_56 : va_cpy f3 f1 ((nI a) : Int32).toNatClampNeg ((nI b) : Int32).toNatClampNeg ((nI n) : Int32).toNatClampNeg = g_56 at hP hD
      have hP : va_P (dC, dI) vwCl [(xo_5_rrr h it la le), (xJ it cJ 8 fi), (xI y0 cI 40 f0), (xI y1 cI 40 g_56), (xI y2 cI 40 f2), (xI y3 cI 40 f3), (xI y4 cI 40 f4), (xI y5 cI 40 f5), (xI y6 cI 40 f6), (xI y7 cI 40 f7)] H := hP
      have hD := dto hP hD
      have hX9 := cut2 (wc := [(xo_5_rrr h it la le), (xJ it cJ 8 fi), (xI y0 cI 40 f0), (xI y1 cI 40 g_56), (xI y2 cI 40 f2), (xI y3 cI 40 f3), (xI y4 cI 40 f4), (xI y5 cI 40 f5), (xI y6 cI 40 f6), (xI y7 cI 40 f7)]) hP hD [0, 1, 2, 3, 4, 5, 6, 7, 8, 9] (by decide +kernel) rfl
      exact W.vret hx hb hr (fun t ht hW => ⟨⟨(), rfl, trivial, ⟨f0, g_56, f2, f3, f4, f5, f6, f7, va_Ht ht hX9.1, hX9.2⟩⟩, hS.F ht⟩) hS.2.2 dX5_move_20
    · skip
      have hl : lv_has ls 6 [(0, .ref h), (1, .int 3), (2, .int (nI a)), (3, .int 2), (4, .int (nI b)), (5, .int (nI n))] := hl
      refine lv_aload_n hx hb dX5_move_7 rfl (lv_at hl 0 rfl) ?_
      refine va_get (D := (dC, dI)) (ci := 5) (v := .ref it) (C := RX5) (T := TX5) (N := 3) hx hb hts i_X5_move_X5 hown hK hP 0 rfl rfl 0 (by decide) (hts _ mx_X5_move_1) (fun _ h9 => h9) rfl dX5_move_8 ?_
      refine lv_iload_n hx hb dX5_move_11 rfl (lv_at hl 3 rfl) ?_
      refine nw_alk hx hb hK hP 1 3 rfl rfl 2 rfl (Nat.le_of_ble_eq_true rfl) (Nat.le_of_ble_eq_true rfl) hfi.2.2.1 dX5_move_12 ?_
      refine lv_iload hx hb dX5_move_13 (lv_at hl 4 rfl) ?_
      refine lv_iload hx hb dX5_move_15 (lv_at hl 5 rfl) ?_
      refine va_copyN hx hb hml hl hown (hts _ mx_X5_move_2) (hts _ mx_X5_move_3) (hts _ mx_X5_move_4) (hts _ mx_X5_move_5) hK hP hD hS 5 4 rfl rfl rfl rfl (by omega) (by omega) (Nat.le_of_ble_eq_true rfl) (Nat.le_of_ble_eq_true rfl) (Nat.le_of_ble_eq_true rfl) (Nat.le_of_ble_eq_true rfl) dX5_move_17 (fun H locs hP hD hS => ?_)
      generalize hg_58 : va_cpy f3 f2 ((nI a) : Int32).toNatClampNeg ((nI b) : Int32).toNatClampNeg ((nI n) : Int32).toNatClampNeg = g_58 at hP hD
      have hP : va_P (dC, dI) vwCl [(xo_5_rrr h it la le), (xJ it cJ 8 fi), (xI y0 cI 40 f0), (xI y1 cI 40 f1), (xI y2 cI 40 g_58), (xI y3 cI 40 f3), (xI y4 cI 40 f4), (xI y5 cI 40 f5), (xI y6 cI 40 f6), (xI y7 cI 40 f7)] H := hP
      have hD := dto hP hD
      have hX9 := cut2 (wc := [(xo_5_rrr h it la le), (xJ it cJ 8 fi), (xI y0 cI 40 f0), (xI y1 cI 40 f1), (xI y2 cI 40 g_58), (xI y3 cI 40 f3), (xI y4 cI 40 f4), (xI y5 cI 40 f5), (xI y6 cI 40 f6), (xI y7 cI 40 f7)]) hP hD [0, 1, 2, 3, 4, 5, 6, 7, 8, 9] (by decide +kernel) rfl
      exact W.vret hx hb hr (fun t ht hW => ⟨⟨(), rfl, trivial, ⟨f0, f1, g_58, f3, f4, f5, f6, f7, va_Ht ht hX9.1, hX9.2⟩⟩, hS.F ht⟩) hS.2.2 dX5_move_20
    · skip
      have hl : lv_has ls 6 [(0, .ref h), (1, .int 3), (2, .int (nI a)), (3, .int 3), (4, .int (nI b)), (5, .int (nI n))] := hl
      refine lv_aload_n hx hb dX5_move_7 rfl (lv_at hl 0 rfl) ?_
      refine va_get (D := (dC, dI)) (ci := 5) (v := .ref it) (C := RX5) (T := TX5) (N := 3) hx hb hts i_X5_move_X5 hown hK hP 0 rfl rfl 0 (by decide) (hts _ mx_X5_move_1) (fun _ h9 => h9) rfl dX5_move_8 ?_
      refine lv_iload_n hx hb dX5_move_11 rfl (lv_at hl 3 rfl) ?_
      refine nw_alk hx hb hK hP 1 3 rfl rfl 3 rfl (Nat.le_of_ble_eq_true rfl) (Nat.le_of_ble_eq_true rfl) hfi.2.2.2.1 dX5_move_12 ?_
      refine lv_iload hx hb dX5_move_13 (lv_at hl 4 rfl) ?_
      refine lv_iload hx hb dX5_move_15 (lv_at hl 5 rfl) ?_
      refine va_copyN hx hb hml hl hown (hts _ mx_X5_move_2) (hts _ mx_X5_move_3) (hts _ mx_X5_move_4) (hts _ mx_X5_move_5) hK hP hD hS 5 5 rfl rfl rfl rfl (by omega) (by omega) (Nat.le_of_ble_eq_true rfl) (Nat.le_of_ble_eq_true rfl) (Nat.le_of_ble_eq_true rfl) (Nat.le_of_ble_eq_true rfl) dX5_move_17 (fun H locs hP hD hS => ?_)
      generalize hg_60 : va_cpy f3 f3 ((nI a) : Int32).toNatClampNeg ((nI b) : Int32).toNatClampNeg ((nI n) : Int32).toNatClampNeg = g_60 at hP hD
      have hP : va_P (dC, dI) vwCl [(xo_5_rrr h it la le), (xJ it cJ 8 fi), (xI y0 cI 40 f0), (xI y1 cI 40 f1), (xI y2 cI 40 f2), (xI y3 cI 40 g_60), (xI y4 cI 40 f4), (xI y5 cI 40 f5), (xI y6 cI 40 f6), (xI y7 cI 40 f7)] H := hP
      have hD := dto hP hD
      have hX9 := cut2 (wc := [(xo_5_rrr h it la le), (xJ it cJ 8 fi), (xI y0 cI 40 f0), (xI y1 cI 40 f1), (xI y2 cI 40 f2), (xI y3 cI 40 g_60), (xI y4 cI 40 f4), (xI y5 cI 40 f5), (xI y6 cI 40 f6), (xI y7 cI 40 f7)]) hP hD [0, 1, 2, 3, 4, 5, 6, 7, 8, 9] (by decide +kernel) rfl
      exact W.vret hx hb hr (fun t ht hW => ⟨⟨(), rfl, trivial, ⟨f0, f1, f2, g_60, f4, f5, f6, f7, va_Ht ht hX9.1, hX9.2⟩⟩, hS.F ht⟩) hS.2.2 dX5_move_20
    · skip
      have hl : lv_has ls 6 [(0, .ref h), (1, .int 3), (2, .int (nI a)), (3, .int 4), (4, .int (nI b)), (5, .int (nI n))] := hl
      refine lv_aload_n hx hb dX5_move_7 rfl (lv_at hl 0 rfl) ?_
      refine va_get (D := (dC, dI)) (ci := 5) (v := .ref it) (C := RX5) (T := TX5) (N := 3) hx hb hts i_X5_move_X5 hown hK hP 0 rfl rfl 0 (by decide) (hts _ mx_X5_move_1) (fun _ h9 => h9) rfl dX5_move_8 ?_
      refine lv_iload_n hx hb dX5_move_11 rfl (lv_at hl 3 rfl) ?_
      refine nw_alk hx hb hK hP 1 3 rfl rfl 4 rfl (Nat.le_of_ble_eq_true rfl) (Nat.le_of_ble_eq_true rfl) hfi.2.2.2.2.1 dX5_move_12 ?_
      refine lv_iload hx hb dX5_move_13 (lv_at hl 4 rfl) ?_
      refine lv_iload hx hb dX5_move_15 (lv_at hl 5 rfl) ?_
      refine va_copyN hx hb hml hl hown (hts _ mx_X5_move_2) (hts _ mx_X5_move_3) (hts _ mx_X5_move_4) (hts _ mx_X5_move_5) hK hP hD hS 5 6 rfl rfl rfl rfl (by omega) (by omega) (Nat.le_of_ble_eq_true rfl) (Nat.le_of_ble_eq_true rfl) (Nat.le_of_ble_eq_true rfl) (Nat.le_of_ble_eq_true rfl) dX5_move_17 (fun H locs hP hD hS => ?_)
      generalize hg_62 : va_cpy f3 f4 ((nI a) : Int32).toNatClampNeg ((nI b) : Int32).toNatClampNeg ((nI n) : Int32).toNatClampNeg = g_62 at hP hD
      have hP : va_P (dC, dI) vwCl [(xo_5_rrr h it la le), (xJ it cJ 8 fi), (xI y0 cI 40 f0), (xI y1 cI 40 f1), (xI y2 cI 40 f2), (xI y3 cI 40 f3), (xI y4 cI 40 g_62), (xI y5 cI 40 f5), (xI y6 cI 40 f6), (xI y7 cI 40 f7)] H := hP
      have hD := dto hP hD
      have hX9 := cut2 (wc := [(xo_5_rrr h it la le), (xJ it cJ 8 fi), (xI y0 cI 40 f0), (xI y1 cI 40 f1), (xI y2 cI 40 f2), (xI y3 cI 40 f3), (xI y4 cI 40 g_62), (xI y5 cI 40 f5), (xI y6 cI 40 f6), (xI y7 cI 40 f7)]) hP hD [0, 1, 2, 3, 4, 5, 6, 7, 8, 9] (by decide +kernel) rfl
      exact W.vret hx hb hr (fun t ht hW => ⟨⟨(), rfl, trivial, ⟨f0, f1, f2, f3, g_62, f5, f6, f7, va_Ht ht hX9.1, hX9.2⟩⟩, hS.F ht⟩) hS.2.2 dX5_move_20
    · skip
      have hl : lv_has ls 6 [(0, .ref h), (1, .int 3), (2, .int (nI a)), (3, .int 5), (4, .int (nI b)), (5, .int (nI n))] := hl
      refine lv_aload_n hx hb dX5_move_7 rfl (lv_at hl 0 rfl) ?_
      refine va_get (D := (dC, dI)) (ci := 5) (v := .ref it) (C := RX5) (T := TX5) (N := 3) hx hb hts i_X5_move_X5 hown hK hP 0 rfl rfl 0 (by decide) (hts _ mx_X5_move_1) (fun _ h9 => h9) rfl dX5_move_8 ?_
      refine lv_iload_n hx hb dX5_move_11 rfl (lv_at hl 3 rfl) ?_
      refine nw_alk hx hb hK hP 1 3 rfl rfl 5 rfl (Nat.le_of_ble_eq_true rfl) (Nat.le_of_ble_eq_true rfl) hfi.2.2.2.2.2.1 dX5_move_12 ?_
      refine lv_iload hx hb dX5_move_13 (lv_at hl 4 rfl) ?_
      refine lv_iload hx hb dX5_move_15 (lv_at hl 5 rfl) ?_
      refine va_copyN hx hb hml hl hown (hts _ mx_X5_move_2) (hts _ mx_X5_move_3) (hts _ mx_X5_move_4) (hts _ mx_X5_move_5) hK hP hD hS 5 7 rfl rfl rfl rfl (by omega) (by omega) (Nat.le_of_ble_eq_true rfl) (Nat.le_of_ble_eq_true rfl) (Nat.le_of_ble_eq_true rfl) (Nat.le_of_ble_eq_true rfl) dX5_move_17 (fun H locs hP hD hS => ?_)
      generalize hg_64 : va_cpy f3 f5 ((nI a) : Int32).toNatClampNeg ((nI b) : Int32).toNatClampNeg ((nI n) : Int32).toNatClampNeg = g_64 at hP hD
      have hP : va_P (dC, dI) vwCl [(xo_5_rrr h it la le), (xJ it cJ 8 fi), (xI y0 cI 40 f0), (xI y1 cI 40 f1), (xI y2 cI 40 f2), (xI y3 cI 40 f3), (xI y4 cI 40 f4), (xI y5 cI 40 g_64), (xI y6 cI 40 f6), (xI y7 cI 40 f7)] H := hP
      have hD := dto hP hD
      have hX9 := cut2 (wc := [(xo_5_rrr h it la le), (xJ it cJ 8 fi), (xI y0 cI 40 f0), (xI y1 cI 40 f1), (xI y2 cI 40 f2), (xI y3 cI 40 f3), (xI y4 cI 40 f4), (xI y5 cI 40 g_64), (xI y6 cI 40 f6), (xI y7 cI 40 f7)]) hP hD [0, 1, 2, 3, 4, 5, 6, 7, 8, 9] (by decide +kernel) rfl
      exact W.vret hx hb hr (fun t ht hW => ⟨⟨(), rfl, trivial, ⟨f0, f1, f2, f3, f4, g_64, f6, f7, va_Ht ht hX9.1, hX9.2⟩⟩, hS.F ht⟩) hS.2.2 dX5_move_20
    · skip
      have hl : lv_has ls 6 [(0, .ref h), (1, .int 3), (2, .int (nI a)), (3, .int 6), (4, .int (nI b)), (5, .int (nI n))] := hl
      refine lv_aload_n hx hb dX5_move_7 rfl (lv_at hl 0 rfl) ?_
      refine va_get (D := (dC, dI)) (ci := 5) (v := .ref it) (C := RX5) (T := TX5) (N := 3) hx hb hts i_X5_move_X5 hown hK hP 0 rfl rfl 0 (by decide) (hts _ mx_X5_move_1) (fun _ h9 => h9) rfl dX5_move_8 ?_
      refine lv_iload_n hx hb dX5_move_11 rfl (lv_at hl 3 rfl) ?_
      refine nw_alk hx hb hK hP 1 3 rfl rfl 6 rfl (Nat.le_of_ble_eq_true rfl) (Nat.le_of_ble_eq_true rfl) hfi.2.2.2.2.2.2.1 dX5_move_12 ?_
      refine lv_iload hx hb dX5_move_13 (lv_at hl 4 rfl) ?_
      refine lv_iload hx hb dX5_move_15 (lv_at hl 5 rfl) ?_
      refine va_copyN hx hb hml hl hown (hts _ mx_X5_move_2) (hts _ mx_X5_move_3) (hts _ mx_X5_move_4) (hts _ mx_X5_move_5) hK hP hD hS 5 8 rfl rfl rfl rfl (by omega) (by omega) (Nat.le_of_ble_eq_true rfl) (Nat.le_of_ble_eq_true rfl) (Nat.le_of_ble_eq_true rfl) (Nat.le_of_ble_eq_true rfl) dX5_move_17 (fun H locs hP hD hS => ?_)
      generalize hg_66 : va_cpy f3 f6 ((nI a) : Int32).toNatClampNeg ((nI b) : Int32).toNatClampNeg ((nI n) : Int32).toNatClampNeg = g_66 at hP hD
      have hP : va_P (dC, dI) vwCl [(xo_5_rrr h it la le), (xJ it cJ 8 fi), (xI y0 cI 40 f0), (xI y1 cI 40 f1), (xI y2 cI 40 f2), (xI y3 cI 40 f3), (xI y4 cI 40 f4), (xI y5 cI 40 f5), (xI y6 cI 40 g_66), (xI y7 cI 40 f7)] H := hP
      have hD := dto hP hD
      have hX9 := cut2 (wc := [(xo_5_rrr h it la le), (xJ it cJ 8 fi), (xI y0 cI 40 f0), (xI y1 cI 40 f1), (xI y2 cI 40 f2), (xI y3 cI 40 f3), (xI y4 cI 40 f4), (xI y5 cI 40 f5), (xI y6 cI 40 g_66), (xI y7 cI 40 f7)]) hP hD [0, 1, 2, 3, 4, 5, 6, 7, 8, 9] (by decide +kernel) rfl
      exact W.vret hx hb hr (fun t ht hW => ⟨⟨(), rfl, trivial, ⟨f0, f1, f2, f3, f4, f5, g_66, f7, va_Ht ht hX9.1, hX9.2⟩⟩, hS.F ht⟩) hS.2.2 dX5_move_20
    · skip
      have hl : lv_has ls 6 [(0, .ref h), (1, .int 3), (2, .int (nI a)), (3, .int 7), (4, .int (nI b)), (5, .int (nI n))] := hl
      refine lv_aload_n hx hb dX5_move_7 rfl (lv_at hl 0 rfl) ?_
      refine va_get (D := (dC, dI)) (ci := 5) (v := .ref it) (C := RX5) (T := TX5) (N := 3) hx hb hts i_X5_move_X5 hown hK hP 0 rfl rfl 0 (by decide) (hts _ mx_X5_move_1) (fun _ h9 => h9) rfl dX5_move_8 ?_
      refine lv_iload_n hx hb dX5_move_11 rfl (lv_at hl 3 rfl) ?_
      refine nw_alk hx hb hK hP 1 3 rfl rfl 7 rfl (Nat.le_of_ble_eq_true rfl) (Nat.le_of_ble_eq_true rfl) hfi.2.2.2.2.2.2.2 dX5_move_12 ?_
      refine lv_iload hx hb dX5_move_13 (lv_at hl 4 rfl) ?_
      refine lv_iload hx hb dX5_move_15 (lv_at hl 5 rfl) ?_
      refine va_copyN hx hb hml hl hown (hts _ mx_X5_move_2) (hts _ mx_X5_move_3) (hts _ mx_X5_move_4) (hts _ mx_X5_move_5) hK hP hD hS 5 9 rfl rfl rfl rfl (by omega) (by omega) (Nat.le_of_ble_eq_true rfl) (Nat.le_of_ble_eq_true rfl) (Nat.le_of_ble_eq_true rfl) (Nat.le_of_ble_eq_true rfl) dX5_move_17 (fun H locs hP hD hS => ?_)
      generalize hg_68 : va_cpy f3 f7 ((nI a) : Int32).toNatClampNeg ((nI b) : Int32).toNatClampNeg ((nI n) : Int32).toNatClampNeg = g_68 at hP hD
      have hP : va_P (dC, dI) vwCl [(xo_5_rrr h it la le), (xJ it cJ 8 fi), (xI y0 cI 40 f0), (xI y1 cI 40 f1), (xI y2 cI 40 f2), (xI y3 cI 40 f3), (xI y4 cI 40 f4), (xI y5 cI 40 f5), (xI y6 cI 40 f6), (xI y7 cI 40 g_68)] H := hP
      have hD := dto hP hD
      have hX9 := cut2 (wc := [(xo_5_rrr h it la le), (xJ it cJ 8 fi), (xI y0 cI 40 f0), (xI y1 cI 40 f1), (xI y2 cI 40 f2), (xI y3 cI 40 f3), (xI y4 cI 40 f4), (xI y5 cI 40 f5), (xI y6 cI 40 f6), (xI y7 cI 40 g_68)]) hP hD [0, 1, 2, 3, 4, 5, 6, 7, 8, 9] (by decide +kernel) rfl
      exact W.vret hx hb hr (fun t ht hW => ⟨⟨(), rfl, trivial, ⟨f0, f1, f2, f3, f4, f5, f6, g_68, va_Ht ht hX9.1, hX9.2⟩⟩, hS.F ht⟩) hS.2.2 dX5_move_20
  · skip
    have hl : lv_has ls 6 [(0, .ref h), (1, .int 4), (2, .int (nI a)), (3, .int (nI k)), (4, .int (nI b)), (5, .int (nI n))] := hl
    refine lv_aload_n hx hb dX5_move_0 rfl (lv_at hl 0 rfl) ?_
    refine va_get (D := (dC, dI)) (ci := 5) (v := .ref it) (C := RX5) (T := TX5) (N := 3) hx hb hts i_X5_move_X5 hown hK hP 0 rfl rfl 0 (by decide) (hts _ mx_X5_move_1) (fun _ h9 => h9) rfl dX5_move_1 ?_
    refine lv_iload_n hx hb dX5_move_4 rfl (lv_at hl 1 rfl) ?_
    refine nw_alk hx hb hK hP 1 3 rfl rfl 4 rfl (Nat.le_of_ble_eq_true rfl) (Nat.le_of_ble_eq_true rfl) hfi.2.2.2.2.1 dX5_move_5 ?_
    refine lv_iload_n hx hb dX5_move_6 rfl (lv_at hl 2 rfl) ?_
    rcases (show k = 0 ∨ k = 1 ∨ k = 2 ∨ k = 3 ∨ k = 4 ∨ k = 5 ∨ k = 6 ∨ k = 7 by omega) with rfl | rfl | rfl | rfl | rfl | rfl | rfl | rfl
    · skip
      have hl : lv_has ls 6 [(0, .ref h), (1, .int 4), (2, .int (nI a)), (3, .int 0), (4, .int (nI b)), (5, .int (nI n))] := hl
      refine lv_aload_n hx hb dX5_move_7 rfl (lv_at hl 0 rfl) ?_
      refine va_get (D := (dC, dI)) (ci := 5) (v := .ref it) (C := RX5) (T := TX5) (N := 3) hx hb hts i_X5_move_X5 hown hK hP 0 rfl rfl 0 (by decide) (hts _ mx_X5_move_1) (fun _ h9 => h9) rfl dX5_move_8 ?_
      refine lv_iload_n hx hb dX5_move_11 rfl (lv_at hl 3 rfl) ?_
      refine nw_alk hx hb hK hP 1 3 rfl rfl 0 rfl (Nat.le_of_ble_eq_true rfl) (Nat.le_of_ble_eq_true rfl) hfi.1 dX5_move_12 ?_
      refine lv_iload hx hb dX5_move_13 (lv_at hl 4 rfl) ?_
      refine lv_iload hx hb dX5_move_15 (lv_at hl 5 rfl) ?_
      refine va_copyN hx hb hml hl hown (hts _ mx_X5_move_2) (hts _ mx_X5_move_3) (hts _ mx_X5_move_4) (hts _ mx_X5_move_5) hK hP hD hS 6 2 rfl rfl rfl rfl (by omega) (by omega) (Nat.le_of_ble_eq_true rfl) (Nat.le_of_ble_eq_true rfl) (Nat.le_of_ble_eq_true rfl) (Nat.le_of_ble_eq_true rfl) dX5_move_17 (fun H locs hP hD hS => ?_)
      generalize hg_71 : va_cpy f4 f0 ((nI a) : Int32).toNatClampNeg ((nI b) : Int32).toNatClampNeg ((nI n) : Int32).toNatClampNeg = g_71 at hP hD
      have hP : va_P (dC, dI) vwCl [(xo_5_rrr h it la le), (xJ it cJ 8 fi), (xI y0 cI 40 g_71), (xI y1 cI 40 f1), (xI y2 cI 40 f2), (xI y3 cI 40 f3), (xI y4 cI 40 f4), (xI y5 cI 40 f5), (xI y6 cI 40 f6), (xI y7 cI 40 f7)] H := hP
      have hD := dto hP hD
      have hX9 := cut2 (wc := [(xo_5_rrr h it la le), (xJ it cJ 8 fi), (xI y0 cI 40 g_71), (xI y1 cI 40 f1), (xI y2 cI 40 f2), (xI y3 cI 40 f3), (xI y4 cI 40 f4), (xI y5 cI 40 f5), (xI y6 cI 40 f6), (xI y7 cI 40 f7)]) hP hD [0, 1, 2, 3, 4, 5, 6, 7, 8, 9] (by decide +kernel) rfl
      exact W.vret hx hb hr (fun t ht hW => ⟨⟨(), rfl, trivial, ⟨g_71, f1, f2, f3, f4, f5, f6, f7, va_Ht ht hX9.1, hX9.2⟩⟩, hS.F ht⟩) hS.2.2 dX5_move_20
    · skip
      have hl : lv_has ls 6 [(0, .ref h), (1, .int 4), (2, .int (nI a)), (3, .int 1), (4, .int (nI b)), (5, .int (nI n))] := hl
      refine lv_aload_n hx hb dX5_move_7 rfl (lv_at hl 0 rfl) ?_
      refine va_get (D := (dC, dI)) (ci := 5) (v := .ref it) (C := RX5) (T := TX5) (N := 3) hx hb hts i_X5_move_X5 hown hK hP 0 rfl rfl 0 (by decide) (hts _ mx_X5_move_1) (fun _ h9 => h9) rfl dX5_move_8 ?_
      refine lv_iload_n hx hb dX5_move_11 rfl (lv_at hl 3 rfl) ?_
      refine nw_alk hx hb hK hP 1 3 rfl rfl 1 rfl (Nat.le_of_ble_eq_true rfl) (Nat.le_of_ble_eq_true rfl) hfi.2.1 dX5_move_12 ?_
      refine lv_iload hx hb dX5_move_13 (lv_at hl 4 rfl) ?_
      refine lv_iload hx hb dX5_move_15 (lv_at hl 5 rfl) ?_
      refine va_copyN hx hb hml hl hown (hts _ mx_X5_move_2) (hts _ mx_X5_move_3) (hts _ mx_X5_move_4) (hts _ mx_X5_move_5) hK hP hD hS 6 3 rfl rfl rfl rfl (by omega) (by omega) (Nat.le_of_ble_eq_true rfl) (Nat.le_of_ble_eq_true rfl) (Nat.le_of_ble_eq_true rfl) (Nat.le_of_ble_eq_true rfl) dX5_move_17 (fun H locs hP hD hS => ?_)
      generalize hg_73 : va_cpy f4 f1 ((nI a) : Int32).toNatClampNeg ((nI b) : Int32).toNatClampNeg ((nI n) : Int32).toNatClampNeg = g_73 at hP hD
      have hP : va_P (dC, dI) vwCl [(xo_5_rrr h it la le), (xJ it cJ 8 fi), (xI y0 cI 40 f0), (xI y1 cI 40 g_73), (xI y2 cI 40 f2), (xI y3 cI 40 f3), (xI y4 cI 40 f4), (xI y5 cI 40 f5), (xI y6 cI 40 f6), (xI y7 cI 40 f7)] H := hP
      have hD := dto hP hD
      have hX9 := cut2 (wc := [(xo_5_rrr h it la le), (xJ it cJ 8 fi), (xI y0 cI 40 f0), (xI y1 cI 40 g_73), (xI y2 cI 40 f2), (xI y3 cI 40 f3), (xI y4 cI 40 f4), (xI y5 cI 40 f5), (xI y6 cI 40 f6), (xI y7 cI 40 f7)]) hP hD [0, 1, 2, 3, 4, 5, 6, 7, 8, 9] (by decide +kernel) rfl
      exact W.vret hx hb hr (fun t ht hW => ⟨⟨(), rfl, trivial, ⟨f0, g_73, f2, f3, f4, f5, f6, f7, va_Ht ht hX9.1, hX9.2⟩⟩, hS.F ht⟩) hS.2.2 dX5_move_20
    · skip
      have hl : lv_has ls 6 [(0, .ref h), (1, .int 4), (2, .int (nI a)), (3, .int 2), (4, .int (nI b)), (5, .int (nI n))] := hl
      refine lv_aload_n hx hb dX5_move_7 rfl (lv_at hl 0 rfl) ?_
      refine va_get (D := (dC, dI)) (ci := 5) (v := .ref it) (C := RX5) (T := TX5) (N := 3) hx hb hts i_X5_move_X5 hown hK hP 0 rfl rfl 0 (by decide) (hts _ mx_X5_move_1) (fun _ h9 => h9) rfl dX5_move_8 ?_
      refine lv_iload_n hx hb dX5_move_11 rfl (lv_at hl 3 rfl) ?_
      refine nw_alk hx hb hK hP 1 3 rfl rfl 2 rfl (Nat.le_of_ble_eq_true rfl) (Nat.le_of_ble_eq_true rfl) hfi.2.2.1 dX5_move_12 ?_
      refine lv_iload hx hb dX5_move_13 (lv_at hl 4 rfl) ?_
      refine lv_iload hx hb dX5_move_15 (lv_at hl 5 rfl) ?_
      refine va_copyN hx hb hml hl hown (hts _ mx_X5_move_2) (hts _ mx_X5_move_3) (hts _ mx_X5_move_4) (hts _ mx_X5_move_5) hK hP hD hS 6 4 rfl rfl rfl rfl (by omega) (by omega) (Nat.le_of_ble_eq_true rfl) (Nat.le_of_ble_eq_true rfl) (Nat.le_of_ble_eq_true rfl) (Nat.le_of_ble_eq_true rfl) dX5_move_17 (fun H locs hP hD hS => ?_)
      generalize hg_75 : va_cpy f4 f2 ((nI a) : Int32).toNatClampNeg ((nI b) : Int32).toNatClampNeg ((nI n) : Int32).toNatClampNeg = g_75 at hP hD
      have hP : va_P (dC, dI) vwCl [(xo_5_rrr h it la le), (xJ it cJ 8 fi), (xI y0 cI 40 f0), (xI y1 cI 40 f1), (xI y2 cI 40 g_75), (xI y3 cI 40 f3), (xI y4 cI 40 f4), (xI y5 cI 40 f5), (xI y6 cI 40 f6), (xI y7 cI 40 f7)] H := hP
      have hD := dto hP hD
      have hX9 := cut2 (wc := [(xo_5_rrr h it la le), (xJ it cJ 8 fi), (xI y0 cI 40 f0), (xI y1 cI 40 f1), (xI y2 cI 40 g_75), (xI y3 cI 40 f3), (xI y4 cI 40 f4), (xI y5 cI 40 f5), (xI y6 cI 40 f6), (xI y7 cI 40 f7)]) hP hD [0, 1, 2, 3, 4, 5, 6, 7, 8, 9] (by decide +kernel) rfl
      exact W.vret hx hb hr (fun t ht hW => ⟨⟨(), rfl, trivial, ⟨f0, f1, g_75, f3, f4, f5, f6, f7, va_Ht ht hX9.1, hX9.2⟩⟩, hS.F ht⟩) hS.2.2 dX5_move_20
    · skip
      have hl : lv_has ls 6 [(0, .ref h), (1, .int 4), (2, .int (nI a)), (3, .int 3), (4, .int (nI b)), (5, .int (nI n))] := hl
      refine lv_aload_n hx hb dX5_move_7 rfl (lv_at hl 0 rfl) ?_
      refine va_get (D := (dC, dI)) (ci := 5) (v := .ref it) (C := RX5) (T := TX5) (N := 3) hx hb hts i_X5_move_X5 hown hK hP 0 rfl rfl 0 (by decide) (hts _ mx_X5_move_1) (fun _ h9 => h9) rfl dX5_move_8 ?_
      refine lv_iload_n hx hb dX5_move_11 rfl (lv_at hl 3 rfl) ?_
      refine nw_alk hx hb hK hP 1 3 rfl rfl 3 rfl (Nat.le_of_ble_eq_true rfl) (Nat.le_of_ble_eq_true rfl) hfi.2.2.2.1 dX5_move_12 ?_
      refine lv_iload hx hb dX5_move_13 (lv_at hl 4 rfl) ?_
      refine lv_iload hx hb dX5_move_15 (lv_at hl 5 rfl) ?_
      refine va_copyN hx hb hml hl hown (hts _ mx_X5_move_2) (hts _ mx_X5_move_3) (hts _ mx_X5_move_4) (hts _ mx_X5_move_5) hK hP hD hS 6 5 rfl rfl rfl rfl (by omega) (by omega) (Nat.le_of_ble_eq_true rfl) (Nat.le_of_ble_eq_true rfl) (Nat.le_of_ble_eq_true rfl) (Nat.le_of_ble_eq_true rfl) dX5_move_17 (fun H locs hP hD hS => ?_)
      generalize hg_77 : va_cpy f4 f3 ((nI a) : Int32).toNatClampNeg ((nI b) : Int32).toNatClampNeg ((nI n) : Int32).toNatClampNeg = g_77 at hP hD
      have hP : va_P (dC, dI) vwCl [(xo_5_rrr h it la le), (xJ it cJ 8 fi), (xI y0 cI 40 f0), (xI y1 cI 40 f1), (xI y2 cI 40 f2), (xI y3 cI 40 g_77), (xI y4 cI 40 f4), (xI y5 cI 40 f5), (xI y6 cI 40 f6), (xI y7 cI 40 f7)] H := hP
      have hD := dto hP hD
      have hX9 := cut2 (wc := [(xo_5_rrr h it la le), (xJ it cJ 8 fi), (xI y0 cI 40 f0), (xI y1 cI 40 f1), (xI y2 cI 40 f2), (xI y3 cI 40 g_77), (xI y4 cI 40 f4), (xI y5 cI 40 f5), (xI y6 cI 40 f6), (xI y7 cI 40 f7)]) hP hD [0, 1, 2, 3, 4, 5, 6, 7, 8, 9] (by decide +kernel) rfl
      exact W.vret hx hb hr (fun t ht hW => ⟨⟨(), rfl, trivial, ⟨f0, f1, f2, g_77, f4, f5, f6, f7, va_Ht ht hX9.1, hX9.2⟩⟩, hS.F ht⟩) hS.2.2 dX5_move_20
    · skip
      have hl : lv_has ls 6 [(0, .ref h), (1, .int 4), (2, .int (nI a)), (3, .int 4), (4, .int (nI b)), (5, .int (nI n))] := hl
      refine lv_aload_n hx hb dX5_move_7 rfl (lv_at hl 0 rfl) ?_
      refine va_get (D := (dC, dI)) (ci := 5) (v := .ref it) (C := RX5) (T := TX5) (N := 3) hx hb hts i_X5_move_X5 hown hK hP 0 rfl rfl 0 (by decide) (hts _ mx_X5_move_1) (fun _ h9 => h9) rfl dX5_move_8 ?_
      refine lv_iload_n hx hb dX5_move_11 rfl (lv_at hl 3 rfl) ?_
      refine nw_alk hx hb hK hP 1 3 rfl rfl 4 rfl (Nat.le_of_ble_eq_true rfl) (Nat.le_of_ble_eq_true rfl) hfi.2.2.2.2.1 dX5_move_12 ?_
      refine lv_iload hx hb dX5_move_13 (lv_at hl 4 rfl) ?_
      refine lv_iload hx hb dX5_move_15 (lv_at hl 5 rfl) ?_
      refine va_copyN hx hb hml hl hown (hts _ mx_X5_move_2) (hts _ mx_X5_move_3) (hts _ mx_X5_move_4) (hts _ mx_X5_move_5) hK hP hD hS 6 6 rfl rfl rfl rfl (by omega) (by omega) (Nat.le_of_ble_eq_true rfl) (Nat.le_of_ble_eq_true rfl) (Nat.le_of_ble_eq_true rfl) (Nat.le_of_ble_eq_true rfl) dX5_move_17 (fun H locs hP hD hS => ?_)
      generalize hg_79 : va_cpy f4 f4 ((nI a) : Int32).toNatClampNeg ((nI b) : Int32).toNatClampNeg ((nI n) : Int32).toNatClampNeg = g_79 at hP hD
      have hP : va_P (dC, dI) vwCl [(xo_5_rrr h it la le), (xJ it cJ 8 fi), (xI y0 cI 40 f0), (xI y1 cI 40 f1), (xI y2 cI 40 f2), (xI y3 cI 40 f3), (xI y4 cI 40 g_79), (xI y5 cI 40 f5), (xI y6 cI 40 f6), (xI y7 cI 40 f7)] H := hP
      have hD := dto hP hD
      have hX9 := cut2 (wc := [(xo_5_rrr h it la le), (xJ it cJ 8 fi), (xI y0 cI 40 f0), (xI y1 cI 40 f1), (xI y2 cI 40 f2), (xI y3 cI 40 f3), (xI y4 cI 40 g_79), (xI y5 cI 40 f5), (xI y6 cI 40 f6), (xI y7 cI 40 f7)]) hP hD [0, 1, 2, 3, 4, 5, 6, 7, 8, 9] (by decide +kernel) rfl
      exact W.vret hx hb hr (fun t ht hW => ⟨⟨(), rfl, trivial, ⟨f0, f1, f2, f3, g_79, f5, f6, f7, va_Ht ht hX9.1, hX9.2⟩⟩, hS.F ht⟩) hS.2.2 dX5_move_20
    · skip
      have hl : lv_has ls 6 [(0, .ref h), (1, .int 4), (2, .int (nI a)), (3, .int 5), (4, .int (nI b)), (5, .int (nI n))] := hl
      refine lv_aload_n hx hb dX5_move_7 rfl (lv_at hl 0 rfl) ?_
      refine va_get (D := (dC, dI)) (ci := 5) (v := .ref it) (C := RX5) (T := TX5) (N := 3) hx hb hts i_X5_move_X5 hown hK hP 0 rfl rfl 0 (by decide) (hts _ mx_X5_move_1) (fun _ h9 => h9) rfl dX5_move_8 ?_
      refine lv_iload_n hx hb dX5_move_11 rfl (lv_at hl 3 rfl) ?_
      refine nw_alk hx hb hK hP 1 3 rfl rfl 5 rfl (Nat.le_of_ble_eq_true rfl) (Nat.le_of_ble_eq_true rfl) hfi.2.2.2.2.2.1 dX5_move_12 ?_
      refine lv_iload hx hb dX5_move_13 (lv_at hl 4 rfl) ?_
      refine lv_iload hx hb dX5_move_15 (lv_at hl 5 rfl) ?_
      refine va_copyN hx hb hml hl hown (hts _ mx_X5_move_2) (hts _ mx_X5_move_3) (hts _ mx_X5_move_4) (hts _ mx_X5_move_5) hK hP hD hS 6 7 rfl rfl rfl rfl (by omega) (by omega) (Nat.le_of_ble_eq_true rfl) (Nat.le_of_ble_eq_true rfl) (Nat.le_of_ble_eq_true rfl) (Nat.le_of_ble_eq_true rfl) dX5_move_17 (fun H locs hP hD hS => ?_)
      generalize hg_81 : va_cpy f4 f5 ((nI a) : Int32).toNatClampNeg ((nI b) : Int32).toNatClampNeg ((nI n) : Int32).toNatClampNeg = g_81 at hP hD
      have hP : va_P (dC, dI) vwCl [(xo_5_rrr h it la le), (xJ it cJ 8 fi), (xI y0 cI 40 f0), (xI y1 cI 40 f1), (xI y2 cI 40 f2), (xI y3 cI 40 f3), (xI y4 cI 40 f4), (xI y5 cI 40 g_81), (xI y6 cI 40 f6), (xI y7 cI 40 f7)] H := hP
      have hD := dto hP hD
      have hX9 := cut2 (wc := [(xo_5_rrr h it la le), (xJ it cJ 8 fi), (xI y0 cI 40 f0), (xI y1 cI 40 f1), (xI y2 cI 40 f2), (xI y3 cI 40 f3), (xI y4 cI 40 f4), (xI y5 cI 40 g_81), (xI y6 cI 40 f6), (xI y7 cI 40 f7)]) hP hD [0, 1, 2, 3, 4, 5, 6, 7, 8, 9] (by decide +kernel) rfl
      exact W.vret hx hb hr (fun t ht hW => ⟨⟨(), rfl, trivial, ⟨f0, f1, f2, f3, f4, g_81, f6, f7, va_Ht ht hX9.1, hX9.2⟩⟩, hS.F ht⟩) hS.2.2 dX5_move_20
    · skip
      have hl : lv_has ls 6 [(0, .ref h), (1, .int 4), (2, .int (nI a)), (3, .int 6), (4, .int (nI b)), (5, .int (nI n))] := hl
      refine lv_aload_n hx hb dX5_move_7 rfl (lv_at hl 0 rfl) ?_
      refine va_get (D := (dC, dI)) (ci := 5) (v := .ref it) (C := RX5) (T := TX5) (N := 3) hx hb hts i_X5_move_X5 hown hK hP 0 rfl rfl 0 (by decide) (hts _ mx_X5_move_1) (fun _ h9 => h9) rfl dX5_move_8 ?_
      refine lv_iload_n hx hb dX5_move_11 rfl (lv_at hl 3 rfl) ?_
      refine nw_alk hx hb hK hP 1 3 rfl rfl 6 rfl (Nat.le_of_ble_eq_true rfl) (Nat.le_of_ble_eq_true rfl) hfi.2.2.2.2.2.2.1 dX5_move_12 ?_
      refine lv_iload hx hb dX5_move_13 (lv_at hl 4 rfl) ?_
      refine lv_iload hx hb dX5_move_15 (lv_at hl 5 rfl) ?_
      refine va_copyN hx hb hml hl hown (hts _ mx_X5_move_2) (hts _ mx_X5_move_3) (hts _ mx_X5_move_4) (hts _ mx_X5_move_5) hK hP hD hS 6 8 rfl rfl rfl rfl (by omega) (by omega) (Nat.le_of_ble_eq_true rfl) (Nat.le_of_ble_eq_true rfl) (Nat.le_of_ble_eq_true rfl) (Nat.le_of_ble_eq_true rfl) dX5_move_17 (fun H locs hP hD hS => ?_)
      generalize hg_83 : va_cpy f4 f6 ((nI a) : Int32).toNatClampNeg ((nI b) : Int32).toNatClampNeg ((nI n) : Int32).toNatClampNeg = g_83 at hP hD
      have hP : va_P (dC, dI) vwCl [(xo_5_rrr h it la le), (xJ it cJ 8 fi), (xI y0 cI 40 f0), (xI y1 cI 40 f1), (xI y2 cI 40 f2), (xI y3 cI 40 f3), (xI y4 cI 40 f4), (xI y5 cI 40 f5), (xI y6 cI 40 g_83), (xI y7 cI 40 f7)] H := hP
      have hD := dto hP hD
      have hX9 := cut2 (wc := [(xo_5_rrr h it la le), (xJ it cJ 8 fi), (xI y0 cI 40 f0), (xI y1 cI 40 f1), (xI y2 cI 40 f2), (xI y3 cI 40 f3), (xI y4 cI 40 f4), (xI y5 cI 40 f5), (xI y6 cI 40 g_83), (xI y7 cI 40 f7)]) hP hD [0, 1, 2, 3, 4, 5, 6, 7, 8, 9] (by decide +kernel) rfl
      exact W.vret hx hb hr (fun t ht hW => ⟨⟨(), rfl, trivial, ⟨f0, f1, f2, f3, f4, f5, g_83, f7, va_Ht ht hX9.1, hX9.2⟩⟩, hS.F ht⟩) hS.2.2 dX5_move_20
    · skip
      have hl : lv_has ls 6 [(0, .ref h), (1, .int 4), (2, .int (nI a)), (3, .int 7), (4, .int (nI b)), (5, .int (nI n))] := hl
      refine lv_aload_n hx hb dX5_move_7 rfl (lv_at hl 0 rfl) ?_
      refine va_get (D := (dC, dI)) (ci := 5) (v := .ref it) (C := RX5) (T := TX5) (N := 3) hx hb hts i_X5_move_X5 hown hK hP 0 rfl rfl 0 (by decide) (hts _ mx_X5_move_1) (fun _ h9 => h9) rfl dX5_move_8 ?_
      refine lv_iload_n hx hb dX5_move_11 rfl (lv_at hl 3 rfl) ?_
      refine nw_alk hx hb hK hP 1 3 rfl rfl 7 rfl (Nat.le_of_ble_eq_true rfl) (Nat.le_of_ble_eq_true rfl) hfi.2.2.2.2.2.2.2 dX5_move_12 ?_
      refine lv_iload hx hb dX5_move_13 (lv_at hl 4 rfl) ?_
      refine lv_iload hx hb dX5_move_15 (lv_at hl 5 rfl) ?_
      refine va_copyN hx hb hml hl hown (hts _ mx_X5_move_2) (hts _ mx_X5_move_3) (hts _ mx_X5_move_4) (hts _ mx_X5_move_5) hK hP hD hS 6 9 rfl rfl rfl rfl (by omega) (by omega) (Nat.le_of_ble_eq_true rfl) (Nat.le_of_ble_eq_true rfl) (Nat.le_of_ble_eq_true rfl) (Nat.le_of_ble_eq_true rfl) dX5_move_17 (fun H locs hP hD hS => ?_)
      generalize hg_85 : va_cpy f4 f7 ((nI a) : Int32).toNatClampNeg ((nI b) : Int32).toNatClampNeg ((nI n) : Int32).toNatClampNeg = g_85 at hP hD
      have hP : va_P (dC, dI) vwCl [(xo_5_rrr h it la le), (xJ it cJ 8 fi), (xI y0 cI 40 f0), (xI y1 cI 40 f1), (xI y2 cI 40 f2), (xI y3 cI 40 f3), (xI y4 cI 40 f4), (xI y5 cI 40 f5), (xI y6 cI 40 f6), (xI y7 cI 40 g_85)] H := hP
      have hD := dto hP hD
      have hX9 := cut2 (wc := [(xo_5_rrr h it la le), (xJ it cJ 8 fi), (xI y0 cI 40 f0), (xI y1 cI 40 f1), (xI y2 cI 40 f2), (xI y3 cI 40 f3), (xI y4 cI 40 f4), (xI y5 cI 40 f5), (xI y6 cI 40 f6), (xI y7 cI 40 g_85)]) hP hD [0, 1, 2, 3, 4, 5, 6, 7, 8, 9] (by decide +kernel) rfl
      exact W.vret hx hb hr (fun t ht hW => ⟨⟨(), rfl, trivial, ⟨f0, f1, f2, f3, f4, f5, f6, g_85, va_Ht ht hX9.1, hX9.2⟩⟩, hS.F ht⟩) hS.2.2 dX5_move_20
  · skip
    have hl : lv_has ls 6 [(0, .ref h), (1, .int 5), (2, .int (nI a)), (3, .int (nI k)), (4, .int (nI b)), (5, .int (nI n))] := hl
    refine lv_aload_n hx hb dX5_move_0 rfl (lv_at hl 0 rfl) ?_
    refine va_get (D := (dC, dI)) (ci := 5) (v := .ref it) (C := RX5) (T := TX5) (N := 3) hx hb hts i_X5_move_X5 hown hK hP 0 rfl rfl 0 (by decide) (hts _ mx_X5_move_1) (fun _ h9 => h9) rfl dX5_move_1 ?_
    refine lv_iload_n hx hb dX5_move_4 rfl (lv_at hl 1 rfl) ?_
    refine nw_alk hx hb hK hP 1 3 rfl rfl 5 rfl (Nat.le_of_ble_eq_true rfl) (Nat.le_of_ble_eq_true rfl) hfi.2.2.2.2.2.1 dX5_move_5 ?_
    refine lv_iload_n hx hb dX5_move_6 rfl (lv_at hl 2 rfl) ?_
    rcases (show k = 0 ∨ k = 1 ∨ k = 2 ∨ k = 3 ∨ k = 4 ∨ k = 5 ∨ k = 6 ∨ k = 7 by omega) with rfl | rfl | rfl | rfl | rfl | rfl | rfl | rfl
    · skip
      have hl : lv_has ls 6 [(0, .ref h), (1, .int 5), (2, .int (nI a)), (3, .int 0), (4, .int (nI b)), (5, .int (nI n))] := hl
      refine lv_aload_n hx hb dX5_move_7 rfl (lv_at hl 0 rfl) ?_
      refine va_get (D := (dC, dI)) (ci := 5) (v := .ref it) (C := RX5) (T := TX5) (N := 3) hx hb hts i_X5_move_X5 hown hK hP 0 rfl rfl 0 (by decide) (hts _ mx_X5_move_1) (fun _ h9 => h9) rfl dX5_move_8 ?_
      refine lv_iload_n hx hb dX5_move_11 rfl (lv_at hl 3 rfl) ?_
      refine nw_alk hx hb hK hP 1 3 rfl rfl 0 rfl (Nat.le_of_ble_eq_true rfl) (Nat.le_of_ble_eq_true rfl) hfi.1 dX5_move_12 ?_
      refine lv_iload hx hb dX5_move_13 (lv_at hl 4 rfl) ?_
      refine lv_iload hx hb dX5_move_15 (lv_at hl 5 rfl) ?_
      refine va_copyN hx hb hml hl hown (hts _ mx_X5_move_2) (hts _ mx_X5_move_3) (hts _ mx_X5_move_4) (hts _ mx_X5_move_5) hK hP hD hS 7 2 rfl rfl rfl rfl (by omega) (by omega) (Nat.le_of_ble_eq_true rfl) (Nat.le_of_ble_eq_true rfl) (Nat.le_of_ble_eq_true rfl) (Nat.le_of_ble_eq_true rfl) dX5_move_17 (fun H locs hP hD hS => ?_)
      generalize hg_88 : va_cpy f5 f0 ((nI a) : Int32).toNatClampNeg ((nI b) : Int32).toNatClampNeg ((nI n) : Int32).toNatClampNeg = g_88 at hP hD
      have hP : va_P (dC, dI) vwCl [(xo_5_rrr h it la le), (xJ it cJ 8 fi), (xI y0 cI 40 g_88), (xI y1 cI 40 f1), (xI y2 cI 40 f2), (xI y3 cI 40 f3), (xI y4 cI 40 f4), (xI y5 cI 40 f5), (xI y6 cI 40 f6), (xI y7 cI 40 f7)] H := hP
      have hD := dto hP hD
      have hX9 := cut2 (wc := [(xo_5_rrr h it la le), (xJ it cJ 8 fi), (xI y0 cI 40 g_88), (xI y1 cI 40 f1), (xI y2 cI 40 f2), (xI y3 cI 40 f3), (xI y4 cI 40 f4), (xI y5 cI 40 f5), (xI y6 cI 40 f6), (xI y7 cI 40 f7)]) hP hD [0, 1, 2, 3, 4, 5, 6, 7, 8, 9] (by decide +kernel) rfl
      exact W.vret hx hb hr (fun t ht hW => ⟨⟨(), rfl, trivial, ⟨g_88, f1, f2, f3, f4, f5, f6, f7, va_Ht ht hX9.1, hX9.2⟩⟩, hS.F ht⟩) hS.2.2 dX5_move_20
    · skip
      have hl : lv_has ls 6 [(0, .ref h), (1, .int 5), (2, .int (nI a)), (3, .int 1), (4, .int (nI b)), (5, .int (nI n))] := hl
      refine lv_aload_n hx hb dX5_move_7 rfl (lv_at hl 0 rfl) ?_
      refine va_get (D := (dC, dI)) (ci := 5) (v := .ref it) (C := RX5) (T := TX5) (N := 3) hx hb hts i_X5_move_X5 hown hK hP 0 rfl rfl 0 (by decide) (hts _ mx_X5_move_1) (fun _ h9 => h9) rfl dX5_move_8 ?_
      refine lv_iload_n hx hb dX5_move_11 rfl (lv_at hl 3 rfl) ?_
      refine nw_alk hx hb hK hP 1 3 rfl rfl 1 rfl (Nat.le_of_ble_eq_true rfl) (Nat.le_of_ble_eq_true rfl) hfi.2.1 dX5_move_12 ?_
      refine lv_iload hx hb dX5_move_13 (lv_at hl 4 rfl) ?_
      refine lv_iload hx hb dX5_move_15 (lv_at hl 5 rfl) ?_
      refine va_copyN hx hb hml hl hown (hts _ mx_X5_move_2) (hts _ mx_X5_move_3) (hts _ mx_X5_move_4) (hts _ mx_X5_move_5) hK hP hD hS 7 3 rfl rfl rfl rfl (by omega) (by omega) (Nat.le_of_ble_eq_true rfl) (Nat.le_of_ble_eq_true rfl) (Nat.le_of_ble_eq_true rfl) (Nat.le_of_ble_eq_true rfl) dX5_move_17 (fun H locs hP hD hS => ?_)
      generalize hg_90 : va_cpy f5 f1 ((nI a) : Int32).toNatClampNeg ((nI b) : Int32).toNatClampNeg ((nI n) : Int32).toNatClampNeg = g_90 at hP hD
      have hP : va_P (dC, dI) vwCl [(xo_5_rrr h it la le), (xJ it cJ 8 fi), (xI y0 cI 40 f0), (xI y1 cI 40 g_90), (xI y2 cI 40 f2), (xI y3 cI 40 f3), (xI y4 cI 40 f4), (xI y5 cI 40 f5), (xI y6 cI 40 f6), (xI y7 cI 40 f7)] H := hP
      have hD := dto hP hD
      have hX9 := cut2 (wc := [(xo_5_rrr h it la le), (xJ it cJ 8 fi), (xI y0 cI 40 f0), (xI y1 cI 40 g_90), (xI y2 cI 40 f2), (xI y3 cI 40 f3), (xI y4 cI 40 f4), (xI y5 cI 40 f5), (xI y6 cI 40 f6), (xI y7 cI 40 f7)]) hP hD [0, 1, 2, 3, 4, 5, 6, 7, 8, 9] (by decide +kernel) rfl
      exact W.vret hx hb hr (fun t ht hW => ⟨⟨(), rfl, trivial, ⟨f0, g_90, f2, f3, f4, f5, f6, f7, va_Ht ht hX9.1, hX9.2⟩⟩, hS.F ht⟩) hS.2.2 dX5_move_20
    · skip
      have hl : lv_has ls 6 [(0, .ref h), (1, .int 5), (2, .int (nI a)), (3, .int 2), (4, .int (nI b)), (5, .int (nI n))] := hl
      refine lv_aload_n hx hb dX5_move_7 rfl (lv_at hl 0 rfl) ?_
      refine va_get (D := (dC, dI)) (ci := 5) (v := .ref it) (C := RX5) (T := TX5) (N := 3) hx hb hts i_X5_move_X5 hown hK hP 0 rfl rfl 0 (by decide) (hts _ mx_X5_move_1) (fun _ h9 => h9) rfl dX5_move_8 ?_
      refine lv_iload_n hx hb dX5_move_11 rfl (lv_at hl 3 rfl) ?_
      refine nw_alk hx hb hK hP 1 3 rfl rfl 2 rfl (Nat.le_of_ble_eq_true rfl) (Nat.le_of_ble_eq_true rfl) hfi.2.2.1 dX5_move_12 ?_
      refine lv_iload hx hb dX5_move_13 (lv_at hl 4 rfl) ?_
      refine lv_iload hx hb dX5_move_15 (lv_at hl 5 rfl) ?_
      refine va_copyN hx hb hml hl hown (hts _ mx_X5_move_2) (hts _ mx_X5_move_3) (hts _ mx_X5_move_4) (hts _ mx_X5_move_5) hK hP hD hS 7 4 rfl rfl rfl rfl (by omega) (by omega) (Nat.le_of_ble_eq_true rfl) (Nat.le_of_ble_eq_true rfl) (Nat.le_of_ble_eq_true rfl) (Nat.le_of_ble_eq_true rfl) dX5_move_17 (fun H locs hP hD hS => ?_)
      generalize hg_92 : va_cpy f5 f2 ((nI a) : Int32).toNatClampNeg ((nI b) : Int32).toNatClampNeg ((nI n) : Int32).toNatClampNeg = g_92 at hP hD
      have hP : va_P (dC, dI) vwCl [(xo_5_rrr h it la le), (xJ it cJ 8 fi), (xI y0 cI 40 f0), (xI y1 cI 40 f1), (xI y2 cI 40 g_92), (xI y3 cI 40 f3), (xI y4 cI 40 f4), (xI y5 cI 40 f5), (xI y6 cI 40 f6), (xI y7 cI 40 f7)] H := hP
      have hD := dto hP hD
      have hX9 := cut2 (wc := [(xo_5_rrr h it la le), (xJ it cJ 8 fi), (xI y0 cI 40 f0), (xI y1 cI 40 f1), (xI y2 cI 40 g_92), (xI y3 cI 40 f3), (xI y4 cI 40 f4), (xI y5 cI 40 f5), (xI y6 cI 40 f6), (xI y7 cI 40 f7)]) hP hD [0, 1, 2, 3, 4, 5, 6, 7, 8, 9] (by decide +kernel) rfl
      exact W.vret hx hb hr (fun t ht hW => ⟨⟨(), rfl, trivial, ⟨f0, f1, g_92, f3, f4, f5, f6, f7, va_Ht ht hX9.1, hX9.2⟩⟩, hS.F ht⟩) hS.2.2 dX5_move_20
    · skip
      have hl : lv_has ls 6 [(0, .ref h), (1, .int 5), (2, .int (nI a)), (3, .int 3), (4, .int (nI b)), (5, .int (nI n))] := hl
      refine lv_aload_n hx hb dX5_move_7 rfl (lv_at hl 0 rfl) ?_
      refine va_get (D := (dC, dI)) (ci := 5) (v := .ref it) (C := RX5) (T := TX5) (N := 3) hx hb hts i_X5_move_X5 hown hK hP 0 rfl rfl 0 (by decide) (hts _ mx_X5_move_1) (fun _ h9 => h9) rfl dX5_move_8 ?_
      refine lv_iload_n hx hb dX5_move_11 rfl (lv_at hl 3 rfl) ?_
      refine nw_alk hx hb hK hP 1 3 rfl rfl 3 rfl (Nat.le_of_ble_eq_true rfl) (Nat.le_of_ble_eq_true rfl) hfi.2.2.2.1 dX5_move_12 ?_
      refine lv_iload hx hb dX5_move_13 (lv_at hl 4 rfl) ?_
      refine lv_iload hx hb dX5_move_15 (lv_at hl 5 rfl) ?_
      refine va_copyN hx hb hml hl hown (hts _ mx_X5_move_2) (hts _ mx_X5_move_3) (hts _ mx_X5_move_4) (hts _ mx_X5_move_5) hK hP hD hS 7 5 rfl rfl rfl rfl (by omega) (by omega) (Nat.le_of_ble_eq_true rfl) (Nat.le_of_ble_eq_true rfl) (Nat.le_of_ble_eq_true rfl) (Nat.le_of_ble_eq_true rfl) dX5_move_17 (fun H locs hP hD hS => ?_)
      generalize hg_94 : va_cpy f5 f3 ((nI a) : Int32).toNatClampNeg ((nI b) : Int32).toNatClampNeg ((nI n) : Int32).toNatClampNeg = g_94 at hP hD
      have hP : va_P (dC, dI) vwCl [(xo_5_rrr h it la le), (xJ it cJ 8 fi), (xI y0 cI 40 f0), (xI y1 cI 40 f1), (xI y2 cI 40 f2), (xI y3 cI 40 g_94), (xI y4 cI 40 f4), (xI y5 cI 40 f5), (xI y6 cI 40 f6), (xI y7 cI 40 f7)] H := hP
      have hD := dto hP hD
      have hX9 := cut2 (wc := [(xo_5_rrr h it la le), (xJ it cJ 8 fi), (xI y0 cI 40 f0), (xI y1 cI 40 f1), (xI y2 cI 40 f2), (xI y3 cI 40 g_94), (xI y4 cI 40 f4), (xI y5 cI 40 f5), (xI y6 cI 40 f6), (xI y7 cI 40 f7)]) hP hD [0, 1, 2, 3, 4, 5, 6, 7, 8, 9] (by decide +kernel) rfl
      exact W.vret hx hb hr (fun t ht hW => ⟨⟨(), rfl, trivial, ⟨f0, f1, f2, g_94, f4, f5, f6, f7, va_Ht ht hX9.1, hX9.2⟩⟩, hS.F ht⟩) hS.2.2 dX5_move_20
    · skip
      have hl : lv_has ls 6 [(0, .ref h), (1, .int 5), (2, .int (nI a)), (3, .int 4), (4, .int (nI b)), (5, .int (nI n))] := hl
      refine lv_aload_n hx hb dX5_move_7 rfl (lv_at hl 0 rfl) ?_
      refine va_get (D := (dC, dI)) (ci := 5) (v := .ref it) (C := RX5) (T := TX5) (N := 3) hx hb hts i_X5_move_X5 hown hK hP 0 rfl rfl 0 (by decide) (hts _ mx_X5_move_1) (fun _ h9 => h9) rfl dX5_move_8 ?_
      refine lv_iload_n hx hb dX5_move_11 rfl (lv_at hl 3 rfl) ?_
      refine nw_alk hx hb hK hP 1 3 rfl rfl 4 rfl (Nat.le_of_ble_eq_true rfl) (Nat.le_of_ble_eq_true rfl) hfi.2.2.2.2.1 dX5_move_12 ?_
      refine lv_iload hx hb dX5_move_13 (lv_at hl 4 rfl) ?_
      refine lv_iload hx hb dX5_move_15 (lv_at hl 5 rfl) ?_
      refine va_copyN hx hb hml hl hown (hts _ mx_X5_move_2) (hts _ mx_X5_move_3) (hts _ mx_X5_move_4) (hts _ mx_X5_move_5) hK hP hD hS 7 6 rfl rfl rfl rfl (by omega) (by omega) (Nat.le_of_ble_eq_true rfl) (Nat.le_of_ble_eq_true rfl) (Nat.le_of_ble_eq_true rfl) (Nat.le_of_ble_eq_true rfl) dX5_move_17 (fun H locs hP hD hS => ?_)
      generalize hg_96 : va_cpy f5 f4 ((nI a) : Int32).toNatClampNeg ((nI b) : Int32).toNatClampNeg ((nI n) : Int32).toNatClampNeg = g_96 at hP hD
      have hP : va_P (dC, dI) vwCl [(xo_5_rrr h it la le), (xJ it cJ 8 fi), (xI y0 cI 40 f0), (xI y1 cI 40 f1), (xI y2 cI 40 f2), (xI y3 cI 40 f3), (xI y4 cI 40 g_96), (xI y5 cI 40 f5), (xI y6 cI 40 f6), (xI y7 cI 40 f7)] H := hP
      have hD := dto hP hD
      have hX9 := cut2 (wc := [(xo_5_rrr h it la le), (xJ it cJ 8 fi), (xI y0 cI 40 f0), (xI y1 cI 40 f1), (xI y2 cI 40 f2), (xI y3 cI 40 f3), (xI y4 cI 40 g_96), (xI y5 cI 40 f5), (xI y6 cI 40 f6), (xI y7 cI 40 f7)]) hP hD [0, 1, 2, 3, 4, 5, 6, 7, 8, 9] (by decide +kernel) rfl
      exact W.vret hx hb hr (fun t ht hW => ⟨⟨(), rfl, trivial, ⟨f0, f1, f2, f3, g_96, f5, f6, f7, va_Ht ht hX9.1, hX9.2⟩⟩, hS.F ht⟩) hS.2.2 dX5_move_20
    · skip
      have hl : lv_has ls 6 [(0, .ref h), (1, .int 5), (2, .int (nI a)), (3, .int 5), (4, .int (nI b)), (5, .int (nI n))] := hl
      refine lv_aload_n hx hb dX5_move_7 rfl (lv_at hl 0 rfl) ?_
      refine va_get (D := (dC, dI)) (ci := 5) (v := .ref it) (C := RX5) (T := TX5) (N := 3) hx hb hts i_X5_move_X5 hown hK hP 0 rfl rfl 0 (by decide) (hts _ mx_X5_move_1) (fun _ h9 => h9) rfl dX5_move_8 ?_
      refine lv_iload_n hx hb dX5_move_11 rfl (lv_at hl 3 rfl) ?_
      refine nw_alk hx hb hK hP 1 3 rfl rfl 5 rfl (Nat.le_of_ble_eq_true rfl) (Nat.le_of_ble_eq_true rfl) hfi.2.2.2.2.2.1 dX5_move_12 ?_
      refine lv_iload hx hb dX5_move_13 (lv_at hl 4 rfl) ?_
      refine lv_iload hx hb dX5_move_15 (lv_at hl 5 rfl) ?_
      refine va_copyN hx hb hml hl hown (hts _ mx_X5_move_2) (hts _ mx_X5_move_3) (hts _ mx_X5_move_4) (hts _ mx_X5_move_5) hK hP hD hS 7 7 rfl rfl rfl rfl (by omega) (by omega) (Nat.le_of_ble_eq_true rfl) (Nat.le_of_ble_eq_true rfl) (Nat.le_of_ble_eq_true rfl) (Nat.le_of_ble_eq_true rfl) dX5_move_17 (fun H locs hP hD hS => ?_)
      generalize hg_98 : va_cpy f5 f5 ((nI a) : Int32).toNatClampNeg ((nI b) : Int32).toNatClampNeg ((nI n) : Int32).toNatClampNeg = g_98 at hP hD
      have hP : va_P (dC, dI) vwCl [(xo_5_rrr h it la le), (xJ it cJ 8 fi), (xI y0 cI 40 f0), (xI y1 cI 40 f1), (xI y2 cI 40 f2), (xI y3 cI 40 f3), (xI y4 cI 40 f4), (xI y5 cI 40 g_98), (xI y6 cI 40 f6), (xI y7 cI 40 f7)] H := hP
      have hD := dto hP hD
      have hX9 := cut2 (wc := [(xo_5_rrr h it la le), (xJ it cJ 8 fi), (xI y0 cI 40 f0), (xI y1 cI 40 f1), (xI y2 cI 40 f2), (xI y3 cI 40 f3), (xI y4 cI 40 f4), (xI y5 cI 40 g_98), (xI y6 cI 40 f6), (xI y7 cI 40 f7)]) hP hD [0, 1, 2, 3, 4, 5, 6, 7, 8, 9] (by decide +kernel) rfl
      exact W.vret hx hb hr (fun t ht hW => ⟨⟨(), rfl, trivial, ⟨f0, f1, f2, f3, f4, g_98, f6, f7, va_Ht ht hX9.1, hX9.2⟩⟩, hS.F ht⟩) hS.2.2 dX5_move_20
    · skip
      have hl : lv_has ls 6 [(0, .ref h), (1, .int 5), (2, .int (nI a)), (3, .int 6), (4, .int (nI b)), (5, .int (nI n))] := hl
      refine lv_aload_n hx hb dX5_move_7 rfl (lv_at hl 0 rfl) ?_
      refine va_get (D := (dC, dI)) (ci := 5) (v := .ref it) (C := RX5) (T := TX5) (N := 3) hx hb hts i_X5_move_X5 hown hK hP 0 rfl rfl 0 (by decide) (hts _ mx_X5_move_1) (fun _ h9 => h9) rfl dX5_move_8 ?_
      refine lv_iload_n hx hb dX5_move_11 rfl (lv_at hl 3 rfl) ?_
      refine nw_alk hx hb hK hP 1 3 rfl rfl 6 rfl (Nat.le_of_ble_eq_true rfl) (Nat.le_of_ble_eq_true rfl) hfi.2.2.2.2.2.2.1 dX5_move_12 ?_
      refine lv_iload hx hb dX5_move_13 (lv_at hl 4 rfl) ?_
      refine lv_iload hx hb dX5_move_15 (lv_at hl 5 rfl) ?_
      refine va_copyN hx hb hml hl hown (hts _ mx_X5_move_2) (hts _ mx_X5_move_3) (hts _ mx_X5_move_4) (hts _ mx_X5_move_5) hK hP hD hS 7 8 rfl rfl rfl rfl (by omega) (by omega) (Nat.le_of_ble_eq_true rfl) (Nat.le_of_ble_eq_true rfl) (Nat.le_of_ble_eq_true rfl) (Nat.le_of_ble_eq_true rfl) dX5_move_17 (fun H locs hP hD hS => ?_)
      generalize hg_100 : va_cpy f5 f6 ((nI a) : Int32).toNatClampNeg ((nI b) : Int32).toNatClampNeg ((nI n) : Int32).toNatClampNeg = g_100 at hP hD
      have hP : va_P (dC, dI) vwCl [(xo_5_rrr h it la le), (xJ it cJ 8 fi), (xI y0 cI 40 f0), (xI y1 cI 40 f1), (xI y2 cI 40 f2), (xI y3 cI 40 f3), (xI y4 cI 40 f4), (xI y5 cI 40 f5), (xI y6 cI 40 g_100), (xI y7 cI 40 f7)] H := hP
      have hD := dto hP hD
      have hX9 := cut2 (wc := [(xo_5_rrr h it la le), (xJ it cJ 8 fi), (xI y0 cI 40 f0), (xI y1 cI 40 f1), (xI y2 cI 40 f2), (xI y3 cI 40 f3), (xI y4 cI 40 f4), (xI y5 cI 40 f5), (xI y6 cI 40 g_100), (xI y7 cI 40 f7)]) hP hD [0, 1, 2, 3, 4, 5, 6, 7, 8, 9] (by decide +kernel) rfl
      exact W.vret hx hb hr (fun t ht hW => ⟨⟨(), rfl, trivial, ⟨f0, f1, f2, f3, f4, f5, g_100, f7, va_Ht ht hX9.1, hX9.2⟩⟩, hS.F ht⟩) hS.2.2 dX5_move_20
    · skip
      have hl : lv_has ls 6 [(0, .ref h), (1, .int 5), (2, .int (nI a)), (3, .int 7), (4, .int (nI b)), (5, .int (nI n))] := hl
      refine lv_aload_n hx hb dX5_move_7 rfl (lv_at hl 0 rfl) ?_
      refine va_get (D := (dC, dI)) (ci := 5) (v := .ref it) (C := RX5) (T := TX5) (N := 3) hx hb hts i_X5_move_X5 hown hK hP 0 rfl rfl 0 (by decide) (hts _ mx_X5_move_1) (fun _ h9 => h9) rfl dX5_move_8 ?_
      refine lv_iload_n hx hb dX5_move_11 rfl (lv_at hl 3 rfl) ?_
      refine nw_alk hx hb hK hP 1 3 rfl rfl 7 rfl (Nat.le_of_ble_eq_true rfl) (Nat.le_of_ble_eq_true rfl) hfi.2.2.2.2.2.2.2 dX5_move_12 ?_
      refine lv_iload hx hb dX5_move_13 (lv_at hl 4 rfl) ?_
      refine lv_iload hx hb dX5_move_15 (lv_at hl 5 rfl) ?_
      refine va_copyN hx hb hml hl hown (hts _ mx_X5_move_2) (hts _ mx_X5_move_3) (hts _ mx_X5_move_4) (hts _ mx_X5_move_5) hK hP hD hS 7 9 rfl rfl rfl rfl (by omega) (by omega) (Nat.le_of_ble_eq_true rfl) (Nat.le_of_ble_eq_true rfl) (Nat.le_of_ble_eq_true rfl) (Nat.le_of_ble_eq_true rfl) dX5_move_17 (fun H locs hP hD hS => ?_)
      generalize hg_102 : va_cpy f5 f7 ((nI a) : Int32).toNatClampNeg ((nI b) : Int32).toNatClampNeg ((nI n) : Int32).toNatClampNeg = g_102 at hP hD
      have hP : va_P (dC, dI) vwCl [(xo_5_rrr h it la le), (xJ it cJ 8 fi), (xI y0 cI 40 f0), (xI y1 cI 40 f1), (xI y2 cI 40 f2), (xI y3 cI 40 f3), (xI y4 cI 40 f4), (xI y5 cI 40 f5), (xI y6 cI 40 f6), (xI y7 cI 40 g_102)] H := hP
      have hD := dto hP hD
      have hX9 := cut2 (wc := [(xo_5_rrr h it la le), (xJ it cJ 8 fi), (xI y0 cI 40 f0), (xI y1 cI 40 f1), (xI y2 cI 40 f2), (xI y3 cI 40 f3), (xI y4 cI 40 f4), (xI y5 cI 40 f5), (xI y6 cI 40 f6), (xI y7 cI 40 g_102)]) hP hD [0, 1, 2, 3, 4, 5, 6, 7, 8, 9] (by decide +kernel) rfl
      exact W.vret hx hb hr (fun t ht hW => ⟨⟨(), rfl, trivial, ⟨f0, f1, f2, f3, f4, f5, f6, g_102, va_Ht ht hX9.1, hX9.2⟩⟩, hS.F ht⟩) hS.2.2 dX5_move_20
  · skip
    have hl : lv_has ls 6 [(0, .ref h), (1, .int 6), (2, .int (nI a)), (3, .int (nI k)), (4, .int (nI b)), (5, .int (nI n))] := hl
    refine lv_aload_n hx hb dX5_move_0 rfl (lv_at hl 0 rfl) ?_
    refine va_get (D := (dC, dI)) (ci := 5) (v := .ref it) (C := RX5) (T := TX5) (N := 3) hx hb hts i_X5_move_X5 hown hK hP 0 rfl rfl 0 (by decide) (hts _ mx_X5_move_1) (fun _ h9 => h9) rfl dX5_move_1 ?_
    refine lv_iload_n hx hb dX5_move_4 rfl (lv_at hl 1 rfl) ?_
    refine nw_alk hx hb hK hP 1 3 rfl rfl 6 rfl (Nat.le_of_ble_eq_true rfl) (Nat.le_of_ble_eq_true rfl) hfi.2.2.2.2.2.2.1 dX5_move_5 ?_
    refine lv_iload_n hx hb dX5_move_6 rfl (lv_at hl 2 rfl) ?_
    rcases (show k = 0 ∨ k = 1 ∨ k = 2 ∨ k = 3 ∨ k = 4 ∨ k = 5 ∨ k = 6 ∨ k = 7 by omega) with rfl | rfl | rfl | rfl | rfl | rfl | rfl | rfl
    · skip
      have hl : lv_has ls 6 [(0, .ref h), (1, .int 6), (2, .int (nI a)), (3, .int 0), (4, .int (nI b)), (5, .int (nI n))] := hl
      refine lv_aload_n hx hb dX5_move_7 rfl (lv_at hl 0 rfl) ?_
      refine va_get (D := (dC, dI)) (ci := 5) (v := .ref it) (C := RX5) (T := TX5) (N := 3) hx hb hts i_X5_move_X5 hown hK hP 0 rfl rfl 0 (by decide) (hts _ mx_X5_move_1) (fun _ h9 => h9) rfl dX5_move_8 ?_
      refine lv_iload_n hx hb dX5_move_11 rfl (lv_at hl 3 rfl) ?_
      refine nw_alk hx hb hK hP 1 3 rfl rfl 0 rfl (Nat.le_of_ble_eq_true rfl) (Nat.le_of_ble_eq_true rfl) hfi.1 dX5_move_12 ?_
      refine lv_iload hx hb dX5_move_13 (lv_at hl 4 rfl) ?_
      refine lv_iload hx hb dX5_move_15 (lv_at hl 5 rfl) ?_
      refine va_copyN hx hb hml hl hown (hts _ mx_X5_move_2) (hts _ mx_X5_move_3) (hts _ mx_X5_move_4) (hts _ mx_X5_move_5) hK hP hD hS 8 2 rfl rfl rfl rfl (by omega) (by omega) (Nat.le_of_ble_eq_true rfl) (Nat.le_of_ble_eq_true rfl) (Nat.le_of_ble_eq_true rfl) (Nat.le_of_ble_eq_true rfl) dX5_move_17 (fun H locs hP hD hS => ?_)
      generalize hg_105 : va_cpy f6 f0 ((nI a) : Int32).toNatClampNeg ((nI b) : Int32).toNatClampNeg ((nI n) : Int32).toNatClampNeg = g_105 at hP hD
      have hP : va_P (dC, dI) vwCl [(xo_5_rrr h it la le), (xJ it cJ 8 fi), (xI y0 cI 40 g_105), (xI y1 cI 40 f1), (xI y2 cI 40 f2), (xI y3 cI 40 f3), (xI y4 cI 40 f4), (xI y5 cI 40 f5), (xI y6 cI 40 f6), (xI y7 cI 40 f7)] H := hP
      have hD := dto hP hD
      have hX9 := cut2 (wc := [(xo_5_rrr h it la le), (xJ it cJ 8 fi), (xI y0 cI 40 g_105), (xI y1 cI 40 f1), (xI y2 cI 40 f2), (xI y3 cI 40 f3), (xI y4 cI 40 f4), (xI y5 cI 40 f5), (xI y6 cI 40 f6), (xI y7 cI 40 f7)]) hP hD [0, 1, 2, 3, 4, 5, 6, 7, 8, 9] (by decide +kernel) rfl
      exact W.vret hx hb hr (fun t ht hW => ⟨⟨(), rfl, trivial, ⟨g_105, f1, f2, f3, f4, f5, f6, f7, va_Ht ht hX9.1, hX9.2⟩⟩, hS.F ht⟩) hS.2.2 dX5_move_20
    · skip
      have hl : lv_has ls 6 [(0, .ref h), (1, .int 6), (2, .int (nI a)), (3, .int 1), (4, .int (nI b)), (5, .int (nI n))] := hl
      refine lv_aload_n hx hb dX5_move_7 rfl (lv_at hl 0 rfl) ?_
      refine va_get (D := (dC, dI)) (ci := 5) (v := .ref it) (C := RX5) (T := TX5) (N := 3) hx hb hts i_X5_move_X5 hown hK hP 0 rfl rfl 0 (by decide) (hts _ mx_X5_move_1) (fun _ h9 => h9) rfl dX5_move_8 ?_
      refine lv_iload_n hx hb dX5_move_11 rfl (lv_at hl 3 rfl) ?_
      refine nw_alk hx hb hK hP 1 3 rfl rfl 1 rfl (Nat.le_of_ble_eq_true rfl) (Nat.le_of_ble_eq_true rfl) hfi.2.1 dX5_move_12 ?_
      refine lv_iload hx hb dX5_move_13 (lv_at hl 4 rfl) ?_
      refine lv_iload hx hb dX5_move_15 (lv_at hl 5 rfl) ?_
      refine va_copyN hx hb hml hl hown (hts _ mx_X5_move_2) (hts _ mx_X5_move_3) (hts _ mx_X5_move_4) (hts _ mx_X5_move_5) hK hP hD hS 8 3 rfl rfl rfl rfl (by omega) (by omega) (Nat.le_of_ble_eq_true rfl) (Nat.le_of_ble_eq_true rfl) (Nat.le_of_ble_eq_true rfl) (Nat.le_of_ble_eq_true rfl) dX5_move_17 (fun H locs hP hD hS => ?_)
      generalize hg_107 : va_cpy f6 f1 ((nI a) : Int32).toNatClampNeg ((nI b) : Int32).toNatClampNeg ((nI n) : Int32).toNatClampNeg = g_107 at hP hD
      have hP : va_P (dC, dI) vwCl [(xo_5_rrr h it la le), (xJ it cJ 8 fi), (xI y0 cI 40 f0), (xI y1 cI 40 g_107), (xI y2 cI 40 f2), (xI y3 cI 40 f3), (xI y4 cI 40 f4), (xI y5 cI 40 f5), (xI y6 cI 40 f6), (xI y7 cI 40 f7)] H := hP
      have hD := dto hP hD
      have hX9 := cut2 (wc := [(xo_5_rrr h it la le), (xJ it cJ 8 fi), (xI y0 cI 40 f0), (xI y1 cI 40 g_107), (xI y2 cI 40 f2), (xI y3 cI 40 f3), (xI y4 cI 40 f4), (xI y5 cI 40 f5), (xI y6 cI 40 f6), (xI y7 cI 40 f7)]) hP hD [0, 1, 2, 3, 4, 5, 6, 7, 8, 9] (by decide +kernel) rfl
      exact W.vret hx hb hr (fun t ht hW => ⟨⟨(), rfl, trivial, ⟨f0, g_107, f2, f3, f4, f5, f6, f7, va_Ht ht hX9.1, hX9.2⟩⟩, hS.F ht⟩) hS.2.2 dX5_move_20
    · skip
      have hl : lv_has ls 6 [(0, .ref h), (1, .int 6), (2, .int (nI a)), (3, .int 2), (4, .int (nI b)), (5, .int (nI n))] := hl
      refine lv_aload_n hx hb dX5_move_7 rfl (lv_at hl 0 rfl) ?_
      refine va_get (D := (dC, dI)) (ci := 5) (v := .ref it) (C := RX5) (T := TX5) (N := 3) hx hb hts i_X5_move_X5 hown hK hP 0 rfl rfl 0 (by decide) (hts _ mx_X5_move_1) (fun _ h9 => h9) rfl dX5_move_8 ?_
      refine lv_iload_n hx hb dX5_move_11 rfl (lv_at hl 3 rfl) ?_
      refine nw_alk hx hb hK hP 1 3 rfl rfl 2 rfl (Nat.le_of_ble_eq_true rfl) (Nat.le_of_ble_eq_true rfl) hfi.2.2.1 dX5_move_12 ?_
      refine lv_iload hx hb dX5_move_13 (lv_at hl 4 rfl) ?_
      refine lv_iload hx hb dX5_move_15 (lv_at hl 5 rfl) ?_
      refine va_copyN hx hb hml hl hown (hts _ mx_X5_move_2) (hts _ mx_X5_move_3) (hts _ mx_X5_move_4) (hts _ mx_X5_move_5) hK hP hD hS 8 4 rfl rfl rfl rfl (by omega) (by omega) (Nat.le_of_ble_eq_true rfl) (Nat.le_of_ble_eq_true rfl) (Nat.le_of_ble_eq_true rfl) (Nat.le_of_ble_eq_true rfl) dX5_move_17 (fun H locs hP hD hS => ?_)
      generalize hg_109 : va_cpy f6 f2 ((nI a) : Int32).toNatClampNeg ((nI b) : Int32).toNatClampNeg ((nI n) : Int32).toNatClampNeg = g_109 at hP hD
      have hP : va_P (dC, dI) vwCl [(xo_5_rrr h it la le), (xJ it cJ 8 fi), (xI y0 cI 40 f0), (xI y1 cI 40 f1), (xI y2 cI 40 g_109), (xI y3 cI 40 f3), (xI y4 cI 40 f4), (xI y5 cI 40 f5), (xI y6 cI 40 f6), (xI y7 cI 40 f7)] H := hP
      have hD := dto hP hD
      have hX9 := cut2 (wc := [(xo_5_rrr h it la le), (xJ it cJ 8 fi), (xI y0 cI 40 f0), (xI y1 cI 40 f1), (xI y2 cI 40 g_109), (xI y3 cI 40 f3), (xI y4 cI 40 f4), (xI y5 cI 40 f5), (xI y6 cI 40 f6), (xI y7 cI 40 f7)]) hP hD [0, 1, 2, 3, 4, 5, 6, 7, 8, 9] (by decide +kernel) rfl
      exact W.vret hx hb hr (fun t ht hW => ⟨⟨(), rfl, trivial, ⟨f0, f1, g_109, f3, f4, f5, f6, f7, va_Ht ht hX9.1, hX9.2⟩⟩, hS.F ht⟩) hS.2.2 dX5_move_20
    · skip
      have hl : lv_has ls 6 [(0, .ref h), (1, .int 6), (2, .int (nI a)), (3, .int 3), (4, .int (nI b)), (5, .int (nI n))] := hl
      refine lv_aload_n hx hb dX5_move_7 rfl (lv_at hl 0 rfl) ?_
      refine va_get (D := (dC, dI)) (ci := 5) (v := .ref it) (C := RX5) (T := TX5) (N := 3) hx hb hts i_X5_move_X5 hown hK hP 0 rfl rfl 0 (by decide) (hts _ mx_X5_move_1) (fun _ h9 => h9) rfl dX5_move_8 ?_
      refine lv_iload_n hx hb dX5_move_11 rfl (lv_at hl 3 rfl) ?_
      refine nw_alk hx hb hK hP 1 3 rfl rfl 3 rfl (Nat.le_of_ble_eq_true rfl) (Nat.le_of_ble_eq_true rfl) hfi.2.2.2.1 dX5_move_12 ?_
      refine lv_iload hx hb dX5_move_13 (lv_at hl 4 rfl) ?_
      refine lv_iload hx hb dX5_move_15 (lv_at hl 5 rfl) ?_
      refine va_copyN hx hb hml hl hown (hts _ mx_X5_move_2) (hts _ mx_X5_move_3) (hts _ mx_X5_move_4) (hts _ mx_X5_move_5) hK hP hD hS 8 5 rfl rfl rfl rfl (by omega) (by omega) (Nat.le_of_ble_eq_true rfl) (Nat.le_of_ble_eq_true rfl) (Nat.le_of_ble_eq_true rfl) (Nat.le_of_ble_eq_true rfl) dX5_move_17 (fun H locs hP hD hS => ?_)
      generalize hg_111 : va_cpy f6 f3 ((nI a) : Int32).toNatClampNeg ((nI b) : Int32).toNatClampNeg ((nI n) : Int32).toNatClampNeg = g_111 at hP hD
      have hP : va_P (dC, dI) vwCl [(xo_5_rrr h it la le), (xJ it cJ 8 fi), (xI y0 cI 40 f0), (xI y1 cI 40 f1), (xI y2 cI 40 f2), (xI y3 cI 40 g_111), (xI y4 cI 40 f4), (xI y5 cI 40 f5), (xI y6 cI 40 f6), (xI y7 cI 40 f7)] H := hP
      have hD := dto hP hD
      have hX9 := cut2 (wc := [(xo_5_rrr h it la le), (xJ it cJ 8 fi), (xI y0 cI 40 f0), (xI y1 cI 40 f1), (xI y2 cI 40 f2), (xI y3 cI 40 g_111), (xI y4 cI 40 f4), (xI y5 cI 40 f5), (xI y6 cI 40 f6), (xI y7 cI 40 f7)]) hP hD [0, 1, 2, 3, 4, 5, 6, 7, 8, 9] (by decide +kernel) rfl
      exact W.vret hx hb hr (fun t ht hW => ⟨⟨(), rfl, trivial, ⟨f0, f1, f2, g_111, f4, f5, f6, f7, va_Ht ht hX9.1, hX9.2⟩⟩, hS.F ht⟩) hS.2.2 dX5_move_20
    · skip
      have hl : lv_has ls 6 [(0, .ref h), (1, .int 6), (2, .int (nI a)), (3, .int 4), (4, .int (nI b)), (5, .int (nI n))] := hl
      refine lv_aload_n hx hb dX5_move_7 rfl (lv_at hl 0 rfl) ?_
      refine va_get (D := (dC, dI)) (ci := 5) (v := .ref it) (C := RX5) (T := TX5) (N := 3) hx hb hts i_X5_move_X5 hown hK hP 0 rfl rfl 0 (by decide) (hts _ mx_X5_move_1) (fun _ h9 => h9) rfl dX5_move_8 ?_
      refine lv_iload_n hx hb dX5_move_11 rfl (lv_at hl 3 rfl) ?_
      refine nw_alk hx hb hK hP 1 3 rfl rfl 4 rfl (Nat.le_of_ble_eq_true rfl) (Nat.le_of_ble_eq_true rfl) hfi.2.2.2.2.1 dX5_move_12 ?_
      refine lv_iload hx hb dX5_move_13 (lv_at hl 4 rfl) ?_
      refine lv_iload hx hb dX5_move_15 (lv_at hl 5 rfl) ?_
      refine va_copyN hx hb hml hl hown (hts _ mx_X5_move_2) (hts _ mx_X5_move_3) (hts _ mx_X5_move_4) (hts _ mx_X5_move_5) hK hP hD hS 8 6 rfl rfl rfl rfl (by omega) (by omega) (Nat.le_of_ble_eq_true rfl) (Nat.le_of_ble_eq_true rfl) (Nat.le_of_ble_eq_true rfl) (Nat.le_of_ble_eq_true rfl) dX5_move_17 (fun H locs hP hD hS => ?_)
      generalize hg_113 : va_cpy f6 f4 ((nI a) : Int32).toNatClampNeg ((nI b) : Int32).toNatClampNeg ((nI n) : Int32).toNatClampNeg = g_113 at hP hD
      have hP : va_P (dC, dI) vwCl [(xo_5_rrr h it la le), (xJ it cJ 8 fi), (xI y0 cI 40 f0), (xI y1 cI 40 f1), (xI y2 cI 40 f2), (xI y3 cI 40 f3), (xI y4 cI 40 g_113), (xI y5 cI 40 f5), (xI y6 cI 40 f6), (xI y7 cI 40 f7)] H := hP
      have hD := dto hP hD
      have hX9 := cut2 (wc := [(xo_5_rrr h it la le), (xJ it cJ 8 fi), (xI y0 cI 40 f0), (xI y1 cI 40 f1), (xI y2 cI 40 f2), (xI y3 cI 40 f3), (xI y4 cI 40 g_113), (xI y5 cI 40 f5), (xI y6 cI 40 f6), (xI y7 cI 40 f7)]) hP hD [0, 1, 2, 3, 4, 5, 6, 7, 8, 9] (by decide +kernel) rfl
      exact W.vret hx hb hr (fun t ht hW => ⟨⟨(), rfl, trivial, ⟨f0, f1, f2, f3, g_113, f5, f6, f7, va_Ht ht hX9.1, hX9.2⟩⟩, hS.F ht⟩) hS.2.2 dX5_move_20
    · skip
      have hl : lv_has ls 6 [(0, .ref h), (1, .int 6), (2, .int (nI a)), (3, .int 5), (4, .int (nI b)), (5, .int (nI n))] := hl
      refine lv_aload_n hx hb dX5_move_7 rfl (lv_at hl 0 rfl) ?_
      refine va_get (D := (dC, dI)) (ci := 5) (v := .ref it) (C := RX5) (T := TX5) (N := 3) hx hb hts i_X5_move_X5 hown hK hP 0 rfl rfl 0 (by decide) (hts _ mx_X5_move_1) (fun _ h9 => h9) rfl dX5_move_8 ?_
      refine lv_iload_n hx hb dX5_move_11 rfl (lv_at hl 3 rfl) ?_
      refine nw_alk hx hb hK hP 1 3 rfl rfl 5 rfl (Nat.le_of_ble_eq_true rfl) (Nat.le_of_ble_eq_true rfl) hfi.2.2.2.2.2.1 dX5_move_12 ?_
      refine lv_iload hx hb dX5_move_13 (lv_at hl 4 rfl) ?_
      refine lv_iload hx hb dX5_move_15 (lv_at hl 5 rfl) ?_
      refine va_copyN hx hb hml hl hown (hts _ mx_X5_move_2) (hts _ mx_X5_move_3) (hts _ mx_X5_move_4) (hts _ mx_X5_move_5) hK hP hD hS 8 7 rfl rfl rfl rfl (by omega) (by omega) (Nat.le_of_ble_eq_true rfl) (Nat.le_of_ble_eq_true rfl) (Nat.le_of_ble_eq_true rfl) (Nat.le_of_ble_eq_true rfl) dX5_move_17 (fun H locs hP hD hS => ?_)
      generalize hg_115 : va_cpy f6 f5 ((nI a) : Int32).toNatClampNeg ((nI b) : Int32).toNatClampNeg ((nI n) : Int32).toNatClampNeg = g_115 at hP hD
      have hP : va_P (dC, dI) vwCl [(xo_5_rrr h it la le), (xJ it cJ 8 fi), (xI y0 cI 40 f0), (xI y1 cI 40 f1), (xI y2 cI 40 f2), (xI y3 cI 40 f3), (xI y4 cI 40 f4), (xI y5 cI 40 g_115), (xI y6 cI 40 f6), (xI y7 cI 40 f7)] H := hP
      have hD := dto hP hD
      have hX9 := cut2 (wc := [(xo_5_rrr h it la le), (xJ it cJ 8 fi), (xI y0 cI 40 f0), (xI y1 cI 40 f1), (xI y2 cI 40 f2), (xI y3 cI 40 f3), (xI y4 cI 40 f4), (xI y5 cI 40 g_115), (xI y6 cI 40 f6), (xI y7 cI 40 f7)]) hP hD [0, 1, 2, 3, 4, 5, 6, 7, 8, 9] (by decide +kernel) rfl
      exact W.vret hx hb hr (fun t ht hW => ⟨⟨(), rfl, trivial, ⟨f0, f1, f2, f3, f4, g_115, f6, f7, va_Ht ht hX9.1, hX9.2⟩⟩, hS.F ht⟩) hS.2.2 dX5_move_20
    · skip
      have hl : lv_has ls 6 [(0, .ref h), (1, .int 6), (2, .int (nI a)), (3, .int 6), (4, .int (nI b)), (5, .int (nI n))] := hl
      refine lv_aload_n hx hb dX5_move_7 rfl (lv_at hl 0 rfl) ?_
      refine va_get (D := (dC, dI)) (ci := 5) (v := .ref it) (C := RX5) (T := TX5) (N := 3) hx hb hts i_X5_move_X5 hown hK hP 0 rfl rfl 0 (by decide) (hts _ mx_X5_move_1) (fun _ h9 => h9) rfl dX5_move_8 ?_
      refine lv_iload_n hx hb dX5_move_11 rfl (lv_at hl 3 rfl) ?_
      refine nw_alk hx hb hK hP 1 3 rfl rfl 6 rfl (Nat.le_of_ble_eq_true rfl) (Nat.le_of_ble_eq_true rfl) hfi.2.2.2.2.2.2.1 dX5_move_12 ?_
      refine lv_iload hx hb dX5_move_13 (lv_at hl 4 rfl) ?_
      refine lv_iload hx hb dX5_move_15 (lv_at hl 5 rfl) ?_
      refine va_copyN hx hb hml hl hown (hts _ mx_X5_move_2) (hts _ mx_X5_move_3) (hts _ mx_X5_move_4) (hts _ mx_X5_move_5) hK hP hD hS 8 8 rfl rfl rfl rfl (by omega) (by omega) (Nat.le_of_ble_eq_true rfl) (Nat.le_of_ble_eq_true rfl) (Nat.le_of_ble_eq_true rfl) (Nat.le_of_ble_eq_true rfl) dX5_move_17 (fun H locs hP hD hS => ?_)
      generalize hg_117 : va_cpy f6 f6 ((nI a) : Int32).toNatClampNeg ((nI b) : Int32).toNatClampNeg ((nI n) : Int32).toNatClampNeg = g_117 at hP hD
      have hP : va_P (dC, dI) vwCl [(xo_5_rrr h it la le), (xJ it cJ 8 fi), (xI y0 cI 40 f0), (xI y1 cI 40 f1), (xI y2 cI 40 f2), (xI y3 cI 40 f3), (xI y4 cI 40 f4), (xI y5 cI 40 f5), (xI y6 cI 40 g_117), (xI y7 cI 40 f7)] H := hP
      have hD := dto hP hD
      have hX9 := cut2 (wc := [(xo_5_rrr h it la le), (xJ it cJ 8 fi), (xI y0 cI 40 f0), (xI y1 cI 40 f1), (xI y2 cI 40 f2), (xI y3 cI 40 f3), (xI y4 cI 40 f4), (xI y5 cI 40 f5), (xI y6 cI 40 g_117), (xI y7 cI 40 f7)]) hP hD [0, 1, 2, 3, 4, 5, 6, 7, 8, 9] (by decide +kernel) rfl
      exact W.vret hx hb hr (fun t ht hW => ⟨⟨(), rfl, trivial, ⟨f0, f1, f2, f3, f4, f5, g_117, f7, va_Ht ht hX9.1, hX9.2⟩⟩, hS.F ht⟩) hS.2.2 dX5_move_20
    · skip
      have hl : lv_has ls 6 [(0, .ref h), (1, .int 6), (2, .int (nI a)), (3, .int 7), (4, .int (nI b)), (5, .int (nI n))] := hl
      refine lv_aload_n hx hb dX5_move_7 rfl (lv_at hl 0 rfl) ?_
      refine va_get (D := (dC, dI)) (ci := 5) (v := .ref it) (C := RX5) (T := TX5) (N := 3) hx hb hts i_X5_move_X5 hown hK hP 0 rfl rfl 0 (by decide) (hts _ mx_X5_move_1) (fun _ h9 => h9) rfl dX5_move_8 ?_
      refine lv_iload_n hx hb dX5_move_11 rfl (lv_at hl 3 rfl) ?_
      refine nw_alk hx hb hK hP 1 3 rfl rfl 7 rfl (Nat.le_of_ble_eq_true rfl) (Nat.le_of_ble_eq_true rfl) hfi.2.2.2.2.2.2.2 dX5_move_12 ?_
      refine lv_iload hx hb dX5_move_13 (lv_at hl 4 rfl) ?_
      refine lv_iload hx hb dX5_move_15 (lv_at hl 5 rfl) ?_
      refine va_copyN hx hb hml hl hown (hts _ mx_X5_move_2) (hts _ mx_X5_move_3) (hts _ mx_X5_move_4) (hts _ mx_X5_move_5) hK hP hD hS 8 9 rfl rfl rfl rfl (by omega) (by omega) (Nat.le_of_ble_eq_true rfl) (Nat.le_of_ble_eq_true rfl) (Nat.le_of_ble_eq_true rfl) (Nat.le_of_ble_eq_true rfl) dX5_move_17 (fun H locs hP hD hS => ?_)
      generalize hg_119 : va_cpy f6 f7 ((nI a) : Int32).toNatClampNeg ((nI b) : Int32).toNatClampNeg ((nI n) : Int32).toNatClampNeg = g_119 at hP hD
      have hP : va_P (dC, dI) vwCl [(xo_5_rrr h it la le), (xJ it cJ 8 fi), (xI y0 cI 40 f0), (xI y1 cI 40 f1), (xI y2 cI 40 f2), (xI y3 cI 40 f3), (xI y4 cI 40 f4), (xI y5 cI 40 f5), (xI y6 cI 40 f6), (xI y7 cI 40 g_119)] H := hP
      have hD := dto hP hD
      have hX9 := cut2 (wc := [(xo_5_rrr h it la le), (xJ it cJ 8 fi), (xI y0 cI 40 f0), (xI y1 cI 40 f1), (xI y2 cI 40 f2), (xI y3 cI 40 f3), (xI y4 cI 40 f4), (xI y5 cI 40 f5), (xI y6 cI 40 f6), (xI y7 cI 40 g_119)]) hP hD [0, 1, 2, 3, 4, 5, 6, 7, 8, 9] (by decide +kernel) rfl
      exact W.vret hx hb hr (fun t ht hW => ⟨⟨(), rfl, trivial, ⟨f0, f1, f2, f3, f4, f5, f6, g_119, va_Ht ht hX9.1, hX9.2⟩⟩, hS.F ht⟩) hS.2.2 dX5_move_20
  · skip
    have hl : lv_has ls 6 [(0, .ref h), (1, .int 7), (2, .int (nI a)), (3, .int (nI k)), (4, .int (nI b)), (5, .int (nI n))] := hl
    refine lv_aload_n hx hb dX5_move_0 rfl (lv_at hl 0 rfl) ?_
    refine va_get (D := (dC, dI)) (ci := 5) (v := .ref it) (C := RX5) (T := TX5) (N := 3) hx hb hts i_X5_move_X5 hown hK hP 0 rfl rfl 0 (by decide) (hts _ mx_X5_move_1) (fun _ h9 => h9) rfl dX5_move_1 ?_
    refine lv_iload_n hx hb dX5_move_4 rfl (lv_at hl 1 rfl) ?_
    refine nw_alk hx hb hK hP 1 3 rfl rfl 7 rfl (Nat.le_of_ble_eq_true rfl) (Nat.le_of_ble_eq_true rfl) hfi.2.2.2.2.2.2.2 dX5_move_5 ?_
    refine lv_iload_n hx hb dX5_move_6 rfl (lv_at hl 2 rfl) ?_
    rcases (show k = 0 ∨ k = 1 ∨ k = 2 ∨ k = 3 ∨ k = 4 ∨ k = 5 ∨ k = 6 ∨ k = 7 by omega) with rfl | rfl | rfl | rfl | rfl | rfl | rfl | rfl
    · skip
      have hl : lv_has ls 6 [(0, .ref h), (1, .int 7), (2, .int (nI a)), (3, .int 0), (4, .int (nI b)), (5, .int (nI n))] := hl
      refine lv_aload_n hx hb dX5_move_7 rfl (lv_at hl 0 rfl) ?_
      refine va_get (D := (dC, dI)) (ci := 5) (v := .ref it) (C := RX5) (T := TX5) (N := 3) hx hb hts i_X5_move_X5 hown hK hP 0 rfl rfl 0 (by decide) (hts _ mx_X5_move_1) (fun _ h9 => h9) rfl dX5_move_8 ?_
      refine lv_iload_n hx hb dX5_move_11 rfl (lv_at hl 3 rfl) ?_
      refine nw_alk hx hb hK hP 1 3 rfl rfl 0 rfl (Nat.le_of_ble_eq_true rfl) (Nat.le_of_ble_eq_true rfl) hfi.1 dX5_move_12 ?_
      refine lv_iload hx hb dX5_move_13 (lv_at hl 4 rfl) ?_
      refine lv_iload hx hb dX5_move_15 (lv_at hl 5 rfl) ?_
      refine va_copyN hx hb hml hl hown (hts _ mx_X5_move_2) (hts _ mx_X5_move_3) (hts _ mx_X5_move_4) (hts _ mx_X5_move_5) hK hP hD hS 9 2 rfl rfl rfl rfl (by omega) (by omega) (Nat.le_of_ble_eq_true rfl) (Nat.le_of_ble_eq_true rfl) (Nat.le_of_ble_eq_true rfl) (Nat.le_of_ble_eq_true rfl) dX5_move_17 (fun H locs hP hD hS => ?_)
      generalize hg_122 : va_cpy f7 f0 ((nI a) : Int32).toNatClampNeg ((nI b) : Int32).toNatClampNeg ((nI n) : Int32).toNatClampNeg = g_122 at hP hD
      have hP : va_P (dC, dI) vwCl [(xo_5_rrr h it la le), (xJ it cJ 8 fi), (xI y0 cI 40 g_122), (xI y1 cI 40 f1), (xI y2 cI 40 f2), (xI y3 cI 40 f3), (xI y4 cI 40 f4), (xI y5 cI 40 f5), (xI y6 cI 40 f6), (xI y7 cI 40 f7)] H := hP
      have hD := dto hP hD
      have hX9 := cut2 (wc := [(xo_5_rrr h it la le), (xJ it cJ 8 fi), (xI y0 cI 40 g_122), (xI y1 cI 40 f1), (xI y2 cI 40 f2), (xI y3 cI 40 f3), (xI y4 cI 40 f4), (xI y5 cI 40 f5), (xI y6 cI 40 f6), (xI y7 cI 40 f7)]) hP hD [0, 1, 2, 3, 4, 5, 6, 7, 8, 9] (by decide +kernel) rfl
      exact W.vret hx hb hr (fun t ht hW => ⟨⟨(), rfl, trivial, ⟨g_122, f1, f2, f3, f4, f5, f6, f7, va_Ht ht hX9.1, hX9.2⟩⟩, hS.F ht⟩) hS.2.2 dX5_move_20
    · skip
      have hl : lv_has ls 6 [(0, .ref h), (1, .int 7), (2, .int (nI a)), (3, .int 1), (4, .int (nI b)), (5, .int (nI n))] := hl
      refine lv_aload_n hx hb dX5_move_7 rfl (lv_at hl 0 rfl) ?_
      refine va_get (D := (dC, dI)) (ci := 5) (v := .ref it) (C := RX5) (T := TX5) (N := 3) hx hb hts i_X5_move_X5 hown hK hP 0 rfl rfl 0 (by decide) (hts _ mx_X5_move_1) (fun _ h9 => h9) rfl dX5_move_8 ?_
      refine lv_iload_n hx hb dX5_move_11 rfl (lv_at hl 3 rfl) ?_
      refine nw_alk hx hb hK hP 1 3 rfl rfl 1 rfl (Nat.le_of_ble_eq_true rfl) (Nat.le_of_ble_eq_true rfl) hfi.2.1 dX5_move_12 ?_
      refine lv_iload hx hb dX5_move_13 (lv_at hl 4 rfl) ?_
      refine lv_iload hx hb dX5_move_15 (lv_at hl 5 rfl) ?_
      refine va_copyN hx hb hml hl hown (hts _ mx_X5_move_2) (hts _ mx_X5_move_3) (hts _ mx_X5_move_4) (hts _ mx_X5_move_5) hK hP hD hS 9 3 rfl rfl rfl rfl (by omega) (by omega) (Nat.le_of_ble_eq_true rfl) (Nat.le_of_ble_eq_true rfl) (Nat.le_of_ble_eq_true rfl) (Nat.le_of_ble_eq_true rfl) dX5_move_17 (fun H locs hP hD hS => ?_)
      generalize hg_124 : va_cpy f7 f1 ((nI a) : Int32).toNatClampNeg ((nI b) : Int32).toNatClampNeg ((nI n) : Int32).toNatClampNeg = g_124 at hP hD
      have hP : va_P (dC, dI) vwCl [(xo_5_rrr h it la le), (xJ it cJ 8 fi), (xI y0 cI 40 f0), (xI y1 cI 40 g_124), (xI y2 cI 40 f2), (xI y3 cI 40 f3), (xI y4 cI 40 f4), (xI y5 cI 40 f5), (xI y6 cI 40 f6), (xI y7 cI 40 f7)] H := hP
      have hD := dto hP hD
      have hX9 := cut2 (wc := [(xo_5_rrr h it la le), (xJ it cJ 8 fi), (xI y0 cI 40 f0), (xI y1 cI 40 g_124), (xI y2 cI 40 f2), (xI y3 cI 40 f3), (xI y4 cI 40 f4), (xI y5 cI 40 f5), (xI y6 cI 40 f6), (xI y7 cI 40 f7)]) hP hD [0, 1, 2, 3, 4, 5, 6, 7, 8, 9] (by decide +kernel) rfl
      exact W.vret hx hb hr (fun t ht hW => ⟨⟨(), rfl, trivial, ⟨f0, g_124, f2, f3, f4, f5, f6, f7, va_Ht ht hX9.1, hX9.2⟩⟩, hS.F ht⟩) hS.2.2 dX5_move_20
    · skip
      have hl : lv_has ls 6 [(0, .ref h), (1, .int 7), (2, .int (nI a)), (3, .int 2), (4, .int (nI b)), (5, .int (nI n))] := hl
      refine lv_aload_n hx hb dX5_move_7 rfl (lv_at hl 0 rfl) ?_
      refine va_get (D := (dC, dI)) (ci := 5) (v := .ref it) (C := RX5) (T := TX5) (N := 3) hx hb hts i_X5_move_X5 hown hK hP 0 rfl rfl 0 (by decide) (hts _ mx_X5_move_1) (fun _ h9 => h9) rfl dX5_move_8 ?_
      refine lv_iload_n hx hb dX5_move_11 rfl (lv_at hl 3 rfl) ?_
      refine nw_alk hx hb hK hP 1 3 rfl rfl 2 rfl (Nat.le_of_ble_eq_true rfl) (Nat.le_of_ble_eq_true rfl) hfi.2.2.1 dX5_move_12 ?_
      refine lv_iload hx hb dX5_move_13 (lv_at hl 4 rfl) ?_
      refine lv_iload hx hb dX5_move_15 (lv_at hl 5 rfl) ?_
      refine va_copyN hx hb hml hl hown (hts _ mx_X5_move_2) (hts _ mx_X5_move_3) (hts _ mx_X5_move_4) (hts _ mx_X5_move_5) hK hP hD hS 9 4 rfl rfl rfl rfl (by omega) (by omega) (Nat.le_of_ble_eq_true rfl) (Nat.le_of_ble_eq_true rfl) (Nat.le_of_ble_eq_true rfl) (Nat.le_of_ble_eq_true rfl) dX5_move_17 (fun H locs hP hD hS => ?_)
      generalize hg_126 : va_cpy f7 f2 ((nI a) : Int32).toNatClampNeg ((nI b) : Int32).toNatClampNeg ((nI n) : Int32).toNatClampNeg = g_126 at hP hD
      have hP : va_P (dC, dI) vwCl [(xo_5_rrr h it la le), (xJ it cJ 8 fi), (xI y0 cI 40 f0), (xI y1 cI 40 f1), (xI y2 cI 40 g_126), (xI y3 cI 40 f3), (xI y4 cI 40 f4), (xI y5 cI 40 f5), (xI y6 cI 40 f6), (xI y7 cI 40 f7)] H := hP
      have hD := dto hP hD
      have hX9 := cut2 (wc := [(xo_5_rrr h it la le), (xJ it cJ 8 fi), (xI y0 cI 40 f0), (xI y1 cI 40 f1), (xI y2 cI 40 g_126), (xI y3 cI 40 f3), (xI y4 cI 40 f4), (xI y5 cI 40 f5), (xI y6 cI 40 f6), (xI y7 cI 40 f7)]) hP hD [0, 1, 2, 3, 4, 5, 6, 7, 8, 9] (by decide +kernel) rfl
      exact W.vret hx hb hr (fun t ht hW => ⟨⟨(), rfl, trivial, ⟨f0, f1, g_126, f3, f4, f5, f6, f7, va_Ht ht hX9.1, hX9.2⟩⟩, hS.F ht⟩) hS.2.2 dX5_move_20
    · skip
      have hl : lv_has ls 6 [(0, .ref h), (1, .int 7), (2, .int (nI a)), (3, .int 3), (4, .int (nI b)), (5, .int (nI n))] := hl
      refine lv_aload_n hx hb dX5_move_7 rfl (lv_at hl 0 rfl) ?_
      refine va_get (D := (dC, dI)) (ci := 5) (v := .ref it) (C := RX5) (T := TX5) (N := 3) hx hb hts i_X5_move_X5 hown hK hP 0 rfl rfl 0 (by decide) (hts _ mx_X5_move_1) (fun _ h9 => h9) rfl dX5_move_8 ?_
      refine lv_iload_n hx hb dX5_move_11 rfl (lv_at hl 3 rfl) ?_
      refine nw_alk hx hb hK hP 1 3 rfl rfl 3 rfl (Nat.le_of_ble_eq_true rfl) (Nat.le_of_ble_eq_true rfl) hfi.2.2.2.1 dX5_move_12 ?_
      refine lv_iload hx hb dX5_move_13 (lv_at hl 4 rfl) ?_
      refine lv_iload hx hb dX5_move_15 (lv_at hl 5 rfl) ?_
      refine va_copyN hx hb hml hl hown (hts _ mx_X5_move_2) (hts _ mx_X5_move_3) (hts _ mx_X5_move_4) (hts _ mx_X5_move_5) hK hP hD hS 9 5 rfl rfl rfl rfl (by omega) (by omega) (Nat.le_of_ble_eq_true rfl) (Nat.le_of_ble_eq_true rfl) (Nat.le_of_ble_eq_true rfl) (Nat.le_of_ble_eq_true rfl) dX5_move_17 (fun H locs hP hD hS => ?_)
      generalize hg_128 : va_cpy f7 f3 ((nI a) : Int32).toNatClampNeg ((nI b) : Int32).toNatClampNeg ((nI n) : Int32).toNatClampNeg = g_128 at hP hD
      have hP : va_P (dC, dI) vwCl [(xo_5_rrr h it la le), (xJ it cJ 8 fi), (xI y0 cI 40 f0), (xI y1 cI 40 f1), (xI y2 cI 40 f2), (xI y3 cI 40 g_128), (xI y4 cI 40 f4), (xI y5 cI 40 f5), (xI y6 cI 40 f6), (xI y7 cI 40 f7)] H := hP
      have hD := dto hP hD
      have hX9 := cut2 (wc := [(xo_5_rrr h it la le), (xJ it cJ 8 fi), (xI y0 cI 40 f0), (xI y1 cI 40 f1), (xI y2 cI 40 f2), (xI y3 cI 40 g_128), (xI y4 cI 40 f4), (xI y5 cI 40 f5), (xI y6 cI 40 f6), (xI y7 cI 40 f7)]) hP hD [0, 1, 2, 3, 4, 5, 6, 7, 8, 9] (by decide +kernel) rfl
      exact W.vret hx hb hr (fun t ht hW => ⟨⟨(), rfl, trivial, ⟨f0, f1, f2, g_128, f4, f5, f6, f7, va_Ht ht hX9.1, hX9.2⟩⟩, hS.F ht⟩) hS.2.2 dX5_move_20
    · skip
      have hl : lv_has ls 6 [(0, .ref h), (1, .int 7), (2, .int (nI a)), (3, .int 4), (4, .int (nI b)), (5, .int (nI n))] := hl
      refine lv_aload_n hx hb dX5_move_7 rfl (lv_at hl 0 rfl) ?_
      refine va_get (D := (dC, dI)) (ci := 5) (v := .ref it) (C := RX5) (T := TX5) (N := 3) hx hb hts i_X5_move_X5 hown hK hP 0 rfl rfl 0 (by decide) (hts _ mx_X5_move_1) (fun _ h9 => h9) rfl dX5_move_8 ?_
      refine lv_iload_n hx hb dX5_move_11 rfl (lv_at hl 3 rfl) ?_
      refine nw_alk hx hb hK hP 1 3 rfl rfl 4 rfl (Nat.le_of_ble_eq_true rfl) (Nat.le_of_ble_eq_true rfl) hfi.2.2.2.2.1 dX5_move_12 ?_
      refine lv_iload hx hb dX5_move_13 (lv_at hl 4 rfl) ?_
      refine lv_iload hx hb dX5_move_15 (lv_at hl 5 rfl) ?_
      refine va_copyN hx hb hml hl hown (hts _ mx_X5_move_2) (hts _ mx_X5_move_3) (hts _ mx_X5_move_4) (hts _ mx_X5_move_5) hK hP hD hS 9 6 rfl rfl rfl rfl (by omega) (by omega) (Nat.le_of_ble_eq_true rfl) (Nat.le_of_ble_eq_true rfl) (Nat.le_of_ble_eq_true rfl) (Nat.le_of_ble_eq_true rfl) dX5_move_17 (fun H locs hP hD hS => ?_)
      generalize hg_130 : va_cpy f7 f4 ((nI a) : Int32).toNatClampNeg ((nI b) : Int32).toNatClampNeg ((nI n) : Int32).toNatClampNeg = g_130 at hP hD
      have hP : va_P (dC, dI) vwCl [(xo_5_rrr h it la le), (xJ it cJ 8 fi), (xI y0 cI 40 f0), (xI y1 cI 40 f1), (xI y2 cI 40 f2), (xI y3 cI 40 f3), (xI y4 cI 40 g_130), (xI y5 cI 40 f5), (xI y6 cI 40 f6), (xI y7 cI 40 f7)] H := hP
      have hD := dto hP hD
      have hX9 := cut2 (wc := [(xo_5_rrr h it la le), (xJ it cJ 8 fi), (xI y0 cI 40 f0), (xI y1 cI 40 f1), (xI y2 cI 40 f2), (xI y3 cI 40 f3), (xI y4 cI 40 g_130), (xI y5 cI 40 f5), (xI y6 cI 40 f6), (xI y7 cI 40 f7)]) hP hD [0, 1, 2, 3, 4, 5, 6, 7, 8, 9] (by decide +kernel) rfl
      exact W.vret hx hb hr (fun t ht hW => ⟨⟨(), rfl, trivial, ⟨f0, f1, f2, f3, g_130, f5, f6, f7, va_Ht ht hX9.1, hX9.2⟩⟩, hS.F ht⟩) hS.2.2 dX5_move_20
    · skip
      have hl : lv_has ls 6 [(0, .ref h), (1, .int 7), (2, .int (nI a)), (3, .int 5), (4, .int (nI b)), (5, .int (nI n))] := hl
      refine lv_aload_n hx hb dX5_move_7 rfl (lv_at hl 0 rfl) ?_
      refine va_get (D := (dC, dI)) (ci := 5) (v := .ref it) (C := RX5) (T := TX5) (N := 3) hx hb hts i_X5_move_X5 hown hK hP 0 rfl rfl 0 (by decide) (hts _ mx_X5_move_1) (fun _ h9 => h9) rfl dX5_move_8 ?_
      refine lv_iload_n hx hb dX5_move_11 rfl (lv_at hl 3 rfl) ?_
      refine nw_alk hx hb hK hP 1 3 rfl rfl 5 rfl (Nat.le_of_ble_eq_true rfl) (Nat.le_of_ble_eq_true rfl) hfi.2.2.2.2.2.1 dX5_move_12 ?_
      refine lv_iload hx hb dX5_move_13 (lv_at hl 4 rfl) ?_
      refine lv_iload hx hb dX5_move_15 (lv_at hl 5 rfl) ?_
      refine va_copyN hx hb hml hl hown (hts _ mx_X5_move_2) (hts _ mx_X5_move_3) (hts _ mx_X5_move_4) (hts _ mx_X5_move_5) hK hP hD hS 9 7 rfl rfl rfl rfl (by omega) (by omega) (Nat.le_of_ble_eq_true rfl) (Nat.le_of_ble_eq_true rfl) (Nat.le_of_ble_eq_true rfl) (Nat.le_of_ble_eq_true rfl) dX5_move_17 (fun H locs hP hD hS => ?_)
      generalize hg_132 : va_cpy f7 f5 ((nI a) : Int32).toNatClampNeg ((nI b) : Int32).toNatClampNeg ((nI n) : Int32).toNatClampNeg = g_132 at hP hD
      have hP : va_P (dC, dI) vwCl [(xo_5_rrr h it la le), (xJ it cJ 8 fi), (xI y0 cI 40 f0), (xI y1 cI 40 f1), (xI y2 cI 40 f2), (xI y3 cI 40 f3), (xI y4 cI 40 f4), (xI y5 cI 40 g_132), (xI y6 cI 40 f6), (xI y7 cI 40 f7)] H := hP
      have hD := dto hP hD
      have hX9 := cut2 (wc := [(xo_5_rrr h it la le), (xJ it cJ 8 fi), (xI y0 cI 40 f0), (xI y1 cI 40 f1), (xI y2 cI 40 f2), (xI y3 cI 40 f3), (xI y4 cI 40 f4), (xI y5 cI 40 g_132), (xI y6 cI 40 f6), (xI y7 cI 40 f7)]) hP hD [0, 1, 2, 3, 4, 5, 6, 7, 8, 9] (by decide +kernel) rfl
      exact W.vret hx hb hr (fun t ht hW => ⟨⟨(), rfl, trivial, ⟨f0, f1, f2, f3, f4, g_132, f6, f7, va_Ht ht hX9.1, hX9.2⟩⟩, hS.F ht⟩) hS.2.2 dX5_move_20
    · skip
      have hl : lv_has ls 6 [(0, .ref h), (1, .int 7), (2, .int (nI a)), (3, .int 6), (4, .int (nI b)), (5, .int (nI n))] := hl
      refine lv_aload_n hx hb dX5_move_7 rfl (lv_at hl 0 rfl) ?_
      refine va_get (D := (dC, dI)) (ci := 5) (v := .ref it) (C := RX5) (T := TX5) (N := 3) hx hb hts i_X5_move_X5 hown hK hP 0 rfl rfl 0 (by decide) (hts _ mx_X5_move_1) (fun _ h9 => h9) rfl dX5_move_8 ?_
      refine lv_iload_n hx hb dX5_move_11 rfl (lv_at hl 3 rfl) ?_
      refine nw_alk hx hb hK hP 1 3 rfl rfl 6 rfl (Nat.le_of_ble_eq_true rfl) (Nat.le_of_ble_eq_true rfl) hfi.2.2.2.2.2.2.1 dX5_move_12 ?_
      refine lv_iload hx hb dX5_move_13 (lv_at hl 4 rfl) ?_
      refine lv_iload hx hb dX5_move_15 (lv_at hl 5 rfl) ?_
      refine va_copyN hx hb hml hl hown (hts _ mx_X5_move_2) (hts _ mx_X5_move_3) (hts _ mx_X5_move_4) (hts _ mx_X5_move_5) hK hP hD hS 9 8 rfl rfl rfl rfl (by omega) (by omega) (Nat.le_of_ble_eq_true rfl) (Nat.le_of_ble_eq_true rfl) (Nat.le_of_ble_eq_true rfl) (Nat.le_of_ble_eq_true rfl) dX5_move_17 (fun H locs hP hD hS => ?_)
      generalize hg_134 : va_cpy f7 f6 ((nI a) : Int32).toNatClampNeg ((nI b) : Int32).toNatClampNeg ((nI n) : Int32).toNatClampNeg = g_134 at hP hD
      have hP : va_P (dC, dI) vwCl [(xo_5_rrr h it la le), (xJ it cJ 8 fi), (xI y0 cI 40 f0), (xI y1 cI 40 f1), (xI y2 cI 40 f2), (xI y3 cI 40 f3), (xI y4 cI 40 f4), (xI y5 cI 40 f5), (xI y6 cI 40 g_134), (xI y7 cI 40 f7)] H := hP
      have hD := dto hP hD
      have hX9 := cut2 (wc := [(xo_5_rrr h it la le), (xJ it cJ 8 fi), (xI y0 cI 40 f0), (xI y1 cI 40 f1), (xI y2 cI 40 f2), (xI y3 cI 40 f3), (xI y4 cI 40 f4), (xI y5 cI 40 f5), (xI y6 cI 40 g_134), (xI y7 cI 40 f7)]) hP hD [0, 1, 2, 3, 4, 5, 6, 7, 8, 9] (by decide +kernel) rfl
      exact W.vret hx hb hr (fun t ht hW => ⟨⟨(), rfl, trivial, ⟨f0, f1, f2, f3, f4, f5, g_134, f7, va_Ht ht hX9.1, hX9.2⟩⟩, hS.F ht⟩) hS.2.2 dX5_move_20
    · skip
      have hl : lv_has ls 6 [(0, .ref h), (1, .int 7), (2, .int (nI a)), (3, .int 7), (4, .int (nI b)), (5, .int (nI n))] := hl
      refine lv_aload_n hx hb dX5_move_7 rfl (lv_at hl 0 rfl) ?_
      refine va_get (D := (dC, dI)) (ci := 5) (v := .ref it) (C := RX5) (T := TX5) (N := 3) hx hb hts i_X5_move_X5 hown hK hP 0 rfl rfl 0 (by decide) (hts _ mx_X5_move_1) (fun _ h9 => h9) rfl dX5_move_8 ?_
      refine lv_iload_n hx hb dX5_move_11 rfl (lv_at hl 3 rfl) ?_
      refine nw_alk hx hb hK hP 1 3 rfl rfl 7 rfl (Nat.le_of_ble_eq_true rfl) (Nat.le_of_ble_eq_true rfl) hfi.2.2.2.2.2.2.2 dX5_move_12 ?_
      refine lv_iload hx hb dX5_move_13 (lv_at hl 4 rfl) ?_
      refine lv_iload hx hb dX5_move_15 (lv_at hl 5 rfl) ?_
      refine va_copyN hx hb hml hl hown (hts _ mx_X5_move_2) (hts _ mx_X5_move_3) (hts _ mx_X5_move_4) (hts _ mx_X5_move_5) hK hP hD hS 9 9 rfl rfl rfl rfl (by omega) (by omega) (Nat.le_of_ble_eq_true rfl) (Nat.le_of_ble_eq_true rfl) (Nat.le_of_ble_eq_true rfl) (Nat.le_of_ble_eq_true rfl) dX5_move_17 (fun H locs hP hD hS => ?_)
      generalize hg_136 : va_cpy f7 f7 ((nI a) : Int32).toNatClampNeg ((nI b) : Int32).toNatClampNeg ((nI n) : Int32).toNatClampNeg = g_136 at hP hD
      have hP : va_P (dC, dI) vwCl [(xo_5_rrr h it la le), (xJ it cJ 8 fi), (xI y0 cI 40 f0), (xI y1 cI 40 f1), (xI y2 cI 40 f2), (xI y3 cI 40 f3), (xI y4 cI 40 f4), (xI y5 cI 40 f5), (xI y6 cI 40 f6), (xI y7 cI 40 g_136)] H := hP
      have hD := dto hP hD
      have hX9 := cut2 (wc := [(xo_5_rrr h it la le), (xJ it cJ 8 fi), (xI y0 cI 40 f0), (xI y1 cI 40 f1), (xI y2 cI 40 f2), (xI y3 cI 40 f3), (xI y4 cI 40 f4), (xI y5 cI 40 f5), (xI y6 cI 40 f6), (xI y7 cI 40 g_136)]) hP hD [0, 1, 2, 3, 4, 5, 6, 7, 8, 9] (by decide +kernel) rfl
      exact W.vret hx hb hr (fun t ht hW => ⟨⟨(), rfl, trivial, ⟨f0, f1, f2, f3, f4, f5, f6, g_136, va_Ht ht hX9.1, hX9.2⟩⟩, hS.F ht⟩) hS.2.2 dX5_move_20
theorem lf_X5_remove_1 {fl : Nat → Int32} {fe : Nat → Int32} {j : Nat} {g_1 : Nat → Int32} {v_2 : Int32} (hj : j < 8) (hu_1 : g_1 = upd fl j (-1)) (e_2 : v_2 = fe j) : g_1 = upd fl j (-1) := by
  grind
theorem lf_X5_remove_2 {fl : Nat → Int32} {fe : Nat → Int32} {j : Nat} {g_1 : Nat → Int32} {v_2 : Int32} (hj : j < 8) (hu_1 : g_1 = upd fl j (-1)) (e_2 : v_2 = fe j) : v_2 = (fe j) := by
  grind
set_option maxHeartbeats 4000000 in
set_option maxRecDepth 100000 in
theorem r_X5_remove (l : Launch) (dC : Nat → ClassId) (dI : Nat → Nat → Nat) (cI cZ cL cJ : ClassId) (sz : Nat) (h : Nat) (it : Nat) (la : Nat) (le : Nat) (fl : Nat → Int32) (fe : Nat → Int32) (j : Nat) (hj : j < 8) : Met l yX5_remove wsX5_remove ({ frames := 0, cells := 0, slots := 0, locals := 0 }) (va_Pc [.ref h, .int (nI j)] (fun U => U.heap.size = sz ∧ va_P (dC, dI) vwCl [(xo_5_rrr h it la le), (xI la cI 8 fl), (xI le cI 8 fe)] U.heap ∧ va_K (dC, dI) vwCl [(cI, .int), (cZ, .boolean), (cL, .object RX3), (cJ, .array .int)] U ∧ va_D (fun _ => True) [(xo_5_rrr h it la le), (xI la cI 8 fl), (xI le cI 8 fe)])) (va_Qi (fun r (_ : Unit) => r = (fe j)) (fun (_ : Unit) t => ∃ (fln : Nat → Int32), va_P (dC, dI) vwCl [(xo_5_rrr h it la le), (xI la cI 8 fln), (xI le cI 8 fe)] t.heap ∧ va_D (va_A [(xo_5_rrr h it la le), (xI la cI 8 fl), (xI le cI 8 fe)] sz) [(xo_5_rrr h it la le), (xI la cI 8 fln), (xI le cI 8 fe)] ∧ fln = upd fl j (-1)) (va_A [(xo_5_rrr h it la le), (xI la cI 8 fl), (xI le cI 8 fe)] sz)) 0 0 (va_A [(xo_5_rrr h it la le), (xI la cI 8 fl), (xI le cI 8 fe)] sz) := by
  refine Met.ofW (cc := cX5_remove) (maxL := 2) (ret := (some .int)) (by decide) rfl ?_
  intro p e s m args below meth c s₁ B hml hv
  obtain ⟨rfl, hsz, hP, hK, hD0⟩ := hv
  have hx := B.exec
  have hb := B.bytes
  have hr := B.returns
  have hts := atoms_spec (ws := wsX5_remove) B.pre
  have hown : s.vm.findClass RX5 = some m.cls := findClass_of_methodNamed B.named
  have hlocks := B.notSynchronized
  subst hsz
  have hD := hD0.self (sz := s.heap.size)
  generalize hAe : va_A [(xo_5_rrr h it la le), (xI la cI 8 fl), (xI le cI 8 fe)] s.heap.size = A at hD ⊢
  have hA : ∀ q : Nat, s.heap.size ≤ q → A q := fun q h => by rw [← hAe]; exact Or.inr h
  have hS : va_S A s.heap s.heap [] := va_S.rf
  have hP : va_P (dC, dI) vwCl [(xo_5_rrr h it la le), (xI la cI 8 fl), (xI le cI 8 fe)] s.heap := hP
  have hl := lv_entry ([.ref h, .int (nI j)]) (n := 2) (Nat.le_of_ble_eq_true rfl)
  rw [lg_entry_eq]
  generalize (lg_sl ([.ref h, .int (nI j)]) ++ List.replicate (2 - (lg_sl ([.ref h, .int (nI j)])).length) Slot.unset).toArray = ls at hl ⊢
  have hl : lv_has ls 2 [(0, .ref h), (1, .int (nI j))] := hl
  refine lv_aload_n hx hb dX5_remove_0 rfl (lv_at hl 0 rfl) ?_
  refine va_get (D := (dC, dI)) (ci := 5) (v := .ref la) (C := RX5) (T := TX5) (N := 3) hx hb hts i_X5_remove_X5 hown hK hP 0 rfl rfl 1 (by decide) (hts _ mx_X5_remove_1) (fun _ h9 => h9) rfl dX5_remove_1 ?_
  refine lv_iload_n hx hb dX5_remove_4 rfl (lv_at hl 1 rfl) ?_
  refine lv_iconst (v := (-1)) hx hb dX5_remove_5 (by decide) ?_
  refine va_iast hx hb hK hP hD hS 1 0 rfl rfl (vp_in_nI (by omega) (by omega)) dX5_remove_6 (fun H locs hP hD hS => ?_)
  generalize hg_1 : upd fl ((nI j) : Int32).toNatClampNeg (-1) = g_1 at hP hD
  have hu_1 : g_1 = upd fl j (-1) := (by rw [← hg_1, nI_clamp (by omega)])
  have hP : va_P (dC, dI) vwCl [(xo_5_rrr h it la le), (xI la cI 8 g_1), (xI le cI 8 fe)] H := hP
  have hD := dto hP hD
  refine lv_aload_n hx hb dX5_remove_7 rfl (lv_at hl 0 rfl) ?_
  refine va_get (D := (dC, dI)) (ci := 5) (v := .ref le) (C := RX5) (T := TX5) (N := 3) hx hb hts i_X5_remove_X5 hown hK hP 0 rfl rfl 2 (by decide) (hts _ mx_X5_remove_2) (fun _ h9 => h9) rfl dX5_remove_8 ?_
  refine lv_iload_n hx hb dX5_remove_11 rfl (lv_at hl 1 rfl) ?_
  refine va_iald hx hb hK hP 2 0 rfl rfl (vp_in_nI (by omega) (by omega)) dX5_remove_12 ?_
  refine lv_topi (fun v_2 e_2 => ?_)
  have e_2 : v_2 = fe j := e_2.trans (congrArg fe (nI_clamp (by omega)))
  have hX9 := cut2 (wc := [(xo_5_rrr h it la le), (xI la cI 8 g_1), (xI le cI 8 fe)]) hP hD [0, 1, 2] (by decide +kernel) rfl
  exact W.iret (v := v_2) hx hb hr (fun t ht hW => ⟨⟨v_2, (), rfl, (lf_X5_remove_2 hj hu_1 e_2), ⟨g_1, va_Ht ht hX9.1, hX9.2, (lf_X5_remove_1 hj hu_1 e_2)⟩⟩, hS.F ht⟩) hS.2.2 dX5_remove_13
theorem lf_X5_make_1 {fl : Nat → Int32} {fe : Nat → Int32} {y0 : Nat} {y1 : Nat} {y2 : Nat} {y3 : Nat} {y4 : Nat} {y5 : Nat} {y6 : Nat} {y7 : Nat} {fi : Nat → Option Nat} {n : Nat} {v : Int32} {g_1 : Nat → Int32} {g_2 : Nat → Int32} {g_4 : Nat → Int32} (hfi : fi 0 = some y0 ∧ fi 1 = some y1 ∧ fi 2 = some y2 ∧ fi 3 = some y3 ∧ fi 4 = some y4 ∧ fi 5 = some y5 ∧ fi 6 = some y6 ∧ fi 7 = some y7) (hj : 0 < 8) (hfe : ∀ jq : Nat, jq < 8 → ∃ q : Nat, q ≤ 40 ∧ fe jq = nI q) (hn : n ≤ 40) (hu_1 : g_1 = upd fl 0 v) (hu_2 : g_2 = upd fe 0 (nI n)) (hF_4_0 : (∀ jz : Nat, jz < 40 → g_4 jz = 0)) : g_1 = upd fl 0 v := by
  grind
theorem lf_X5_make_2 {fl : Nat → Int32} {fe : Nat → Int32} {y0 : Nat} {y1 : Nat} {y2 : Nat} {y3 : Nat} {y4 : Nat} {y5 : Nat} {y6 : Nat} {y7 : Nat} {fi : Nat → Option Nat} {n : Nat} {v : Int32} {g_1 : Nat → Int32} {g_2 : Nat → Int32} {g_4 : Nat → Int32} (hfi : fi 0 = some y0 ∧ fi 1 = some y1 ∧ fi 2 = some y2 ∧ fi 3 = some y3 ∧ fi 4 = some y4 ∧ fi 5 = some y5 ∧ fi 6 = some y6 ∧ fi 7 = some y7) (hj : 0 < 8) (hfe : ∀ jq : Nat, jq < 8 → ∃ q : Nat, q ≤ 40 ∧ fe jq = nI q) (hn : n ≤ 40) (hu_1 : g_1 = upd fl 0 v) (hu_2 : g_2 = upd fe 0 (nI n)) (hF_4_0 : (∀ jz : Nat, jz < 40 → g_4 jz = 0)) : g_2 = upd fe 0 (nI n) := by
  grind
theorem lf_X5_make_3 {fl : Nat → Int32} {fe : Nat → Int32} {y0 : Nat} {y1 : Nat} {y2 : Nat} {y3 : Nat} {y4 : Nat} {y5 : Nat} {y6 : Nat} {y7 : Nat} {fi : Nat → Option Nat} {n : Nat} {v : Int32} {g_1 : Nat → Int32} {g_2 : Nat → Int32} {g_6 : Nat → Int32} (hfi : fi 0 = some y0 ∧ fi 1 = some y1 ∧ fi 2 = some y2 ∧ fi 3 = some y3 ∧ fi 4 = some y4 ∧ fi 5 = some y5 ∧ fi 6 = some y6 ∧ fi 7 = some y7) (hj : 1 < 8) (hfe : ∀ jq : Nat, jq < 8 → ∃ q : Nat, q ≤ 40 ∧ fe jq = nI q) (hn : n ≤ 40) (hu_1 : g_1 = upd fl 1 v) (hu_2 : g_2 = upd fe 1 (nI n)) (hF_6_0 : (∀ jz : Nat, jz < 40 → g_6 jz = 0)) : g_1 = upd fl 1 v := by
  grind
theorem lf_X5_make_4 {fl : Nat → Int32} {fe : Nat → Int32} {y0 : Nat} {y1 : Nat} {y2 : Nat} {y3 : Nat} {y4 : Nat} {y5 : Nat} {y6 : Nat} {y7 : Nat} {fi : Nat → Option Nat} {n : Nat} {v : Int32} {g_1 : Nat → Int32} {g_2 : Nat → Int32} {g_6 : Nat → Int32} (hfi : fi 0 = some y0 ∧ fi 1 = some y1 ∧ fi 2 = some y2 ∧ fi 3 = some y3 ∧ fi 4 = some y4 ∧ fi 5 = some y5 ∧ fi 6 = some y6 ∧ fi 7 = some y7) (hj : 1 < 8) (hfe : ∀ jq : Nat, jq < 8 → ∃ q : Nat, q ≤ 40 ∧ fe jq = nI q) (hn : n ≤ 40) (hu_1 : g_1 = upd fl 1 v) (hu_2 : g_2 = upd fe 1 (nI n)) (hF_6_0 : (∀ jz : Nat, jz < 40 → g_6 jz = 0)) : g_2 = upd fe 1 (nI n) := by
  grind
theorem lf_X5_make_5 {fl : Nat → Int32} {fe : Nat → Int32} {y0 : Nat} {y1 : Nat} {y2 : Nat} {y3 : Nat} {y4 : Nat} {y5 : Nat} {y6 : Nat} {y7 : Nat} {fi : Nat → Option Nat} {n : Nat} {v : Int32} {g_1 : Nat → Int32} {g_2 : Nat → Int32} {g_8 : Nat → Int32} (hfi : fi 0 = some y0 ∧ fi 1 = some y1 ∧ fi 2 = some y2 ∧ fi 3 = some y3 ∧ fi 4 = some y4 ∧ fi 5 = some y5 ∧ fi 6 = some y6 ∧ fi 7 = some y7) (hj : 2 < 8) (hfe : ∀ jq : Nat, jq < 8 → ∃ q : Nat, q ≤ 40 ∧ fe jq = nI q) (hn : n ≤ 40) (hu_1 : g_1 = upd fl 2 v) (hu_2 : g_2 = upd fe 2 (nI n)) (hF_8_0 : (∀ jz : Nat, jz < 40 → g_8 jz = 0)) : g_1 = upd fl 2 v := by
  grind
theorem lf_X5_make_6 {fl : Nat → Int32} {fe : Nat → Int32} {y0 : Nat} {y1 : Nat} {y2 : Nat} {y3 : Nat} {y4 : Nat} {y5 : Nat} {y6 : Nat} {y7 : Nat} {fi : Nat → Option Nat} {n : Nat} {v : Int32} {g_1 : Nat → Int32} {g_2 : Nat → Int32} {g_8 : Nat → Int32} (hfi : fi 0 = some y0 ∧ fi 1 = some y1 ∧ fi 2 = some y2 ∧ fi 3 = some y3 ∧ fi 4 = some y4 ∧ fi 5 = some y5 ∧ fi 6 = some y6 ∧ fi 7 = some y7) (hj : 2 < 8) (hfe : ∀ jq : Nat, jq < 8 → ∃ q : Nat, q ≤ 40 ∧ fe jq = nI q) (hn : n ≤ 40) (hu_1 : g_1 = upd fl 2 v) (hu_2 : g_2 = upd fe 2 (nI n)) (hF_8_0 : (∀ jz : Nat, jz < 40 → g_8 jz = 0)) : g_2 = upd fe 2 (nI n) := by
  grind
theorem lf_X5_make_7 {fl : Nat → Int32} {fe : Nat → Int32} {y0 : Nat} {y1 : Nat} {y2 : Nat} {y3 : Nat} {y4 : Nat} {y5 : Nat} {y6 : Nat} {y7 : Nat} {fi : Nat → Option Nat} {n : Nat} {v : Int32} {g_1 : Nat → Int32} {g_2 : Nat → Int32} {g_10 : Nat → Int32} (hfi : fi 0 = some y0 ∧ fi 1 = some y1 ∧ fi 2 = some y2 ∧ fi 3 = some y3 ∧ fi 4 = some y4 ∧ fi 5 = some y5 ∧ fi 6 = some y6 ∧ fi 7 = some y7) (hj : 3 < 8) (hfe : ∀ jq : Nat, jq < 8 → ∃ q : Nat, q ≤ 40 ∧ fe jq = nI q) (hn : n ≤ 40) (hu_1 : g_1 = upd fl 3 v) (hu_2 : g_2 = upd fe 3 (nI n)) (hF_10_0 : (∀ jz : Nat, jz < 40 → g_10 jz = 0)) : g_1 = upd fl 3 v := by
  grind
theorem lf_X5_make_8 {fl : Nat → Int32} {fe : Nat → Int32} {y0 : Nat} {y1 : Nat} {y2 : Nat} {y3 : Nat} {y4 : Nat} {y5 : Nat} {y6 : Nat} {y7 : Nat} {fi : Nat → Option Nat} {n : Nat} {v : Int32} {g_1 : Nat → Int32} {g_2 : Nat → Int32} {g_10 : Nat → Int32} (hfi : fi 0 = some y0 ∧ fi 1 = some y1 ∧ fi 2 = some y2 ∧ fi 3 = some y3 ∧ fi 4 = some y4 ∧ fi 5 = some y5 ∧ fi 6 = some y6 ∧ fi 7 = some y7) (hj : 3 < 8) (hfe : ∀ jq : Nat, jq < 8 → ∃ q : Nat, q ≤ 40 ∧ fe jq = nI q) (hn : n ≤ 40) (hu_1 : g_1 = upd fl 3 v) (hu_2 : g_2 = upd fe 3 (nI n)) (hF_10_0 : (∀ jz : Nat, jz < 40 → g_10 jz = 0)) : g_2 = upd fe 3 (nI n) := by
  grind
theorem lf_X5_make_9 {fl : Nat → Int32} {fe : Nat → Int32} {y0 : Nat} {y1 : Nat} {y2 : Nat} {y3 : Nat} {y4 : Nat} {y5 : Nat} {y6 : Nat} {y7 : Nat} {fi : Nat → Option Nat} {n : Nat} {v : Int32} {g_1 : Nat → Int32} {g_2 : Nat → Int32} {g_12 : Nat → Int32} (hfi : fi 0 = some y0 ∧ fi 1 = some y1 ∧ fi 2 = some y2 ∧ fi 3 = some y3 ∧ fi 4 = some y4 ∧ fi 5 = some y5 ∧ fi 6 = some y6 ∧ fi 7 = some y7) (hj : 4 < 8) (hfe : ∀ jq : Nat, jq < 8 → ∃ q : Nat, q ≤ 40 ∧ fe jq = nI q) (hn : n ≤ 40) (hu_1 : g_1 = upd fl 4 v) (hu_2 : g_2 = upd fe 4 (nI n)) (hF_12_0 : (∀ jz : Nat, jz < 40 → g_12 jz = 0)) : g_1 = upd fl 4 v := by
  grind
theorem lf_X5_make_10 {fl : Nat → Int32} {fe : Nat → Int32} {y0 : Nat} {y1 : Nat} {y2 : Nat} {y3 : Nat} {y4 : Nat} {y5 : Nat} {y6 : Nat} {y7 : Nat} {fi : Nat → Option Nat} {n : Nat} {v : Int32} {g_1 : Nat → Int32} {g_2 : Nat → Int32} {g_12 : Nat → Int32} (hfi : fi 0 = some y0 ∧ fi 1 = some y1 ∧ fi 2 = some y2 ∧ fi 3 = some y3 ∧ fi 4 = some y4 ∧ fi 5 = some y5 ∧ fi 6 = some y6 ∧ fi 7 = some y7) (hj : 4 < 8) (hfe : ∀ jq : Nat, jq < 8 → ∃ q : Nat, q ≤ 40 ∧ fe jq = nI q) (hn : n ≤ 40) (hu_1 : g_1 = upd fl 4 v) (hu_2 : g_2 = upd fe 4 (nI n)) (hF_12_0 : (∀ jz : Nat, jz < 40 → g_12 jz = 0)) : g_2 = upd fe 4 (nI n) := by
  grind
theorem lf_X5_make_11 {fl : Nat → Int32} {fe : Nat → Int32} {y0 : Nat} {y1 : Nat} {y2 : Nat} {y3 : Nat} {y4 : Nat} {y5 : Nat} {y6 : Nat} {y7 : Nat} {fi : Nat → Option Nat} {n : Nat} {v : Int32} {g_1 : Nat → Int32} {g_2 : Nat → Int32} {g_14 : Nat → Int32} (hfi : fi 0 = some y0 ∧ fi 1 = some y1 ∧ fi 2 = some y2 ∧ fi 3 = some y3 ∧ fi 4 = some y4 ∧ fi 5 = some y5 ∧ fi 6 = some y6 ∧ fi 7 = some y7) (hj : 5 < 8) (hfe : ∀ jq : Nat, jq < 8 → ∃ q : Nat, q ≤ 40 ∧ fe jq = nI q) (hn : n ≤ 40) (hu_1 : g_1 = upd fl 5 v) (hu_2 : g_2 = upd fe 5 (nI n)) (hF_14_0 : (∀ jz : Nat, jz < 40 → g_14 jz = 0)) : g_1 = upd fl 5 v := by
  grind
theorem lf_X5_make_12 {fl : Nat → Int32} {fe : Nat → Int32} {y0 : Nat} {y1 : Nat} {y2 : Nat} {y3 : Nat} {y4 : Nat} {y5 : Nat} {y6 : Nat} {y7 : Nat} {fi : Nat → Option Nat} {n : Nat} {v : Int32} {g_1 : Nat → Int32} {g_2 : Nat → Int32} {g_14 : Nat → Int32} (hfi : fi 0 = some y0 ∧ fi 1 = some y1 ∧ fi 2 = some y2 ∧ fi 3 = some y3 ∧ fi 4 = some y4 ∧ fi 5 = some y5 ∧ fi 6 = some y6 ∧ fi 7 = some y7) (hj : 5 < 8) (hfe : ∀ jq : Nat, jq < 8 → ∃ q : Nat, q ≤ 40 ∧ fe jq = nI q) (hn : n ≤ 40) (hu_1 : g_1 = upd fl 5 v) (hu_2 : g_2 = upd fe 5 (nI n)) (hF_14_0 : (∀ jz : Nat, jz < 40 → g_14 jz = 0)) : g_2 = upd fe 5 (nI n) := by
  grind
theorem lf_X5_make_13 {fl : Nat → Int32} {fe : Nat → Int32} {y0 : Nat} {y1 : Nat} {y2 : Nat} {y3 : Nat} {y4 : Nat} {y5 : Nat} {y6 : Nat} {y7 : Nat} {fi : Nat → Option Nat} {n : Nat} {v : Int32} {g_1 : Nat → Int32} {g_2 : Nat → Int32} {g_16 : Nat → Int32} (hfi : fi 0 = some y0 ∧ fi 1 = some y1 ∧ fi 2 = some y2 ∧ fi 3 = some y3 ∧ fi 4 = some y4 ∧ fi 5 = some y5 ∧ fi 6 = some y6 ∧ fi 7 = some y7) (hj : 6 < 8) (hfe : ∀ jq : Nat, jq < 8 → ∃ q : Nat, q ≤ 40 ∧ fe jq = nI q) (hn : n ≤ 40) (hu_1 : g_1 = upd fl 6 v) (hu_2 : g_2 = upd fe 6 (nI n)) (hF_16_0 : (∀ jz : Nat, jz < 40 → g_16 jz = 0)) : g_1 = upd fl 6 v := by
  grind
theorem lf_X5_make_14 {fl : Nat → Int32} {fe : Nat → Int32} {y0 : Nat} {y1 : Nat} {y2 : Nat} {y3 : Nat} {y4 : Nat} {y5 : Nat} {y6 : Nat} {y7 : Nat} {fi : Nat → Option Nat} {n : Nat} {v : Int32} {g_1 : Nat → Int32} {g_2 : Nat → Int32} {g_16 : Nat → Int32} (hfi : fi 0 = some y0 ∧ fi 1 = some y1 ∧ fi 2 = some y2 ∧ fi 3 = some y3 ∧ fi 4 = some y4 ∧ fi 5 = some y5 ∧ fi 6 = some y6 ∧ fi 7 = some y7) (hj : 6 < 8) (hfe : ∀ jq : Nat, jq < 8 → ∃ q : Nat, q ≤ 40 ∧ fe jq = nI q) (hn : n ≤ 40) (hu_1 : g_1 = upd fl 6 v) (hu_2 : g_2 = upd fe 6 (nI n)) (hF_16_0 : (∀ jz : Nat, jz < 40 → g_16 jz = 0)) : g_2 = upd fe 6 (nI n) := by
  grind
theorem lf_X5_make_15 {fl : Nat → Int32} {fe : Nat → Int32} {y0 : Nat} {y1 : Nat} {y2 : Nat} {y3 : Nat} {y4 : Nat} {y5 : Nat} {y6 : Nat} {y7 : Nat} {fi : Nat → Option Nat} {n : Nat} {v : Int32} {g_1 : Nat → Int32} {g_2 : Nat → Int32} {g_18 : Nat → Int32} (hfi : fi 0 = some y0 ∧ fi 1 = some y1 ∧ fi 2 = some y2 ∧ fi 3 = some y3 ∧ fi 4 = some y4 ∧ fi 5 = some y5 ∧ fi 6 = some y6 ∧ fi 7 = some y7) (hj : 7 < 8) (hfe : ∀ jq : Nat, jq < 8 → ∃ q : Nat, q ≤ 40 ∧ fe jq = nI q) (hn : n ≤ 40) (hu_1 : g_1 = upd fl 7 v) (hu_2 : g_2 = upd fe 7 (nI n)) (hF_18_0 : (∀ jz : Nat, jz < 40 → g_18 jz = 0)) : g_1 = upd fl 7 v := by
  grind
theorem lf_X5_make_16 {fl : Nat → Int32} {fe : Nat → Int32} {y0 : Nat} {y1 : Nat} {y2 : Nat} {y3 : Nat} {y4 : Nat} {y5 : Nat} {y6 : Nat} {y7 : Nat} {fi : Nat → Option Nat} {n : Nat} {v : Int32} {g_1 : Nat → Int32} {g_2 : Nat → Int32} {g_18 : Nat → Int32} (hfi : fi 0 = some y0 ∧ fi 1 = some y1 ∧ fi 2 = some y2 ∧ fi 3 = some y3 ∧ fi 4 = some y4 ∧ fi 5 = some y5 ∧ fi 6 = some y6 ∧ fi 7 = some y7) (hj : 7 < 8) (hfe : ∀ jq : Nat, jq < 8 → ∃ q : Nat, q ≤ 40 ∧ fe jq = nI q) (hn : n ≤ 40) (hu_1 : g_1 = upd fl 7 v) (hu_2 : g_2 = upd fe 7 (nI n)) (hF_18_0 : (∀ jz : Nat, jz < 40 → g_18 jz = 0)) : g_2 = upd fe 7 (nI n) := by
  grind
set_option maxHeartbeats 4000000 in
set_option maxRecDepth 100000 in
theorem r_X5_make (l : Launch) (dC : Nat → ClassId) (dI : Nat → Nat → Nat) (cI cZ cL cJ : ClassId) (sz : Nat) (h : Nat) (it : Nat) (la : Nat) (le : Nat) (fl : Nat → Int32) (fe : Nat → Int32) (y0 : Nat) (y1 : Nat) (y2 : Nat) (y3 : Nat) (y4 : Nat) (y5 : Nat) (y6 : Nat) (y7 : Nat) (f0 : Nat → Int32) (f1 : Nat → Int32) (f2 : Nat → Int32) (f3 : Nat → Int32) (f4 : Nat → Int32) (f5 : Nat → Int32) (f6 : Nat → Int32) (f7 : Nat → Int32) (fi : Nat → Option Nat) (j : Nat) (n : Nat) (v : Int32) (hfi : fi 0 = some y0 ∧ fi 1 = some y1 ∧ fi 2 = some y2 ∧ fi 3 = some y3 ∧ fi 4 = some y4 ∧ fi 5 = some y5 ∧ fi 6 = some y6 ∧ fi 7 = some y7) (hj : j < 8) (hfe : ∀ jq : Nat, jq < 8 → ∃ q : Nat, q ≤ 40 ∧ fe jq = nI q) (hn : n ≤ 40) : Met l yX5_make wsX5_make ({ frames := 1, cells := 0, slots := 0, locals := 23 }) (va_Pc [.ref h, .int (nI j), .int v, .int (nI n)] (fun U => U.heap.size = sz ∧ va_P (dC, dI) vwCl [(xo_5_rrr h it la le), (xI la cI 8 fl), (xI le cI 8 fe), (xJ it cJ 8 fi), (xI y0 cI 40 f0), (xI y1 cI 40 f1), (xI y2 cI 40 f2), (xI y3 cI 40 f3), (xI y4 cI 40 f4), (xI y5 cI 40 f5), (xI y6 cI 40 f6), (xI y7 cI 40 f7)] U.heap ∧ va_K (dC, dI) vwCl [(cI, .int), (cZ, .boolean), (cL, .object RX3), (cJ, .array .int)] U ∧ va_D (fun _ => True) [(xo_5_rrr h it la le), (xI la cI 8 fl), (xI le cI 8 fe), (xJ it cJ 8 fi), (xI y0 cI 40 f0), (xI y1 cI 40 f1), (xI y2 cI 40 f2), (xI y3 cI 40 f3), (xI y4 cI 40 f4), (xI y5 cI 40 f5), (xI y6 cI 40 f6), (xI y7 cI 40 f7)])) (va_Qv (fun (_ : Unit) => True) (fun (_ : Unit) t => ∃ (fln : Nat → Int32) (fen : Nat → Int32) (f0n : Nat → Int32) (f1n : Nat → Int32) (f2n : Nat → Int32) (f3n : Nat → Int32) (f4n : Nat → Int32) (f5n : Nat → Int32) (f6n : Nat → Int32) (f7n : Nat → Int32), va_P (dC, dI) vwCl [(xo_5_rrr h it la le), (xI la cI 8 fln), (xI le cI 8 fen), (xJ it cJ 8 fi), (xI y0 cI 40 f0n), (xI y1 cI 40 f1n), (xI y2 cI 40 f2n), (xI y3 cI 40 f3n), (xI y4 cI 40 f4n), (xI y5 cI 40 f5n), (xI y6 cI 40 f6n), (xI y7 cI 40 f7n)] t.heap ∧ va_D (va_A [(xo_5_rrr h it la le), (xI la cI 8 fl), (xI le cI 8 fe), (xJ it cJ 8 fi), (xI y0 cI 40 f0), (xI y1 cI 40 f1), (xI y2 cI 40 f2), (xI y3 cI 40 f3), (xI y4 cI 40 f4), (xI y5 cI 40 f5), (xI y6 cI 40 f6), (xI y7 cI 40 f7)] sz) [(xo_5_rrr h it la le), (xI la cI 8 fln), (xI le cI 8 fen), (xJ it cJ 8 fi), (xI y0 cI 40 f0n), (xI y1 cI 40 f1n), (xI y2 cI 40 f2n), (xI y3 cI 40 f3n), (xI y4 cI 40 f4n), (xI y5 cI 40 f5n), (xI y6 cI 40 f6n), (xI y7 cI 40 f7n)] ∧ (∀ jq : Nat, jq < 8 → ∃ q : Nat, q ≤ 40 ∧ fen jq = nI q) ∧ fln = upd fl j v ∧ fen = upd fe j (nI n)) (va_A [(xo_5_rrr h it la le), (xI la cI 8 fl), (xI le cI 8 fe), (xJ it cJ 8 fi), (xI y0 cI 40 f0), (xI y1 cI 40 f1), (xI y2 cI 40 f2), (xI y3 cI 40 f3), (xI y4 cI 40 f4), (xI y5 cI 40 f5), (xI y6 cI 40 f6), (xI y7 cI 40 f7)] sz)) 0 0 (va_A [(xo_5_rrr h it la le), (xI la cI 8 fl), (xI le cI 8 fe), (xJ it cJ 8 fi), (xI y0 cI 40 f0), (xI y1 cI 40 f1), (xI y2 cI 40 f2), (xI y3 cI 40 f3), (xI y4 cI 40 f4), (xI y5 cI 40 f5), (xI y6 cI 40 f6), (xI y7 cI 40 f7)] sz) := by
  refine Met.ofW (cc := cX5_make) (maxL := 4) (ret := none) (by decide) rfl ?_
  intro p e s m args below meth c s₁ B hml hv
  obtain ⟨rfl, hsz, hP, hK, hD0⟩ := hv
  have hx := B.exec
  have hb := B.bytes
  have hr := B.returns
  have hts := atoms_spec (ws := wsX5_make) B.pre
  have hown : s.vm.findClass RX5 = some m.cls := findClass_of_methodNamed B.named
  have hlocks := B.notSynchronized
  subst hsz
  have hD := hD0.self (sz := s.heap.size)
  generalize hAe : va_A [(xo_5_rrr h it la le), (xI la cI 8 fl), (xI le cI 8 fe), (xJ it cJ 8 fi), (xI y0 cI 40 f0), (xI y1 cI 40 f1), (xI y2 cI 40 f2), (xI y3 cI 40 f3), (xI y4 cI 40 f4), (xI y5 cI 40 f5), (xI y6 cI 40 f6), (xI y7 cI 40 f7)] s.heap.size = A at hD ⊢
  have hA : ∀ q : Nat, s.heap.size ≤ q → A q := fun q h => by rw [← hAe]; exact Or.inr h
  have hS : va_S A s.heap s.heap [] := va_S.rf
  have hP : va_P (dC, dI) vwCl [(xo_5_rrr h it la le), (xI la cI 8 fl), (xI le cI 8 fe), (xJ it cJ 8 fi), (xI y0 cI 40 f0), (xI y1 cI 40 f1), (xI y2 cI 40 f2), (xI y3 cI 40 f3), (xI y4 cI 40 f4), (xI y5 cI 40 f5), (xI y6 cI 40 f6), (xI y7 cI 40 f7)] s.heap := hP
  have hl := lv_entry ([.ref h, .int (nI j), .int v, .int (nI n)]) (n := 4) (Nat.le_of_ble_eq_true rfl)
  rw [lg_entry_eq]
  generalize (lg_sl ([.ref h, .int (nI j), .int v, .int (nI n)]) ++ List.replicate (4 - (lg_sl ([.ref h, .int (nI j), .int v, .int (nI n)])).length) Slot.unset).toArray = ls at hl ⊢
  have hl : lv_has ls 4 [(0, .ref h), (1, .int (nI j)), (2, .int v), (3, .int (nI n))] := hl
  refine lv_aload_n hx hb dX5_make_0 rfl (lv_at hl 0 rfl) ?_
  refine va_get (D := (dC, dI)) (ci := 5) (v := .ref la) (C := RX5) (T := TX5) (N := 3) hx hb hts i_X5_make_X5 hown hK hP 0 rfl rfl 1 (by decide) (hts _ mx_X5_make_1) (fun _ h9 => h9) rfl dX5_make_1 ?_
  refine lv_iload_n hx hb dX5_make_4 rfl (lv_at hl 1 rfl) ?_
  refine lv_iload_n hx hb dX5_make_5 rfl (lv_at hl 2 rfl) ?_
  refine va_iast hx hb hK hP hD hS 1 0 rfl rfl (vp_in_nI (by omega) (by omega)) dX5_make_6 (fun H locs hP hD hS => ?_)
  generalize hg_1 : upd fl ((nI j) : Int32).toNatClampNeg v = g_1 at hP hD
  have hu_1 : g_1 = upd fl j v := (by rw [← hg_1, nI_clamp (by omega)])
  have hP : va_P (dC, dI) vwCl [(xo_5_rrr h it la le), (xI la cI 8 g_1), (xI le cI 8 fe), (xJ it cJ 8 fi), (xI y0 cI 40 f0), (xI y1 cI 40 f1), (xI y2 cI 40 f2), (xI y3 cI 40 f3), (xI y4 cI 40 f4), (xI y5 cI 40 f5), (xI y6 cI 40 f6), (xI y7 cI 40 f7)] H := hP
  have hD := dto hP hD
  refine lv_aload_n hx hb dX5_make_7 rfl (lv_at hl 0 rfl) ?_
  refine va_get (D := (dC, dI)) (ci := 5) (v := .ref le) (C := RX5) (T := TX5) (N := 3) hx hb hts i_X5_make_X5 hown hK hP 0 rfl rfl 2 (by decide) (hts _ mx_X5_make_2) (fun _ h9 => h9) rfl dX5_make_8 ?_
  refine lv_iload_n hx hb dX5_make_11 rfl (lv_at hl 1 rfl) ?_
  refine lv_iload_n hx hb dX5_make_12 rfl (lv_at hl 3 rfl) ?_
  refine va_iast hx hb hK hP hD hS 2 0 rfl rfl (vp_in_nI (by omega) (by omega)) dX5_make_13 (fun H locs hP hD hS => ?_)
  generalize hg_2 : upd fe ((nI j) : Int32).toNatClampNeg (nI n) = g_2 at hP hD
  have hu_2 : g_2 = upd fe j (nI n) := (by rw [← hg_2, nI_clamp (by omega)])
  have hP : va_P (dC, dI) vwCl [(xo_5_rrr h it la le), (xI la cI 8 g_1), (xI le cI 8 g_2), (xJ it cJ 8 fi), (xI y0 cI 40 f0), (xI y1 cI 40 f1), (xI y2 cI 40 f2), (xI y3 cI 40 f3), (xI y4 cI 40 f4), (xI y5 cI 40 f5), (xI y6 cI 40 f6), (xI y7 cI 40 f7)] H := hP
  have hD := dto hP hD
  rcases (show j = 0 ∨ j = 1 ∨ j = 2 ∨ j = 3 ∨ j = 4 ∨ j = 5 ∨ j = 6 ∨ j = 7 by omega) with rfl | rfl | rfl | rfl | rfl | rfl | rfl | rfl
  · skip
    have hl : lv_has ls 4 [(0, .ref h), (1, .int 0), (2, .int v), (3, .int (nI n))] := hl
    refine lv_aload_n hx hb dX5_make_14 rfl (lv_at hl 0 rfl) ?_
    refine va_get (D := (dC, dI)) (ci := 5) (v := .ref it) (C := RX5) (T := TX5) (N := 3) hx hb hts i_X5_make_X5 hown hK hP 0 rfl rfl 0 (by decide) (hts _ mx_X5_make_3) (fun _ h9 => h9) rfl dX5_make_15 ?_
    refine lv_iload_n hx hb dX5_make_18 rfl (lv_at hl 1 rfl) ?_
    refine nw_alk hx hb hK hP 3 3 rfl rfl 0 rfl (Nat.le_of_ble_eq_true rfl) (Nat.le_of_ble_eq_true rfl) hfi.1 dX5_make_19 ?_
    refine lv_iconst (v := 0) hx hb dX5_make_20 (by decide) ?_
    have hc_4 := cutW (wc := [(xI y0 cI 40 f0)]) hP hD hS hA [4] (by decide +kernel) rfl
    refine va_callv (va_runS (As := [.ref y0, .int 0]) (rest := []) ⟨hx, hb, hml, hown, hts⟩ (r_J7_fill l dC dI cI cZ cL cJ H.size y0 40 f0 0 (by decide)) (va_cwS 2 hts gX5_make_J7_fill_53178 rfl rfl rfl (by decide +kernel) ⟨Nat.le_of_ble_eq_true rfl, Nat.le_of_ble_eq_true rfl⟩) (psW hK hc_4) rfl rfl hl.1 rfl (lv_room (Nat.le_of_ble_eq_true rfl)) dX5_make_21 ⟨Nat.le_of_ble_eq_true rfl, Nat.le_of_ble_eq_true rfl⟩) hS (fun q _ h => hc_4.2.2 q h) hc_4.2.2 (fun u_4 t_4 H1 locs ht hvm h_4 hB hz1 hk1 hS => ?_)
    refine xl_1_3 hB (fun g_4 hP1 hD1 hF_4_0 => ?_)
    clear hB
    rw [ht] at hP1
    obtain ⟨hP, hD⟩ := va_join (wr := [(xo_5_rrr h it la le), (xI la cI 8 g_1), (xI le cI 8 g_2), (xJ it cJ 8 fi), (xI y1 cI 40 f1), (xI y2 cI 40 f2), (xI y3 cI 40 f3), (xI y4 cI 40 f4), (xI y5 cI 40 f5), (xI y6 cI 40 f6), (xI y7 cI 40 f7)]) (w1 := [(xI y0 cI 40 g_4)]) hP hD [4] [0, 1, 2, 3, 5, 6, 7, 8, 9, 10, 11] rfl rfl (by decide +kernel) (by decide +kernel) hk1 hc_4.2.2 hP1 hD1
    generalize H1 = H at hP hS ⊢
    have hP : va_P (dC, dI) vwCl [(xo_5_rrr h it la le), (xI la cI 8 g_1), (xI le cI 8 g_2), (xJ it cJ 8 fi), (xI y1 cI 40 f1), (xI y2 cI 40 f2), (xI y3 cI 40 f3), (xI y4 cI 40 f4), (xI y5 cI 40 f5), (xI y6 cI 40 f6), (xI y7 cI 40 f7), (xI y0 cI 40 g_4)] H := hP
    have hD := dto hP hD
    have hX9 := cut2 (wc := [(xo_5_rrr h it la le), (xI la cI 8 g_1), (xI le cI 8 g_2), (xJ it cJ 8 fi), (xI y0 cI 40 g_4), (xI y1 cI 40 f1), (xI y2 cI 40 f2), (xI y3 cI 40 f3), (xI y4 cI 40 f4), (xI y5 cI 40 f5), (xI y6 cI 40 f6), (xI y7 cI 40 f7)]) hP hD [0, 1, 2, 3, 11, 4, 5, 6, 7, 8, 9, 10] (by decide +kernel) rfl
    exact W.vret hx hb hr (fun t ht hW => ⟨⟨(), rfl, trivial, ⟨g_1, g_2, g_4, f1, f2, f3, f4, f5, f6, f7, va_Ht ht hX9.1, hX9.2, (fe_up hfe (by omega) hn hg_2.symm), (lf_X5_make_1 hfi hj hfe hn hu_1 hu_2 hF_4_0), (lf_X5_make_2 hfi hj hfe hn hu_1 hu_2 hF_4_0)⟩⟩, hS.F ht⟩) hS.2.2 dX5_make_24
  · skip
    have hl : lv_has ls 4 [(0, .ref h), (1, .int 1), (2, .int v), (3, .int (nI n))] := hl
    refine lv_aload_n hx hb dX5_make_14 rfl (lv_at hl 0 rfl) ?_
    refine va_get (D := (dC, dI)) (ci := 5) (v := .ref it) (C := RX5) (T := TX5) (N := 3) hx hb hts i_X5_make_X5 hown hK hP 0 rfl rfl 0 (by decide) (hts _ mx_X5_make_3) (fun _ h9 => h9) rfl dX5_make_15 ?_
    refine lv_iload_n hx hb dX5_make_18 rfl (lv_at hl 1 rfl) ?_
    refine nw_alk hx hb hK hP 3 3 rfl rfl 1 rfl (Nat.le_of_ble_eq_true rfl) (Nat.le_of_ble_eq_true rfl) hfi.2.1 dX5_make_19 ?_
    refine lv_iconst (v := 0) hx hb dX5_make_20 (by decide) ?_
    have hc_6 := cutW (wc := [(xI y1 cI 40 f1)]) hP hD hS hA [5] (by decide +kernel) rfl
    refine va_callv (va_runS (As := [.ref y1, .int 0]) (rest := []) ⟨hx, hb, hml, hown, hts⟩ (r_J7_fill l dC dI cI cZ cL cJ H.size y1 40 f1 0 (by decide)) (va_cwS 2 hts gX5_make_J7_fill_53178 rfl rfl rfl (by decide +kernel) ⟨Nat.le_of_ble_eq_true rfl, Nat.le_of_ble_eq_true rfl⟩) (psW hK hc_6) rfl rfl hl.1 rfl (lv_room (Nat.le_of_ble_eq_true rfl)) dX5_make_21 ⟨Nat.le_of_ble_eq_true rfl, Nat.le_of_ble_eq_true rfl⟩) hS (fun q _ h => hc_6.2.2 q h) hc_6.2.2 (fun u_6 t_6 H1 locs ht hvm h_6 hB hz1 hk1 hS => ?_)
    refine xl_1_3 hB (fun g_6 hP1 hD1 hF_6_0 => ?_)
    clear hB
    rw [ht] at hP1
    obtain ⟨hP, hD⟩ := va_join (wr := [(xo_5_rrr h it la le), (xI la cI 8 g_1), (xI le cI 8 g_2), (xJ it cJ 8 fi), (xI y0 cI 40 f0), (xI y2 cI 40 f2), (xI y3 cI 40 f3), (xI y4 cI 40 f4), (xI y5 cI 40 f5), (xI y6 cI 40 f6), (xI y7 cI 40 f7)]) (w1 := [(xI y1 cI 40 g_6)]) hP hD [5] [0, 1, 2, 3, 4, 6, 7, 8, 9, 10, 11] rfl rfl (by decide +kernel) (by decide +kernel) hk1 hc_6.2.2 hP1 hD1
    generalize H1 = H at hP hS ⊢
    have hP : va_P (dC, dI) vwCl [(xo_5_rrr h it la le), (xI la cI 8 g_1), (xI le cI 8 g_2), (xJ it cJ 8 fi), (xI y0 cI 40 f0), (xI y2 cI 40 f2), (xI y3 cI 40 f3), (xI y4 cI 40 f4), (xI y5 cI 40 f5), (xI y6 cI 40 f6), (xI y7 cI 40 f7), (xI y1 cI 40 g_6)] H := hP
    have hD := dto hP hD
    have hX9 := cut2 (wc := [(xo_5_rrr h it la le), (xI la cI 8 g_1), (xI le cI 8 g_2), (xJ it cJ 8 fi), (xI y0 cI 40 f0), (xI y1 cI 40 g_6), (xI y2 cI 40 f2), (xI y3 cI 40 f3), (xI y4 cI 40 f4), (xI y5 cI 40 f5), (xI y6 cI 40 f6), (xI y7 cI 40 f7)]) hP hD [0, 1, 2, 3, 4, 11, 5, 6, 7, 8, 9, 10] (by decide +kernel) rfl
    exact W.vret hx hb hr (fun t ht hW => ⟨⟨(), rfl, trivial, ⟨g_1, g_2, f0, g_6, f2, f3, f4, f5, f6, f7, va_Ht ht hX9.1, hX9.2, (fe_up hfe (by omega) hn hg_2.symm), (lf_X5_make_3 hfi hj hfe hn hu_1 hu_2 hF_6_0), (lf_X5_make_4 hfi hj hfe hn hu_1 hu_2 hF_6_0)⟩⟩, hS.F ht⟩) hS.2.2 dX5_make_24
  · skip
    have hl : lv_has ls 4 [(0, .ref h), (1, .int 2), (2, .int v), (3, .int (nI n))] := hl
    refine lv_aload_n hx hb dX5_make_14 rfl (lv_at hl 0 rfl) ?_
    refine va_get (D := (dC, dI)) (ci := 5) (v := .ref it) (C := RX5) (T := TX5) (N := 3) hx hb hts i_X5_make_X5 hown hK hP 0 rfl rfl 0 (by decide) (hts _ mx_X5_make_3) (fun _ h9 => h9) rfl dX5_make_15 ?_
    refine lv_iload_n hx hb dX5_make_18 rfl (lv_at hl 1 rfl) ?_
    refine nw_alk hx hb hK hP 3 3 rfl rfl 2 rfl (Nat.le_of_ble_eq_true rfl) (Nat.le_of_ble_eq_true rfl) hfi.2.2.1 dX5_make_19 ?_
    refine lv_iconst (v := 0) hx hb dX5_make_20 (by decide) ?_
    have hc_8 := cutW (wc := [(xI y2 cI 40 f2)]) hP hD hS hA [6] (by decide +kernel) rfl
    refine va_callv (va_runS (As := [.ref y2, .int 0]) (rest := []) ⟨hx, hb, hml, hown, hts⟩ (r_J7_fill l dC dI cI cZ cL cJ H.size y2 40 f2 0 (by decide)) (va_cwS 2 hts gX5_make_J7_fill_53178 rfl rfl rfl (by decide +kernel) ⟨Nat.le_of_ble_eq_true rfl, Nat.le_of_ble_eq_true rfl⟩) (psW hK hc_8) rfl rfl hl.1 rfl (lv_room (Nat.le_of_ble_eq_true rfl)) dX5_make_21 ⟨Nat.le_of_ble_eq_true rfl, Nat.le_of_ble_eq_true rfl⟩) hS (fun q _ h => hc_8.2.2 q h) hc_8.2.2 (fun u_8 t_8 H1 locs ht hvm h_8 hB hz1 hk1 hS => ?_)
    refine xl_1_3 hB (fun g_8 hP1 hD1 hF_8_0 => ?_)
    clear hB
    rw [ht] at hP1
    obtain ⟨hP, hD⟩ := va_join (wr := [(xo_5_rrr h it la le), (xI la cI 8 g_1), (xI le cI 8 g_2), (xJ it cJ 8 fi), (xI y0 cI 40 f0), (xI y1 cI 40 f1), (xI y3 cI 40 f3), (xI y4 cI 40 f4), (xI y5 cI 40 f5), (xI y6 cI 40 f6), (xI y7 cI 40 f7)]) (w1 := [(xI y2 cI 40 g_8)]) hP hD [6] [0, 1, 2, 3, 4, 5, 7, 8, 9, 10, 11] rfl rfl (by decide +kernel) (by decide +kernel) hk1 hc_8.2.2 hP1 hD1
    generalize H1 = H at hP hS ⊢
    have hP : va_P (dC, dI) vwCl [(xo_5_rrr h it la le), (xI la cI 8 g_1), (xI le cI 8 g_2), (xJ it cJ 8 fi), (xI y0 cI 40 f0), (xI y1 cI 40 f1), (xI y3 cI 40 f3), (xI y4 cI 40 f4), (xI y5 cI 40 f5), (xI y6 cI 40 f6), (xI y7 cI 40 f7), (xI y2 cI 40 g_8)] H := hP
    have hD := dto hP hD
    have hX9 := cut2 (wc := [(xo_5_rrr h it la le), (xI la cI 8 g_1), (xI le cI 8 g_2), (xJ it cJ 8 fi), (xI y0 cI 40 f0), (xI y1 cI 40 f1), (xI y2 cI 40 g_8), (xI y3 cI 40 f3), (xI y4 cI 40 f4), (xI y5 cI 40 f5), (xI y6 cI 40 f6), (xI y7 cI 40 f7)]) hP hD [0, 1, 2, 3, 4, 5, 11, 6, 7, 8, 9, 10] (by decide +kernel) rfl
    exact W.vret hx hb hr (fun t ht hW => ⟨⟨(), rfl, trivial, ⟨g_1, g_2, f0, f1, g_8, f3, f4, f5, f6, f7, va_Ht ht hX9.1, hX9.2, (fe_up hfe (by omega) hn hg_2.symm), (lf_X5_make_5 hfi hj hfe hn hu_1 hu_2 hF_8_0), (lf_X5_make_6 hfi hj hfe hn hu_1 hu_2 hF_8_0)⟩⟩, hS.F ht⟩) hS.2.2 dX5_make_24
  · skip
    have hl : lv_has ls 4 [(0, .ref h), (1, .int 3), (2, .int v), (3, .int (nI n))] := hl
    refine lv_aload_n hx hb dX5_make_14 rfl (lv_at hl 0 rfl) ?_
    refine va_get (D := (dC, dI)) (ci := 5) (v := .ref it) (C := RX5) (T := TX5) (N := 3) hx hb hts i_X5_make_X5 hown hK hP 0 rfl rfl 0 (by decide) (hts _ mx_X5_make_3) (fun _ h9 => h9) rfl dX5_make_15 ?_
    refine lv_iload_n hx hb dX5_make_18 rfl (lv_at hl 1 rfl) ?_
    refine nw_alk hx hb hK hP 3 3 rfl rfl 3 rfl (Nat.le_of_ble_eq_true rfl) (Nat.le_of_ble_eq_true rfl) hfi.2.2.2.1 dX5_make_19 ?_
    refine lv_iconst (v := 0) hx hb dX5_make_20 (by decide) ?_
    have hc_10 := cutW (wc := [(xI y3 cI 40 f3)]) hP hD hS hA [7] (by decide +kernel) rfl
    refine va_callv (va_runS (As := [.ref y3, .int 0]) (rest := []) ⟨hx, hb, hml, hown, hts⟩ (r_J7_fill l dC dI cI cZ cL cJ H.size y3 40 f3 0 (by decide)) (va_cwS 2 hts gX5_make_J7_fill_53178 rfl rfl rfl (by decide +kernel) ⟨Nat.le_of_ble_eq_true rfl, Nat.le_of_ble_eq_true rfl⟩) (psW hK hc_10) rfl rfl hl.1 rfl (lv_room (Nat.le_of_ble_eq_true rfl)) dX5_make_21 ⟨Nat.le_of_ble_eq_true rfl, Nat.le_of_ble_eq_true rfl⟩) hS (fun q _ h => hc_10.2.2 q h) hc_10.2.2 (fun u_10 t_10 H1 locs ht hvm h_10 hB hz1 hk1 hS => ?_)
    refine xl_1_3 hB (fun g_10 hP1 hD1 hF_10_0 => ?_)
    clear hB
    rw [ht] at hP1
    obtain ⟨hP, hD⟩ := va_join (wr := [(xo_5_rrr h it la le), (xI la cI 8 g_1), (xI le cI 8 g_2), (xJ it cJ 8 fi), (xI y0 cI 40 f0), (xI y1 cI 40 f1), (xI y2 cI 40 f2), (xI y4 cI 40 f4), (xI y5 cI 40 f5), (xI y6 cI 40 f6), (xI y7 cI 40 f7)]) (w1 := [(xI y3 cI 40 g_10)]) hP hD [7] [0, 1, 2, 3, 4, 5, 6, 8, 9, 10, 11] rfl rfl (by decide +kernel) (by decide +kernel) hk1 hc_10.2.2 hP1 hD1
    generalize H1 = H at hP hS ⊢
    have hP : va_P (dC, dI) vwCl [(xo_5_rrr h it la le), (xI la cI 8 g_1), (xI le cI 8 g_2), (xJ it cJ 8 fi), (xI y0 cI 40 f0), (xI y1 cI 40 f1), (xI y2 cI 40 f2), (xI y4 cI 40 f4), (xI y5 cI 40 f5), (xI y6 cI 40 f6), (xI y7 cI 40 f7), (xI y3 cI 40 g_10)] H := hP
    have hD := dto hP hD
    have hX9 := cut2 (wc := [(xo_5_rrr h it la le), (xI la cI 8 g_1), (xI le cI 8 g_2), (xJ it cJ 8 fi), (xI y0 cI 40 f0), (xI y1 cI 40 f1), (xI y2 cI 40 f2), (xI y3 cI 40 g_10), (xI y4 cI 40 f4), (xI y5 cI 40 f5), (xI y6 cI 40 f6), (xI y7 cI 40 f7)]) hP hD [0, 1, 2, 3, 4, 5, 6, 11, 7, 8, 9, 10] (by decide +kernel) rfl
    exact W.vret hx hb hr (fun t ht hW => ⟨⟨(), rfl, trivial, ⟨g_1, g_2, f0, f1, f2, g_10, f4, f5, f6, f7, va_Ht ht hX9.1, hX9.2, (fe_up hfe (by omega) hn hg_2.symm), (lf_X5_make_7 hfi hj hfe hn hu_1 hu_2 hF_10_0), (lf_X5_make_8 hfi hj hfe hn hu_1 hu_2 hF_10_0)⟩⟩, hS.F ht⟩) hS.2.2 dX5_make_24
  · skip
    have hl : lv_has ls 4 [(0, .ref h), (1, .int 4), (2, .int v), (3, .int (nI n))] := hl
    refine lv_aload_n hx hb dX5_make_14 rfl (lv_at hl 0 rfl) ?_
    refine va_get (D := (dC, dI)) (ci := 5) (v := .ref it) (C := RX5) (T := TX5) (N := 3) hx hb hts i_X5_make_X5 hown hK hP 0 rfl rfl 0 (by decide) (hts _ mx_X5_make_3) (fun _ h9 => h9) rfl dX5_make_15 ?_
    refine lv_iload_n hx hb dX5_make_18 rfl (lv_at hl 1 rfl) ?_
    refine nw_alk hx hb hK hP 3 3 rfl rfl 4 rfl (Nat.le_of_ble_eq_true rfl) (Nat.le_of_ble_eq_true rfl) hfi.2.2.2.2.1 dX5_make_19 ?_
    refine lv_iconst (v := 0) hx hb dX5_make_20 (by decide) ?_
    have hc_12 := cutW (wc := [(xI y4 cI 40 f4)]) hP hD hS hA [8] (by decide +kernel) rfl
    refine va_callv (va_runS (As := [.ref y4, .int 0]) (rest := []) ⟨hx, hb, hml, hown, hts⟩ (r_J7_fill l dC dI cI cZ cL cJ H.size y4 40 f4 0 (by decide)) (va_cwS 2 hts gX5_make_J7_fill_53178 rfl rfl rfl (by decide +kernel) ⟨Nat.le_of_ble_eq_true rfl, Nat.le_of_ble_eq_true rfl⟩) (psW hK hc_12) rfl rfl hl.1 rfl (lv_room (Nat.le_of_ble_eq_true rfl)) dX5_make_21 ⟨Nat.le_of_ble_eq_true rfl, Nat.le_of_ble_eq_true rfl⟩) hS (fun q _ h => hc_12.2.2 q h) hc_12.2.2 (fun u_12 t_12 H1 locs ht hvm h_12 hB hz1 hk1 hS => ?_)
    refine xl_1_3 hB (fun g_12 hP1 hD1 hF_12_0 => ?_)
    clear hB
    rw [ht] at hP1
    obtain ⟨hP, hD⟩ := va_join (wr := [(xo_5_rrr h it la le), (xI la cI 8 g_1), (xI le cI 8 g_2), (xJ it cJ 8 fi), (xI y0 cI 40 f0), (xI y1 cI 40 f1), (xI y2 cI 40 f2), (xI y3 cI 40 f3), (xI y5 cI 40 f5), (xI y6 cI 40 f6), (xI y7 cI 40 f7)]) (w1 := [(xI y4 cI 40 g_12)]) hP hD [8] [0, 1, 2, 3, 4, 5, 6, 7, 9, 10, 11] rfl rfl (by decide +kernel) (by decide +kernel) hk1 hc_12.2.2 hP1 hD1
    generalize H1 = H at hP hS ⊢
    have hP : va_P (dC, dI) vwCl [(xo_5_rrr h it la le), (xI la cI 8 g_1), (xI le cI 8 g_2), (xJ it cJ 8 fi), (xI y0 cI 40 f0), (xI y1 cI 40 f1), (xI y2 cI 40 f2), (xI y3 cI 40 f3), (xI y5 cI 40 f5), (xI y6 cI 40 f6), (xI y7 cI 40 f7), (xI y4 cI 40 g_12)] H := hP
    have hD := dto hP hD
    have hX9 := cut2 (wc := [(xo_5_rrr h it la le), (xI la cI 8 g_1), (xI le cI 8 g_2), (xJ it cJ 8 fi), (xI y0 cI 40 f0), (xI y1 cI 40 f1), (xI y2 cI 40 f2), (xI y3 cI 40 f3), (xI y4 cI 40 g_12), (xI y5 cI 40 f5), (xI y6 cI 40 f6), (xI y7 cI 40 f7)]) hP hD [0, 1, 2, 3, 4, 5, 6, 7, 11, 8, 9, 10] (by decide +kernel) rfl
    exact W.vret hx hb hr (fun t ht hW => ⟨⟨(), rfl, trivial, ⟨g_1, g_2, f0, f1, f2, f3, g_12, f5, f6, f7, va_Ht ht hX9.1, hX9.2, (fe_up hfe (by omega) hn hg_2.symm), (lf_X5_make_9 hfi hj hfe hn hu_1 hu_2 hF_12_0), (lf_X5_make_10 hfi hj hfe hn hu_1 hu_2 hF_12_0)⟩⟩, hS.F ht⟩) hS.2.2 dX5_make_24
  · skip
    have hl : lv_has ls 4 [(0, .ref h), (1, .int 5), (2, .int v), (3, .int (nI n))] := hl
    refine lv_aload_n hx hb dX5_make_14 rfl (lv_at hl 0 rfl) ?_
    refine va_get (D := (dC, dI)) (ci := 5) (v := .ref it) (C := RX5) (T := TX5) (N := 3) hx hb hts i_X5_make_X5 hown hK hP 0 rfl rfl 0 (by decide) (hts _ mx_X5_make_3) (fun _ h9 => h9) rfl dX5_make_15 ?_
    refine lv_iload_n hx hb dX5_make_18 rfl (lv_at hl 1 rfl) ?_
    refine nw_alk hx hb hK hP 3 3 rfl rfl 5 rfl (Nat.le_of_ble_eq_true rfl) (Nat.le_of_ble_eq_true rfl) hfi.2.2.2.2.2.1 dX5_make_19 ?_
    refine lv_iconst (v := 0) hx hb dX5_make_20 (by decide) ?_
    have hc_14 := cutW (wc := [(xI y5 cI 40 f5)]) hP hD hS hA [9] (by decide +kernel) rfl
    refine va_callv (va_runS (As := [.ref y5, .int 0]) (rest := []) ⟨hx, hb, hml, hown, hts⟩ (r_J7_fill l dC dI cI cZ cL cJ H.size y5 40 f5 0 (by decide)) (va_cwS 2 hts gX5_make_J7_fill_53178 rfl rfl rfl (by decide +kernel) ⟨Nat.le_of_ble_eq_true rfl, Nat.le_of_ble_eq_true rfl⟩) (psW hK hc_14) rfl rfl hl.1 rfl (lv_room (Nat.le_of_ble_eq_true rfl)) dX5_make_21 ⟨Nat.le_of_ble_eq_true rfl, Nat.le_of_ble_eq_true rfl⟩) hS (fun q _ h => hc_14.2.2 q h) hc_14.2.2 (fun u_14 t_14 H1 locs ht hvm h_14 hB hz1 hk1 hS => ?_)
    refine xl_1_3 hB (fun g_14 hP1 hD1 hF_14_0 => ?_)
    clear hB
    rw [ht] at hP1
    obtain ⟨hP, hD⟩ := va_join (wr := [(xo_5_rrr h it la le), (xI la cI 8 g_1), (xI le cI 8 g_2), (xJ it cJ 8 fi), (xI y0 cI 40 f0), (xI y1 cI 40 f1), (xI y2 cI 40 f2), (xI y3 cI 40 f3), (xI y4 cI 40 f4), (xI y6 cI 40 f6), (xI y7 cI 40 f7)]) (w1 := [(xI y5 cI 40 g_14)]) hP hD [9] [0, 1, 2, 3, 4, 5, 6, 7, 8, 10, 11] rfl rfl (by decide +kernel) (by decide +kernel) hk1 hc_14.2.2 hP1 hD1
    generalize H1 = H at hP hS ⊢
    have hP : va_P (dC, dI) vwCl [(xo_5_rrr h it la le), (xI la cI 8 g_1), (xI le cI 8 g_2), (xJ it cJ 8 fi), (xI y0 cI 40 f0), (xI y1 cI 40 f1), (xI y2 cI 40 f2), (xI y3 cI 40 f3), (xI y4 cI 40 f4), (xI y6 cI 40 f6), (xI y7 cI 40 f7), (xI y5 cI 40 g_14)] H := hP
    have hD := dto hP hD
    have hX9 := cut2 (wc := [(xo_5_rrr h it la le), (xI la cI 8 g_1), (xI le cI 8 g_2), (xJ it cJ 8 fi), (xI y0 cI 40 f0), (xI y1 cI 40 f1), (xI y2 cI 40 f2), (xI y3 cI 40 f3), (xI y4 cI 40 f4), (xI y5 cI 40 g_14), (xI y6 cI 40 f6), (xI y7 cI 40 f7)]) hP hD [0, 1, 2, 3, 4, 5, 6, 7, 8, 11, 9, 10] (by decide +kernel) rfl
    exact W.vret hx hb hr (fun t ht hW => ⟨⟨(), rfl, trivial, ⟨g_1, g_2, f0, f1, f2, f3, f4, g_14, f6, f7, va_Ht ht hX9.1, hX9.2, (fe_up hfe (by omega) hn hg_2.symm), (lf_X5_make_11 hfi hj hfe hn hu_1 hu_2 hF_14_0), (lf_X5_make_12 hfi hj hfe hn hu_1 hu_2 hF_14_0)⟩⟩, hS.F ht⟩) hS.2.2 dX5_make_24
  · skip
    have hl : lv_has ls 4 [(0, .ref h), (1, .int 6), (2, .int v), (3, .int (nI n))] := hl
    refine lv_aload_n hx hb dX5_make_14 rfl (lv_at hl 0 rfl) ?_
    refine va_get (D := (dC, dI)) (ci := 5) (v := .ref it) (C := RX5) (T := TX5) (N := 3) hx hb hts i_X5_make_X5 hown hK hP 0 rfl rfl 0 (by decide) (hts _ mx_X5_make_3) (fun _ h9 => h9) rfl dX5_make_15 ?_
    refine lv_iload_n hx hb dX5_make_18 rfl (lv_at hl 1 rfl) ?_
    refine nw_alk hx hb hK hP 3 3 rfl rfl 6 rfl (Nat.le_of_ble_eq_true rfl) (Nat.le_of_ble_eq_true rfl) hfi.2.2.2.2.2.2.1 dX5_make_19 ?_
    refine lv_iconst (v := 0) hx hb dX5_make_20 (by decide) ?_
    have hc_16 := cutW (wc := [(xI y6 cI 40 f6)]) hP hD hS hA [10] (by decide +kernel) rfl
    refine va_callv (va_runS (As := [.ref y6, .int 0]) (rest := []) ⟨hx, hb, hml, hown, hts⟩ (r_J7_fill l dC dI cI cZ cL cJ H.size y6 40 f6 0 (by decide)) (va_cwS 2 hts gX5_make_J7_fill_53178 rfl rfl rfl (by decide +kernel) ⟨Nat.le_of_ble_eq_true rfl, Nat.le_of_ble_eq_true rfl⟩) (psW hK hc_16) rfl rfl hl.1 rfl (lv_room (Nat.le_of_ble_eq_true rfl)) dX5_make_21 ⟨Nat.le_of_ble_eq_true rfl, Nat.le_of_ble_eq_true rfl⟩) hS (fun q _ h => hc_16.2.2 q h) hc_16.2.2 (fun u_16 t_16 H1 locs ht hvm h_16 hB hz1 hk1 hS => ?_)
    refine xl_1_3 hB (fun g_16 hP1 hD1 hF_16_0 => ?_)
    clear hB
    rw [ht] at hP1
    obtain ⟨hP, hD⟩ := va_join (wr := [(xo_5_rrr h it la le), (xI la cI 8 g_1), (xI le cI 8 g_2), (xJ it cJ 8 fi), (xI y0 cI 40 f0), (xI y1 cI 40 f1), (xI y2 cI 40 f2), (xI y3 cI 40 f3), (xI y4 cI 40 f4), (xI y5 cI 40 f5), (xI y7 cI 40 f7)]) (w1 := [(xI y6 cI 40 g_16)]) hP hD [10] [0, 1, 2, 3, 4, 5, 6, 7, 8, 9, 11] rfl rfl (by decide +kernel) (by decide +kernel) hk1 hc_16.2.2 hP1 hD1
    generalize H1 = H at hP hS ⊢
    have hP : va_P (dC, dI) vwCl [(xo_5_rrr h it la le), (xI la cI 8 g_1), (xI le cI 8 g_2), (xJ it cJ 8 fi), (xI y0 cI 40 f0), (xI y1 cI 40 f1), (xI y2 cI 40 f2), (xI y3 cI 40 f3), (xI y4 cI 40 f4), (xI y5 cI 40 f5), (xI y7 cI 40 f7), (xI y6 cI 40 g_16)] H := hP
    have hD := dto hP hD
    have hX9 := cut2 (wc := [(xo_5_rrr h it la le), (xI la cI 8 g_1), (xI le cI 8 g_2), (xJ it cJ 8 fi), (xI y0 cI 40 f0), (xI y1 cI 40 f1), (xI y2 cI 40 f2), (xI y3 cI 40 f3), (xI y4 cI 40 f4), (xI y5 cI 40 f5), (xI y6 cI 40 g_16), (xI y7 cI 40 f7)]) hP hD [0, 1, 2, 3, 4, 5, 6, 7, 8, 9, 11, 10] (by decide +kernel) rfl
    exact W.vret hx hb hr (fun t ht hW => ⟨⟨(), rfl, trivial, ⟨g_1, g_2, f0, f1, f2, f3, f4, f5, g_16, f7, va_Ht ht hX9.1, hX9.2, (fe_up hfe (by omega) hn hg_2.symm), (lf_X5_make_13 hfi hj hfe hn hu_1 hu_2 hF_16_0), (lf_X5_make_14 hfi hj hfe hn hu_1 hu_2 hF_16_0)⟩⟩, hS.F ht⟩) hS.2.2 dX5_make_24
  · skip
    have hl : lv_has ls 4 [(0, .ref h), (1, .int 7), (2, .int v), (3, .int (nI n))] := hl
    refine lv_aload_n hx hb dX5_make_14 rfl (lv_at hl 0 rfl) ?_
    refine va_get (D := (dC, dI)) (ci := 5) (v := .ref it) (C := RX5) (T := TX5) (N := 3) hx hb hts i_X5_make_X5 hown hK hP 0 rfl rfl 0 (by decide) (hts _ mx_X5_make_3) (fun _ h9 => h9) rfl dX5_make_15 ?_
    refine lv_iload_n hx hb dX5_make_18 rfl (lv_at hl 1 rfl) ?_
    refine nw_alk hx hb hK hP 3 3 rfl rfl 7 rfl (Nat.le_of_ble_eq_true rfl) (Nat.le_of_ble_eq_true rfl) hfi.2.2.2.2.2.2.2 dX5_make_19 ?_
    refine lv_iconst (v := 0) hx hb dX5_make_20 (by decide) ?_
    have hc_18 := cutW (wc := [(xI y7 cI 40 f7)]) hP hD hS hA [11] (by decide +kernel) rfl
    refine va_callv (va_runS (As := [.ref y7, .int 0]) (rest := []) ⟨hx, hb, hml, hown, hts⟩ (r_J7_fill l dC dI cI cZ cL cJ H.size y7 40 f7 0 (by decide)) (va_cwS 2 hts gX5_make_J7_fill_53178 rfl rfl rfl (by decide +kernel) ⟨Nat.le_of_ble_eq_true rfl, Nat.le_of_ble_eq_true rfl⟩) (psW hK hc_18) rfl rfl hl.1 rfl (lv_room (Nat.le_of_ble_eq_true rfl)) dX5_make_21 ⟨Nat.le_of_ble_eq_true rfl, Nat.le_of_ble_eq_true rfl⟩) hS (fun q _ h => hc_18.2.2 q h) hc_18.2.2 (fun u_18 t_18 H1 locs ht hvm h_18 hB hz1 hk1 hS => ?_)
    refine xl_1_3 hB (fun g_18 hP1 hD1 hF_18_0 => ?_)
    clear hB
    rw [ht] at hP1
    obtain ⟨hP, hD⟩ := va_join (wr := [(xo_5_rrr h it la le), (xI la cI 8 g_1), (xI le cI 8 g_2), (xJ it cJ 8 fi), (xI y0 cI 40 f0), (xI y1 cI 40 f1), (xI y2 cI 40 f2), (xI y3 cI 40 f3), (xI y4 cI 40 f4), (xI y5 cI 40 f5), (xI y6 cI 40 f6)]) (w1 := [(xI y7 cI 40 g_18)]) hP hD [11] [0, 1, 2, 3, 4, 5, 6, 7, 8, 9, 10] rfl rfl (by decide +kernel) (by decide +kernel) hk1 hc_18.2.2 hP1 hD1
    generalize H1 = H at hP hS ⊢
    have hP : va_P (dC, dI) vwCl [(xo_5_rrr h it la le), (xI la cI 8 g_1), (xI le cI 8 g_2), (xJ it cJ 8 fi), (xI y0 cI 40 f0), (xI y1 cI 40 f1), (xI y2 cI 40 f2), (xI y3 cI 40 f3), (xI y4 cI 40 f4), (xI y5 cI 40 f5), (xI y6 cI 40 f6), (xI y7 cI 40 g_18)] H := hP
    have hD := dto hP hD
    have hX9 := cut2 (wc := [(xo_5_rrr h it la le), (xI la cI 8 g_1), (xI le cI 8 g_2), (xJ it cJ 8 fi), (xI y0 cI 40 f0), (xI y1 cI 40 f1), (xI y2 cI 40 f2), (xI y3 cI 40 f3), (xI y4 cI 40 f4), (xI y5 cI 40 f5), (xI y6 cI 40 f6), (xI y7 cI 40 g_18)]) hP hD [0, 1, 2, 3, 4, 5, 6, 7, 8, 9, 10, 11] (by decide +kernel) rfl
    exact W.vret hx hb hr (fun t ht hW => ⟨⟨(), rfl, trivial, ⟨g_1, g_2, f0, f1, f2, f3, f4, f5, f6, g_18, va_Ht ht hX9.1, hX9.2, (fe_up hfe (by omega) hn hg_2.symm), (lf_X5_make_15 hfi hj hfe hn hu_1 hu_2 hF_18_0), (lf_X5_make_16 hfi hj hfe hn hu_1 hu_2 hF_18_0)⟩⟩, hS.F ht⟩) hS.2.2 dX5_make_24
