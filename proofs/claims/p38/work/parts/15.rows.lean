set_option maxHeartbeats 4000000 in
set_option maxRecDepth 100000 in
theorem r_J7_fill (l : Launch) (dC : Nat → ClassId) (dI : Nat → Nat → Nat) (cI cZ cL cJ : ClassId) (sz : Nat) (a : Nat) (n : Nat) (f : Nat → Int32) (v : Int32) (hn : n < 2 ^ 31) : Met l yJ7_fill_53178 wsJ7_fill_53178 ({ frames := 0, cells := 0, slots := 0, locals := 0 }) (va_Pc [.ref a, .int v] (fun U => U.heap.size = sz ∧ va_P (dC, dI) vwCl [(xI a cI n f)] U.heap ∧ va_K (dC, dI) vwCl [(cI, .int), (cZ, .boolean), (cL, .object RX3), (cJ, .array .int)] U ∧ va_D (fun _ => True) [(xI a cI n f)])) (va_Qv (fun (_ : Unit) => True) (fun (_ : Unit) t => ∃ (g : Nat → Int32), va_P (dC, dI) vwCl [(xI a cI n g)] t.heap ∧ va_D (va_A [(xI a cI n f)] sz) [(xI a cI n g)] ∧ (∀ jz : Nat, jz < n → g jz = v)) (va_A [(xI a cI n f)] sz)) 0 0 (va_A [(xI a cI n f)] sz) := by
  refine Met.ofW (cc := cJ7_fill_53178) (maxL := 4) (ret := none) (by decide) rfl ?_
  intro p e s m args below meth c s₁ B hml hv
  obtain ⟨rfl, hsz, hP, hK, hD0⟩ := hv
  have hx := B.exec
  have hb := B.bytes
  have hr := B.returns
  have hts := atoms_spec (ws := wsJ7_fill_53178) B.pre
  have hown : s.vm.findClass RJ7 = some m.cls := findClass_of_methodNamed B.named
  have hlocks := B.notSynchronized
  subst hsz
  have hD := hD0.self (sz := s.heap.size)
  generalize hAe : va_A [(xI a cI n f)] s.heap.size = A at hD ⊢
  have hA : ∀ q : Nat, s.heap.size ≤ q → A q := fun q h => by rw [← hAe]; exact Or.inr h
  have hS : va_S A s.heap s.heap [] := va_S.rf
  have hP : va_P (dC, dI) vwCl [(xI a cI n f)] s.heap := hP
  have hl := lv_entry ([.ref a, .int v]) (n := 4) (Nat.le_of_ble_eq_true rfl)
  rw [lg_entry_eq]
  generalize (lg_sl ([.ref a, .int v]) ++ List.replicate (4 - (lg_sl ([.ref a, .int v])).length) Slot.unset).toArray = ls at hl ⊢
  have hl : lv_has ls 4 [(0, .ref a), (1, .int v)] := hl
  refine lv_iconst (v := 0) hx hb dJ7_fill_53178_0 (by decide) ?_
  refine lv_istore_n (lv' := [(2, .int 0), (0, .ref a), (1, .int v)]) hx hb dJ7_fill_53178_1 rfl hl (by decide) rfl (fun ls hl => ?_)
  refine lv_aload_n hx hb dJ7_fill_53178_2 rfl (lv_at hl 1 rfl) ?_
  refine va_alen (v := nI n) hx hb hK hP 0 0 rfl rfl rfl dJ7_fill_53178_3 ?_
  refine lv_istore_n (lv' := [(3, .int (nI n)), (2, .int 0), (0, .ref a), (1, .int v)]) hx hb dJ7_fill_53178_4 rfl hl (by decide) rfl (fun ls hl => ?_)
  refine lp_go (σ := (Nat → Int32)) (fun ii (st : (Nat → Int32)) H locs ls => match st with | w_3 => lv_has ls 4 [(3, .int (nI n)), (2, .int (nI ii)), (0, .ref a), (1, .int v)] ∧ va_P (dC, dI) vwCl [(xI a cI n w_3)] H ∧ va_D A [(xI a cI n w_3)] ∧ va_S A s.heap H locs ∧ (∀ j : Nat, j < ii → w_3 j = v)) n ?_ ?_ 0 (by omega) (f) ⟨lv_sub hl [0, 1, 2, 3] rfl, hP.sub (ws' := [(xI a cI n f)]) [0] rfl, hD.sub (ws' := [(xI a cI n f)]) [0] (by decide +kernel) rfl, hS, (fun j h_ => absurd h_ (Nat.not_lt_zero j))⟩
  · rintro ii w_3 H locs ls hii ⟨hl, hP, hD, hS, haf_0⟩ ih
    refine lv_iload_n hx hb dJ7_fill_53178_5 rfl (lv_at hl 1 rfl) ?_
    refine lv_iload_n hx hb dJ7_fill_53178_6 rfl (lv_at hl 0 rfl) ?_
    refine lv_icmp_ge (tgt := 20) hx hb dJ7_fill_53178_7 (by decide) (fun c_ => absurd c_ (fun q_ => absurd ((nI_leI (a := n) (b := ii) (by omega) (by omega)).mp q_) (by omega))) (fun _ => ?_)
    refine lv_aload_n hx hb dJ7_fill_53178_10 rfl (lv_at hl 2 rfl) ?_
    refine lv_iload_n hx hb dJ7_fill_53178_11 rfl (lv_at hl 1 rfl) ?_
    refine lv_iload_n hx hb dJ7_fill_53178_12 rfl (lv_at hl 3 rfl) ?_
    refine va_iast hx hb hK hP hD hS 0 0 rfl rfl (vp_in_nI (by omega) (by omega)) dJ7_fill_53178_13 (fun H locs hP hD hS => ?_)
    generalize hg_8 : upd w_3 ((nI ii) : Int32).toNatClampNeg v = g_8 at hP hD
    have hP : va_P (dC, dI) vwCl [(xI a cI n g_8)] H := hP
    have hD := dto hP hD
    refine lv_iinc (v := (nI (ii + 1))) (lv' := [(2, .int (nI (ii + 1))), (3, .int (nI n)), (0, .ref a), (1, .int v)]) hx hb dJ7_fill_53178_14 hl (k := 1) rfl (nI_add ii 1) (by decide) rfl (fun ls hl => ?_)
    refine lv_goto (tgt := 5) hx hb dJ7_fill_53178_17 (by decide) ?_
    exact ih (g_8) _ _ _ ⟨lv_sub hl [1, 0, 2, 3] rfl, hP.sub (ws' := [(xI a cI n g_8)]) [0] rfl, hD.sub (ws' := [(xI a cI n g_8)]) [0] (by decide +kernel) rfl, hS, (fl2 haf_0 (by omega) hg_8)⟩
  · rintro w_3 H locs ls ⟨hl, hP, hD, hS, haf_0⟩
    refine lv_iload_n hx hb dJ7_fill_53178_5 rfl (lv_at hl 1 rfl) ?_
    refine lv_iload_n hx hb dJ7_fill_53178_6 rfl (lv_at hl 0 rfl) ?_
    refine lv_icmp_ge (tgt := 20) hx hb dJ7_fill_53178_7 (by decide) (fun _ => ?_) (fun c_ => absurd ((nI_leI (a := n) (b := n) (by omega) (by omega)).mpr (by omega)) c_)
    have hX9 := cut2 (wc := [(xI a cI n w_3)]) hP hD [0] (by decide +kernel) rfl
    exact W.vret hx hb hr (fun t ht hW => ⟨⟨(), rfl, trivial, ⟨w_3, va_Ht ht hX9.1, hX9.2, haf_0⟩⟩, hS.F ht⟩) hS.2.2 dJ7_fill_53178_20
set_option maxHeartbeats 4000000 in
set_option maxRecDepth 100000 in
theorem r_X5_isRow (l : Launch) (dC : Nat → ClassId) (dI : Nat → Nat → Nat) (cI cZ cL cJ : ClassId) (a : Int32)  : Met l yX5_isRow wsX5_isRow ({ frames := 0, cells := 0, slots := 0, locals := 0 }) (va_Pc [.int a] (fun U => va_P (dC, dI) vwCl [] U.heap ∧ va_K (dC, dI) vwCl [(cI, .int), (cZ, .boolean), (cL, .object RX3), (cJ, .array .int)] U)) (vp_Si (fun r => (r = 0 ∧ (a < 0 ∨ 8 ≤ a)) ∨ (r = 1 ∧ vp_in a 8))) 0 0 (fun _ => False) := by
  refine Met.ofW (cc := cX5_isRow) (maxL := 1) (ret := (some .boolean)) (by decide) rfl ?_
  intro p e s m args below meth c s₁ B hml hv
  obtain ⟨rfl, hP, hK⟩ := hv
  have hx := B.exec
  have hb := B.bytes
  have hr := B.returns
  have hts := atoms_spec (ws := wsX5_isRow) B.pre
  have hown : s.vm.findClass RX5 = some m.cls := findClass_of_methodNamed B.named
  have hlocks := B.notSynchronized
  have hP : va_P (dC, dI) vwCl [] s.heap := hP
  have hl := lv_entry ([.int a]) (n := 1) (Nat.le_of_ble_eq_true rfl)
  rw [lg_entry_eq]
  generalize (lg_sl ([.int a]) ++ List.replicate (1 - (lg_sl ([.int a])).length) Slot.unset).toArray = ls at hl ⊢
  have hl : lv_has ls 1 [(0, .int a)] := hl
  refine lv_iload_n hx hb dX5_isRow_0 rfl (lv_at hl 0 rfl) ?_
  refine lv_if_lt (tgt := 14) hx hb dX5_isRow_1 (by decide) (fun c_1 => ?_) (fun c_1 => ?_)
  · skip
    refine lv_iconst (v := 0) hx hb dX5_isRow_14 (by decide) ?_
    exact W.zret (v := 0) hx hb hr (by decide) (fun t ht hW => ⟨0, rfl, Or.inl ⟨rfl, Or.inl c_1⟩, ht⟩) (fun _ h => by cases h) dX5_isRow_15
  · skip
    refine lv_iload_n hx hb dX5_isRow_4 rfl (lv_at hl 0 rfl) ?_
    refine lv_bipush (v := 8) hx hb dX5_isRow_5 (by decide) ?_
    refine lv_icmp_ge (tgt := 14) hx hb dX5_isRow_7 (by decide) (fun c_2 => ?_) (fun c_2 => ?_)
    · skip
      refine lv_iconst (v := 0) hx hb dX5_isRow_14 (by decide) ?_
      exact W.zret (v := 0) hx hb hr (by decide) (fun t ht hW => ⟨0, rfl, Or.inl ⟨rfl, Or.inr c_2⟩, ht⟩) (fun _ h => by cases h) dX5_isRow_15
    · skip
      refine lv_iconst (v := 1) hx hb dX5_isRow_10 (by decide) ?_
      refine lv_goto (tgt := 15) hx hb dX5_isRow_11 (by decide) ?_
      exact W.zret (v := 1) hx hb hr (by decide) (fun t ht hW => ⟨1, rfl, Or.inr ⟨rfl, in_of c_1 c_2 (by decide)⟩, ht⟩) (fun _ h => by cases h) dX5_isRow_15
set_option maxHeartbeats 4000000 in
set_option maxRecDepth 100000 in
theorem r_X5_isLane (l : Launch) (dC : Nat → ClassId) (dI : Nat → Nat → Nat) (cI cZ cL cJ : ClassId) (a : Int32)  : Met l yX5_isLane wsX5_isLane ({ frames := 0, cells := 0, slots := 0, locals := 0 }) (va_Pc [.int a] (fun U => va_P (dC, dI) vwCl [] U.heap ∧ va_K (dC, dI) vwCl [(cI, .int), (cZ, .boolean), (cL, .object RX3), (cJ, .array .int)] U)) (vp_Si (fun r => (r = 0 ∧ (a < 0 ∨ 2 < a)) ∨ (r = 1 ∧ (¬ (a < 0 ∨ 2 < a))))) 0 0 (fun _ => False) := by
  refine Met.ofW (cc := cX5_isLane) (maxL := 1) (ret := (some .boolean)) (by decide) rfl ?_
  intro p e s m args below meth c s₁ B hml hv
  obtain ⟨rfl, hP, hK⟩ := hv
  have hx := B.exec
  have hb := B.bytes
  have hr := B.returns
  have hts := atoms_spec (ws := wsX5_isLane) B.pre
  have hown : s.vm.findClass RX5 = some m.cls := findClass_of_methodNamed B.named
  have hlocks := B.notSynchronized
  have hP : va_P (dC, dI) vwCl [] s.heap := hP
  have hl := lv_entry ([.int a]) (n := 1) (Nat.le_of_ble_eq_true rfl)
  rw [lg_entry_eq]
  generalize (lg_sl ([.int a]) ++ List.replicate (1 - (lg_sl ([.int a])).length) Slot.unset).toArray = ls at hl ⊢
  have hl : lv_has ls 1 [(0, .int a)] := hl
  refine lv_iload_n hx hb dX5_isLane_0 rfl (lv_at hl 0 rfl) ?_
  refine lv_if_lt (tgt := 13) hx hb dX5_isLane_1 (by decide) (fun c_1 => ?_) (fun c_1 => ?_)
  · skip
    refine lv_iconst (v := 0) hx hb dX5_isLane_13 (by decide) ?_
    exact W.zret (v := 0) hx hb hr (by decide) (fun t ht hW => ⟨0, rfl, Or.inl ⟨rfl, Or.inl c_1⟩, ht⟩) (fun _ h => by cases h) dX5_isLane_14
  · skip
    refine lv_iload_n hx hb dX5_isLane_4 rfl (lv_at hl 0 rfl) ?_
    refine lv_iconst (v := 2) hx hb dX5_isLane_5 (by decide) ?_
    refine lv_icmp_gt (tgt := 13) hx hb dX5_isLane_6 (by decide) (fun c_2 => ?_) (fun c_2 => ?_)
    · skip
      refine lv_iconst (v := 0) hx hb dX5_isLane_13 (by decide) ?_
      exact W.zret (v := 0) hx hb hr (by decide) (fun t ht hW => ⟨0, rfl, Or.inl ⟨rfl, Or.inr c_2⟩, ht⟩) (fun _ h => by cases h) dX5_isLane_14
    · skip
      refine lv_iconst (v := 1) hx hb dX5_isLane_9 (by decide) ?_
      refine lv_goto (tgt := 14) hx hb dX5_isLane_10 (by decide) ?_
      exact W.zret (v := 1) hx hb hr (by decide) (fun t ht hW => ⟨1, rfl, Or.inr ⟨rfl, fun q_ => q_.elim c_1 c_2⟩, ht⟩) (fun _ h => by cases h) dX5_isLane_14
theorem lf_X5_isMissing_1 {fl : Nat → Int32} {j : Nat} {v_1 : Int32} (hj : j < 8) (e_1 : v_1 = fl j) (c_2 : ¬ (v_1 = (-1))) : ¬ fl j = -1 := by
  grind
theorem lf_X5_isMissing_2 {fl : Nat → Int32} {j : Nat} {v_1 : Int32} (hj : j < 8) (e_1 : v_1 = fl j) (c_2 : v_1 = (-1)) : fl j = -1 := by
  grind
set_option maxHeartbeats 4000000 in
set_option maxRecDepth 100000 in
theorem r_X5_isMissing (l : Launch) (dC : Nat → ClassId) (dI : Nat → Nat → Nat) (cI cZ cL cJ : ClassId) (h : Nat) (it : Nat) (la : Nat) (le : Nat) (fl : Nat → Int32) (j : Nat) (hj : j < 8) : Met l yX5_isMissing wsX5_isMissing ({ frames := 0, cells := 0, slots := 0, locals := 0 }) (va_Pc [.ref h, .int (nI j)] (fun U => va_P (dC, dI) vwCl [(xo_5_rrr h it la le), (xI la cI 8 fl)] U.heap ∧ va_K (dC, dI) vwCl [(cI, .int), (cZ, .boolean), (cL, .object RX3), (cJ, .array .int)] U)) (vp_Si (fun r => (r = 0 ∧ ¬ fl j = -1) ∨ (r = 1 ∧ fl j = -1))) 0 0 (fun _ => False) := by
  refine Met.ofW (cc := cX5_isMissing) (maxL := 2) (ret := (some .boolean)) (by decide) rfl ?_
  intro p e s m args below meth c s₁ B hml hv
  obtain ⟨rfl, hP, hK⟩ := hv
  have hx := B.exec
  have hb := B.bytes
  have hr := B.returns
  have hts := atoms_spec (ws := wsX5_isMissing) B.pre
  have hown : s.vm.findClass RX5 = some m.cls := findClass_of_methodNamed B.named
  have hlocks := B.notSynchronized
  have hP : va_P (dC, dI) vwCl [(xo_5_rrr h it la le), (xI la cI 8 fl)] s.heap := hP
  have hl := lv_entry ([.ref h, .int (nI j)]) (n := 2) (Nat.le_of_ble_eq_true rfl)
  rw [lg_entry_eq]
  generalize (lg_sl ([.ref h, .int (nI j)]) ++ List.replicate (2 - (lg_sl ([.ref h, .int (nI j)])).length) Slot.unset).toArray = ls at hl ⊢
  have hl : lv_has ls 2 [(0, .ref h), (1, .int (nI j))] := hl
  refine lv_aload_n hx hb dX5_isMissing_0 rfl (lv_at hl 0 rfl) ?_
  refine va_get (D := (dC, dI)) (ci := 5) (v := .ref la) (C := RX5) (T := TX5) (N := 3) hx hb hts i_X5_isMissing_X5 hown hK hP 0 rfl rfl 1 (by decide) (hts _ mx_X5_isMissing_1) (fun _ h9 => h9) rfl dX5_isMissing_1 ?_
  refine lv_iload_n hx hb dX5_isMissing_4 rfl (lv_at hl 1 rfl) ?_
  refine va_iald hx hb hK hP 1 0 rfl rfl (vp_in_nI (by omega) (by omega)) dX5_isMissing_5 ?_
  refine lv_topi (fun v_1 e_1 => ?_)
  have e_1 : v_1 = fl j := e_1.trans (congrArg fl (nI_clamp (by omega)))
  refine lv_iconst (v := (-1)) hx hb dX5_isMissing_6 (by decide) ?_
  refine lv_icmp_ne (tgt := 14) hx hb dX5_isMissing_7 (by decide) (fun c_2 => ?_) (fun c_2 => ?_)
  · skip
    refine lv_iconst (v := 0) hx hb dX5_isMissing_14 (by decide) ?_
    exact W.zret (v := 0) hx hb hr (by decide) (fun t ht hW => ⟨0, rfl, Or.inl (⟨rfl, (lf_X5_isMissing_1 hj e_1 c_2)⟩), ht⟩) (fun _ h => by cases h) dX5_isMissing_15
  · skip
    refine lv_iconst (v := 1) hx hb dX5_isMissing_10 (by decide) ?_
    refine lv_goto (tgt := 15) hx hb dX5_isMissing_11 (by decide) ?_
    exact W.zret (v := 1) hx hb hr (by decide) (fun t ht hW => ⟨1, rfl, Or.inr (⟨rfl, (lf_X5_isMissing_2 hj e_1 c_2)⟩), ht⟩) (fun _ h => by cases h) dX5_isMissing_15
theorem lf_X5_present_1 {fl : Nat → Int32} {w_7 : Int32} {ii : Nat} {v_18 : Int32} (hii : ii < 8) (haf_0 : (w_7 = prR fl ii)) (f_16_0_0 : ¬ fl ii = -1) (e_18 : v_18 = (w_7 + 1)) : v_18 = prR fl (ii + 1) := by
  first | assumption | (simp only [prR]; grind)
theorem lf_X5_present_2 {fl : Nat → Int32} {w_7 : Int32} {ii : Nat} {v_20 : Int32} (hii : ii < 8) (haf_0 : (w_7 = prR fl ii)) (f_16_1_0 : fl ii = -1) (e_20 : v_20 = (w_7 + 0)) : v_20 = prR fl (ii + 1) := by
  first | assumption | (simp only [prR]; grind)
theorem lf_X5_present_3 {fl : Nat → Int32} {w_7 : Int32} (haf_0 : (w_7 = prR fl 8)) : w_7 = (prR fl 8) := by
  first | assumption | (simp only [prR]; grind)
set_option maxHeartbeats 4000000 in
set_option maxRecDepth 100000 in
theorem r_X5_present (l : Launch) (dC : Nat → ClassId) (dI : Nat → Nat → Nat) (cI cZ cL cJ : ClassId) (h : Nat) (it : Nat) (la : Nat) (le : Nat) (fl : Nat → Int32)  : Met l yX5_present wsX5_present ({ frames := 1, cells := 0, slots := 0, locals := 21 }) (va_Pc [.ref h] (fun U => va_P (dC, dI) vwCl [(xo_5_rrr h it la le), (xI la cI 8 fl)] U.heap ∧ va_K (dC, dI) vwCl [(cI, .int), (cZ, .boolean), (cL, .object RX3), (cJ, .array .int)] U)) (vp_Si (fun r => r = (prR fl 8))) 0 0 (fun _ => False) := by
  refine Met.ofW (cc := cX5_present) (maxL := 3) (ret := (some .int)) (by decide) rfl ?_
  intro p e s m args below meth c s₁ B hml hv
  obtain ⟨rfl, hP, hK⟩ := hv
  have hx := B.exec
  have hb := B.bytes
  have hr := B.returns
  have hts := atoms_spec (ws := wsX5_present) B.pre
  have hown : s.vm.findClass RX5 = some m.cls := findClass_of_methodNamed B.named
  have hlocks := B.notSynchronized
  have hP : va_P (dC, dI) vwCl [(xo_5_rrr h it la le), (xI la cI 8 fl)] s.heap := hP
  have hl := lv_entry ([.ref h]) (n := 3) (Nat.le_of_ble_eq_true rfl)
  rw [lg_entry_eq]
  generalize (lg_sl ([.ref h]) ++ List.replicate (3 - (lg_sl ([.ref h])).length) Slot.unset).toArray = ls at hl ⊢
  have hl : lv_has ls 3 [(0, .ref h)] := hl
  refine lv_iconst (v := 0) hx hb dX5_present_0 (by decide) ?_
  refine lv_istore_n (lv' := [(1, .int 0), (0, .ref h)]) hx hb dX5_present_1 rfl hl (by decide) rfl (fun ls hl => ?_)
  refine lv_iconst (v := 0) hx hb dX5_present_2 (by decide) ?_
  refine lv_istore_n (lv' := [(2, .int 0), (1, .int 0), (0, .ref h)]) hx hb dX5_present_3 rfl hl (by decide) rfl (fun ls hl => ?_)
  refine lp_go (σ := (Int32)) (fun ii (st : (Int32)) H locs ls => match st with | w_7 => lv_has ls 3 [(2, .int (nI ii)), (1, .int w_7), (0, .ref h)] ∧ H = s.heap ∧ locs = [] ∧ (w_7 = prR fl ii)) 8 ?_ ?_ 0 (by omega) (0) ⟨lv_sub hl [0, 1, 2] rfl, rfl, rfl, rfl⟩
  · rintro ii w_7 H locs ls hii ⟨hl, rfl, rfl, haf_0⟩ ih
    refine lv_iload_n hx hb dX5_present_4 rfl (lv_at hl 0 rfl) ?_
    refine lv_bipush (v := 8) hx hb dX5_present_5 (by decide) ?_
    refine lv_icmp_ge (tgt := 32) hx hb dX5_present_7 (by decide) (fun c_ => absurd c_ (fun q_ => absurd ((nI_leI (a := 8) (b := ii) (by omega) (by omega)).mp q_) (by omega))) (fun _ => ?_)
    refine lv_iload_n hx hb dX5_present_10 rfl (lv_at hl 1 rfl) ?_
    refine lv_aload_n hx hb dX5_present_11 rfl (lv_at hl 2 rfl) ?_
    refine lv_iload_n hx hb dX5_present_12 rfl (lv_at hl 0 rfl) ?_
    have hPc_16 := hP
    refine vp_callSi (W.runV (As := [.int (nI ii)]) (rest := [.int w_7]) ⟨hx, hb, hml, hown, hts⟩ (r_X5_isMissing l dC dI cI cZ cL cJ h it la le fl ii (by omega)) (cwV 1 hts gX5_present_X5_isMissing rfl rfl rfl (by decide +kernel) ⟨Nat.le_of_ble_eq_true rfl, Nat.le_of_ble_eq_true rfl⟩) (pvP 5 0 hK hP rfl rfl hPc_16) rfl rfl hl.1 rfl (lv_room (Nat.le_of_ble_eq_true rfl)) dX5_present_13 ⟨Nat.le_of_ble_eq_true rfl, Nat.le_of_ble_eq_true rfl⟩) (fun r_16 h_16 => ?_)
    rcases h_16 with ⟨h_16, f_16_0_0⟩ | ⟨h_16, f_16_1_0⟩
    · subst h_16
      refine lv_if_eq (tgt := 23) hx hb dX5_present_16 (by decide) (fun _ => ?_) (fun c_ => absurd (by decide) c_)
      refine lv_iconst (v := 1) hx hb dX5_present_23 (by decide) ?_
      refine lv_iadd hx hb dX5_present_24 ?_
      refine lv_topi (fun v_18 e_18 => ?_)
      refine lv_istore_n (lv' := [(1, .int v_18), (2, .int (nI ii)), (0, .ref h)]) hx hb dX5_present_25 rfl hl (by decide) rfl (fun ls hl => ?_)
      refine lv_iinc (v := (nI (ii + 1))) (lv' := [(2, .int (nI (ii + 1))), (1, .int v_18), (0, .ref h)]) hx hb dX5_present_26 hl (k := 1) rfl (nI_add ii 1) (by decide) rfl (fun ls hl => ?_)
      refine lv_goto (tgt := 4) hx hb dX5_present_29 (by decide) ?_
      exact ih (v_18) _ _ _ ⟨lv_sub hl [0, 1, 2] rfl, rfl, rfl, (lf_X5_present_1 hii haf_0 f_16_0_0 e_18)⟩
    · subst h_16
      refine lv_if_eq (tgt := 23) hx hb dX5_present_16 (by decide) (fun c_ => absurd c_ (by decide)) (fun _ => ?_)
      refine lv_iconst (v := 0) hx hb dX5_present_19 (by decide) ?_
      refine lv_goto (tgt := 24) hx hb dX5_present_20 (by decide) ?_
      refine lv_iadd hx hb dX5_present_24 ?_
      refine lv_topi (fun v_20 e_20 => ?_)
      refine lv_istore_n (lv' := [(1, .int v_20), (2, .int (nI ii)), (0, .ref h)]) hx hb dX5_present_25 rfl hl (by decide) rfl (fun ls hl => ?_)
      refine lv_iinc (v := (nI (ii + 1))) (lv' := [(2, .int (nI (ii + 1))), (1, .int v_20), (0, .ref h)]) hx hb dX5_present_26 hl (k := 1) rfl (nI_add ii 1) (by decide) rfl (fun ls hl => ?_)
      refine lv_goto (tgt := 4) hx hb dX5_present_29 (by decide) ?_
      exact ih (v_20) _ _ _ ⟨lv_sub hl [0, 1, 2] rfl, rfl, rfl, (lf_X5_present_2 hii haf_0 f_16_1_0 e_20)⟩
  · rintro w_7 H locs ls ⟨hl, rfl, rfl, haf_0⟩
    refine lv_iload_n hx hb dX5_present_4 rfl (lv_at hl 0 rfl) ?_
    refine lv_bipush (v := 8) hx hb dX5_present_5 (by decide) ?_
    refine lv_icmp_ge (tgt := 32) hx hb dX5_present_7 (by decide) (fun _ => ?_) (fun c_ => absurd ((nI_leI (a := 8) (b := 8) (by omega) (by omega)).mpr (by omega)) c_)
    refine lv_iload_n hx hb dX5_present_32 rfl (lv_at hl 1 rfl) ?_
    exact W.iret (v := w_7) hx hb hr (fun t ht hW => ⟨w_7, rfl, (lf_X5_present_3 haf_0), ht⟩) (fun _ h => by cases h) dX5_present_33
theorem lf_X5_hasPlaces_1 {fe : Nat → Int32} {j : Nat} {x : Int32} {y : Int32} (hfe : ∀ jq : Nat, jq < 8 → ∃ q : Nat, q ≤ 40 ∧ fe jq = nI q) (hj : j < 8) (c_1 : x < 0) : ¬ plc (fe j) x y := by
  unfold plc; grind
theorem lf_X5_hasPlaces_2 {fe : Nat → Int32} {j : Nat} {x : Int32} {y : Int32} (hfe : ∀ jq : Nat, jq < 8 → ∃ q : Nat, q ≤ 40 ∧ fe jq = nI q) (hj : j < 8) (c_1 : ¬ (x < 0)) (c_2 : y < 0) : ¬ plc (fe j) x y := by
  unfold plc; grind
theorem lf_X5_hasPlaces_3 {fe : Nat → Int32} {j : Nat} {x : Int32} {y : Int32} {q_3 : Nat} {v_4 : Int32} (hfe : ∀ jq : Nat, jq < 8 → ∃ q : Nat, q ≤ 40 ∧ fe jq = nI q) (hj : j < 8) (c_1 : ¬ (x < 0)) (c_2 : ¬ (y < 0)) (hqe_3 : fe j = nI q_3) (hq_3 : q_3 ≤ 40) (e_4 : v_4 = ((nI q_3) - y)) (c_5 : v_4 < x) : ¬ plc (fe j) x y := by
  unfold plc; grind
theorem lf_X5_hasPlaces_4 {fe : Nat → Int32} {j : Nat} {x : Int32} {y : Int32} {q_3 : Nat} {v_4 : Int32} (hfe : ∀ jq : Nat, jq < 8 → ∃ q : Nat, q ≤ 40 ∧ fe jq = nI q) (hj : j < 8) (c_1 : ¬ (x < 0)) (c_2 : ¬ (y < 0)) (hqe_3 : fe j = nI q_3) (hq_3 : q_3 ≤ 40) (e_4 : v_4 = ((nI q_3) - y)) (c_5 : ¬ (v_4 < x)) : plc (fe j) x y := by
  unfold plc; grind
set_option maxHeartbeats 4000000 in
set_option maxRecDepth 100000 in
theorem r_X5_hasPlaces (l : Launch) (dC : Nat → ClassId) (dI : Nat → Nat → Nat) (cI cZ cL cJ : ClassId) (h : Nat) (it : Nat) (la : Nat) (le : Nat) (fe : Nat → Int32) (j : Nat) (x : Int32) (y : Int32) (hfe : ∀ jq : Nat, jq < 8 → ∃ q : Nat, q ≤ 40 ∧ fe jq = nI q) (hj : j < 8) : Met l yX5_hasPlaces wsX5_hasPlaces ({ frames := 0, cells := 0, slots := 0, locals := 0 }) (va_Pc [.ref h, .int (nI j), .int x, .int y] (fun U => va_P (dC, dI) vwCl [(xo_5_rrr h it la le), (xI le cI 8 fe)] U.heap ∧ va_K (dC, dI) vwCl [(cI, .int), (cZ, .boolean), (cL, .object RX3), (cJ, .array .int)] U)) (vp_Si (fun r => (r = 0 ∧ ¬ plc (fe j) x y) ∨ (r = 1 ∧ plc (fe j) x y ∧ hpF x y))) 0 0 (fun _ => False) := by
  refine Met.ofW (cc := cX5_hasPlaces) (maxL := 4) (ret := (some .boolean)) (by decide) rfl ?_
  intro p e s m args below meth c s₁ B hml hv
  obtain ⟨rfl, hP, hK⟩ := hv
  have hx := B.exec
  have hb := B.bytes
  have hr := B.returns
  have hts := atoms_spec (ws := wsX5_hasPlaces) B.pre
  have hown : s.vm.findClass RX5 = some m.cls := findClass_of_methodNamed B.named
  have hlocks := B.notSynchronized
  have hP : va_P (dC, dI) vwCl [(xo_5_rrr h it la le), (xI le cI 8 fe)] s.heap := hP
  have hl := lv_entry ([.ref h, .int (nI j), .int x, .int y]) (n := 4) (Nat.le_of_ble_eq_true rfl)
  rw [lg_entry_eq]
  generalize (lg_sl ([.ref h, .int (nI j), .int x, .int y]) ++ List.replicate (4 - (lg_sl ([.ref h, .int (nI j), .int x, .int y])).length) Slot.unset).toArray = ls at hl ⊢
  have hl : lv_has ls 4 [(0, .ref h), (1, .int (nI j)), (2, .int x), (3, .int y)] := hl
  refine lv_iload_n hx hb dX5_hasPlaces_0 rfl (lv_at hl 2 rfl) ?_
  refine lv_if_lt (tgt := 24) hx hb dX5_hasPlaces_1 (by decide) (fun c_1 => ?_) (fun c_1 => ?_)
  · skip
    refine lv_iconst (v := 0) hx hb dX5_hasPlaces_24 (by decide) ?_
    exact W.zret (v := 0) hx hb hr (by decide) (fun t ht hW => ⟨0, rfl, Or.inl ⟨rfl, (lf_X5_hasPlaces_1 hfe hj c_1)⟩, ht⟩) (fun _ h => by cases h) dX5_hasPlaces_25
  · skip
    refine lv_iload_n hx hb dX5_hasPlaces_4 rfl (lv_at hl 3 rfl) ?_
    refine lv_if_lt (tgt := 24) hx hb dX5_hasPlaces_5 (by decide) (fun c_2 => ?_) (fun c_2 => ?_)
    · skip
      refine lv_iconst (v := 0) hx hb dX5_hasPlaces_24 (by decide) ?_
      exact W.zret (v := 0) hx hb hr (by decide) (fun t ht hW => ⟨0, rfl, Or.inl ⟨rfl, (lf_X5_hasPlaces_2 hfe hj c_1 c_2)⟩, ht⟩) (fun _ h => by cases h) dX5_hasPlaces_25
    · skip
      refine lv_iload_n hx hb dX5_hasPlaces_8 rfl (lv_at hl 2 rfl) ?_
      refine lv_aload_n hx hb dX5_hasPlaces_9 rfl (lv_at hl 0 rfl) ?_
      refine va_get (D := (dC, dI)) (ci := 5) (v := .ref le) (C := RX5) (T := TX5) (N := 3) hx hb hts i_X5_hasPlaces_X5 hown hK hP 0 rfl rfl 2 (by decide) (hts _ mx_X5_hasPlaces_1) (fun _ h9 => h9) rfl dX5_hasPlaces_10 ?_
      refine lv_iload_n hx hb dX5_hasPlaces_13 rfl (lv_at hl 1 rfl) ?_
      refine va_iald hx hb hK hP 1 0 rfl rfl (vp_in_nI (by omega) (by omega)) dX5_hasPlaces_14 ?_
      obtain ⟨q_3, hq_3, hqe_3⟩ := hfe j (by omega)
      refine lv_topi (fun v_3 e_3 => ?_)
      obtain rfl : v_3 = nI q_3 := e_3.trans (by rw [nI_clamp (by omega)]; exact hqe_3)
      refine lv_iload_n hx hb dX5_hasPlaces_15 rfl (lv_at hl 3 rfl) ?_
      refine lv_isub hx hb dX5_hasPlaces_16 ?_
      refine lv_topi (fun v_4 e_4 => ?_)
      refine lv_icmp_gt (tgt := 24) hx hb dX5_hasPlaces_17 (by decide) (fun c_5 => ?_) (fun c_5 => ?_)
      · skip
        refine lv_iconst (v := 0) hx hb dX5_hasPlaces_24 (by decide) ?_
        exact W.zret (v := 0) hx hb hr (by decide) (fun t ht hW => ⟨0, rfl, Or.inl ⟨rfl, (lf_X5_hasPlaces_3 hfe hj c_1 c_2 hqe_3 hq_3 e_4 c_5)⟩, ht⟩) (fun _ h => by cases h) dX5_hasPlaces_25
      · skip
        refine lv_iconst (v := 1) hx hb dX5_hasPlaces_20 (by decide) ?_
        refine lv_goto (tgt := 25) hx hb dX5_hasPlaces_21 (by decide) ?_
        exact W.zret (v := 1) hx hb hr (by decide) (fun t ht hW => ⟨1, rfl, Or.inr ⟨rfl, (lf_X5_hasPlaces_4 hfe hj c_1 c_2 hqe_3 hq_3 e_4 c_5), hp_fact c_1 c_2 rfl hq_3 e_4 c_5⟩, ht⟩) (fun _ h => by cases h) dX5_hasPlaces_25
theorem lf_X5_findingOf_1 {fl : Nat → Int32} {fe : Nat → Int32} {j : Nat} {x : Int32} {y : Int32} (hfe : ∀ jq : Nat, jq < 8 → ∃ q : Nat, q ≤ 40 ∧ fe jq = nI q) (hj : j < 8) (f_1_0_0 : ¬ fl j = -1) (f_3_0_0 : ¬ plc (fe j) x y) : ¬ fl j = -1 := by
  first | assumption | grind
theorem lf_X5_findingOf_2 {fl : Nat → Int32} {fe : Nat → Int32} {j : Nat} {x : Int32} {y : Int32} (hfe : ∀ jq : Nat, jq < 8 → ∃ q : Nat, q ≤ 40 ∧ fe jq = nI q) (hj : j < 8) (f_1_0_0 : ¬ fl j = -1) (f_3_0_0 : ¬ plc (fe j) x y) : ¬ plc (fe j) x y := by
  first | assumption | grind
theorem lf_X5_findingOf_3 {fl : Nat → Int32} {fe : Nat → Int32} {j : Nat} {x : Int32} {y : Int32} (hfe : ∀ jq : Nat, jq < 8 → ∃ q : Nat, q ≤ 40 ∧ fe jq = nI q) (hj : j < 8) (f_1_0_0 : ¬ fl j = -1) (f_3_1_0 : plc (fe j) x y) (f_3_1_1 : hpF x y) : ¬ fl j = -1 := by
  first | assumption | grind
theorem lf_X5_findingOf_4 {fl : Nat → Int32} {fe : Nat → Int32} {j : Nat} {x : Int32} {y : Int32} (hfe : ∀ jq : Nat, jq < 8 → ∃ q : Nat, q ≤ 40 ∧ fe jq = nI q) (hj : j < 8) (f_1_0_0 : ¬ fl j = -1) (f_3_1_0 : plc (fe j) x y) (f_3_1_1 : hpF x y) : plc (fe j) x y := by
  first | assumption | grind
theorem lf_X5_findingOf_5 {fl : Nat → Int32} {fe : Nat → Int32} {j : Nat} {x : Int32} {y : Int32} (hfe : ∀ jq : Nat, jq < 8 → ∃ q : Nat, q ≤ 40 ∧ fe jq = nI q) (hj : j < 8) (f_1_0_0 : ¬ fl j = -1) (f_3_1_0 : plc (fe j) x y) (f_3_1_1 : hpF x y) : hpF x y := by
  first | assumption | grind
theorem lf_X5_findingOf_6 {fl : Nat → Int32} {fe : Nat → Int32} {j : Nat} (hfe : ∀ jq : Nat, jq < 8 → ∃ q : Nat, q ≤ 40 ∧ fe jq = nI q) (hj : j < 8) (f_1_1_0 : fl j = -1) : fl j = -1 := by
  first | assumption | grind
set_option maxHeartbeats 4000000 in
set_option maxRecDepth 100000 in
theorem r_X5_findingOf (l : Launch) (dC : Nat → ClassId) (dI : Nat → Nat → Nat) (cI cZ cL cJ : ClassId) (h : Nat) (it : Nat) (la : Nat) (le : Nat) (fl : Nat → Int32) (fe : Nat → Int32) (j : Nat) (x : Int32) (y : Int32) (hfe : ∀ jq : Nat, jq < 8 → ∃ q : Nat, q ≤ 40 ∧ fe jq = nI q) (hj : j < 8) : Met l yX5_findingOf wsX5_findingOf ({ frames := 1, cells := 0, slots := 0, locals := 23 }) (va_Pc [.ref h, .int (nI j), .int x, .int y] (fun U => va_P (dC, dI) vwCl [(xo_5_rrr h it la le), (xI la cI 8 fl), (xI le cI 8 fe)] U.heap ∧ va_K (dC, dI) vwCl [(cI, .int), (cZ, .boolean), (cL, .object RX3), (cJ, .array .int)] U)) (vp_Si (fun r => (r = 1 ∧ fl j = -1) ∨ (r = 0 ∧ ¬ fl j = -1 ∧ plc (fe j) x y ∧ hpF x y) ∨ (r = 2 ∧ ¬ fl j = -1 ∧ ¬ plc (fe j) x y))) 0 0 (fun _ => False) := by
  refine Met.ofW (cc := cX5_findingOf) (maxL := 4) (ret := (some .int)) (by decide) rfl ?_
  intro p e s m args below meth c s₁ B hml hv
  obtain ⟨rfl, hP, hK⟩ := hv
  have hx := B.exec
  have hb := B.bytes
  have hr := B.returns
  have hts := atoms_spec (ws := wsX5_findingOf) B.pre
  have hown : s.vm.findClass RX5 = some m.cls := findClass_of_methodNamed B.named
  have hlocks := B.notSynchronized
  have hP : va_P (dC, dI) vwCl [(xo_5_rrr h it la le), (xI la cI 8 fl), (xI le cI 8 fe)] s.heap := hP
  have hl := lv_entry ([.ref h, .int (nI j), .int x, .int y]) (n := 4) (Nat.le_of_ble_eq_true rfl)
  rw [lg_entry_eq]
  generalize (lg_sl ([.ref h, .int (nI j), .int x, .int y]) ++ List.replicate (4 - (lg_sl ([.ref h, .int (nI j), .int x, .int y])).length) Slot.unset).toArray = ls at hl ⊢
  have hl : lv_has ls 4 [(0, .ref h), (1, .int (nI j)), (2, .int x), (3, .int y)] := hl
  refine lv_aload_n hx hb dX5_findingOf_0 rfl (lv_at hl 0 rfl) ?_
  refine lv_iload_n hx hb dX5_findingOf_1 rfl (lv_at hl 1 rfl) ?_
  have hPc_1 := hP.sub (ws' := [(xo_5_rrr h it la le), (xI la cI 8 fl)]) [0, 1] rfl
  refine vp_callSi (W.runV (As := [.int (nI j)]) (rest := []) ⟨hx, hb, hml, hown, hts⟩ (r_X5_isMissing l dC dI cI cZ cL cJ h it la le fl j (hj)) (cwV 1 hts gX5_findingOf_X5_isMissing rfl rfl rfl (by decide +kernel) ⟨Nat.le_of_ble_eq_true rfl, Nat.le_of_ble_eq_true rfl⟩) (pvP 5 0 hK hP rfl rfl hPc_1) rfl rfl hl.1 rfl (lv_room (Nat.le_of_ble_eq_true rfl)) dX5_findingOf_2 ⟨Nat.le_of_ble_eq_true rfl, Nat.le_of_ble_eq_true rfl⟩) (fun r_1 h_1 => ?_)
  rcases h_1 with ⟨h_1, f_1_0_0⟩ | ⟨h_1, f_1_1_0⟩
  · subst h_1
    refine lv_if_eq (tgt := 10) hx hb dX5_findingOf_5 (by decide) (fun _ => ?_) (fun c_ => absurd (by decide) c_)
    refine lv_aload_n hx hb dX5_findingOf_10 rfl (lv_at hl 0 rfl) ?_
    refine lv_iload_n hx hb dX5_findingOf_11 rfl (lv_at hl 1 rfl) ?_
    refine lv_iload_n hx hb dX5_findingOf_12 rfl (lv_at hl 2 rfl) ?_
    refine lv_iload_n hx hb dX5_findingOf_13 rfl (lv_at hl 3 rfl) ?_
    have hPc_3 := hP.sub (ws' := [(xo_5_rrr h it la le), (xI le cI 8 fe)]) [0, 2] rfl
    refine vp_callSi (W.runV (As := [.int (nI j), .int x, .int y]) (rest := []) ⟨hx, hb, hml, hown, hts⟩ (r_X5_hasPlaces l dC dI cI cZ cL cJ h it la le fe j x y (hfe) (hj)) (cwV 3 hts gX5_findingOf_X5_hasPlaces rfl rfl rfl (by decide +kernel) ⟨Nat.le_of_ble_eq_true rfl, Nat.le_of_ble_eq_true rfl⟩) (pvP 5 0 hK hP rfl rfl hPc_3) rfl rfl hl.1 rfl (lv_room (Nat.le_of_ble_eq_true rfl)) dX5_findingOf_14 ⟨Nat.le_of_ble_eq_true rfl, Nat.le_of_ble_eq_true rfl⟩) (fun r_3 h_3 => ?_)
    rcases h_3 with ⟨h_3, f_3_0_0⟩ | ⟨h_3, f_3_1_0, f_3_1_1⟩
    · subst h_3
      refine lv_if_eq (tgt := 24) hx hb dX5_findingOf_17 (by decide) (fun _ => ?_) (fun c_ => absurd (by decide) c_)
      refine lv_iconst (v := 2) hx hb dX5_findingOf_24 (by decide) ?_
      exact W.iret (v := 2) hx hb hr (fun t ht hW => ⟨2, rfl, Or.inr (Or.inr (⟨rfl, (lf_X5_findingOf_1 hfe hj f_1_0_0 f_3_0_0), (lf_X5_findingOf_2 hfe hj f_1_0_0 f_3_0_0)⟩)), ht⟩) (fun _ h => by cases h) dX5_findingOf_25
    · subst h_3
      refine lv_if_eq (tgt := 24) hx hb dX5_findingOf_17 (by decide) (fun c_ => absurd c_ (by decide)) (fun _ => ?_)
      refine lv_iconst (v := 0) hx hb dX5_findingOf_20 (by decide) ?_
      refine lv_goto (tgt := 25) hx hb dX5_findingOf_21 (by decide) ?_
      exact W.iret (v := 0) hx hb hr (fun t ht hW => ⟨0, rfl, Or.inr (Or.inl (⟨rfl, (lf_X5_findingOf_3 hfe hj f_1_0_0 f_3_1_0 f_3_1_1), (lf_X5_findingOf_4 hfe hj f_1_0_0 f_3_1_0 f_3_1_1), (lf_X5_findingOf_5 hfe hj f_1_0_0 f_3_1_0 f_3_1_1)⟩)), ht⟩) (fun _ h => by cases h) dX5_findingOf_25
  · subst h_1
    refine lv_if_eq (tgt := 10) hx hb dX5_findingOf_5 (by decide) (fun c_ => absurd c_ (by decide)) (fun _ => ?_)
    refine lv_iconst (v := 1) hx hb dX5_findingOf_8 (by decide) ?_
    exact W.iret (v := 1) hx hb hr (fun t ht hW => ⟨1, rfl, Or.inl (⟨rfl, (lf_X5_findingOf_6 hfe hj f_1_1_0)⟩), ht⟩) (fun _ h => by cases h) dX5_findingOf_9
theorem lf_X5_findingOfMove_1 {fl : Nat → Int32} {fe : Nat → Int32} {j : Nat} {k : Nat} {x : Int32} {z : Int32} {v_5 : Int32} {v_6 : Int32} (hfe : ∀ jq : Nat, jq < 8 → ∃ q : Nat, q ≤ 40 ∧ fe jq = nI q) (hj : j < 8) (hk : k < 8) (f_1_0_0 : ¬ fl j = -1) (f_3_0_0 : ¬ fl k = -1) (e_5 : v_5 = fl j) (e_6 : v_6 = fl k) (c_7 : v_5 = v_6) (f_8_0_0 : ¬ plc (fe j) x z) : ¬ fl j = -1 := by
  first | assumption | grind
theorem lf_X5_findingOfMove_2 {fl : Nat → Int32} {fe : Nat → Int32} {j : Nat} {k : Nat} {x : Int32} {z : Int32} {v_5 : Int32} {v_6 : Int32} (hfe : ∀ jq : Nat, jq < 8 → ∃ q : Nat, q ≤ 40 ∧ fe jq = nI q) (hj : j < 8) (hk : k < 8) (f_1_0_0 : ¬ fl j = -1) (f_3_0_0 : ¬ fl k = -1) (e_5 : v_5 = fl j) (e_6 : v_6 = fl k) (c_7 : v_5 = v_6) (f_8_0_0 : ¬ plc (fe j) x z) : ¬ fl k = -1 := by
  first | assumption | grind
theorem lf_X5_findingOfMove_3 {fl : Nat → Int32} {fe : Nat → Int32} {j : Nat} {k : Nat} {x : Int32} {z : Int32} {v_5 : Int32} {v_6 : Int32} (hfe : ∀ jq : Nat, jq < 8 → ∃ q : Nat, q ≤ 40 ∧ fe jq = nI q) (hj : j < 8) (hk : k < 8) (f_1_0_0 : ¬ fl j = -1) (f_3_0_0 : ¬ fl k = -1) (e_5 : v_5 = fl j) (e_6 : v_6 = fl k) (c_7 : v_5 = v_6) (f_8_0_0 : ¬ plc (fe j) x z) : fl j = fl k := by
  first | assumption | grind
theorem lf_X5_findingOfMove_4 {fl : Nat → Int32} {fe : Nat → Int32} {j : Nat} {k : Nat} {x : Int32} {y : Int32} {z : Int32} {v_5 : Int32} {v_6 : Int32} (hfe : ∀ jq : Nat, jq < 8 → ∃ q : Nat, q ≤ 40 ∧ fe jq = nI q) (hj : j < 8) (hk : k < 8) (f_1_0_0 : ¬ fl j = -1) (f_3_0_0 : ¬ fl k = -1) (e_5 : v_5 = fl j) (e_6 : v_6 = fl k) (c_7 : v_5 = v_6) (f_8_0_0 : ¬ plc (fe j) x z) : (¬ plc (fe j) x z ∨ ¬ plc (fe k) y z) := by
  first | assumption | grind
theorem lf_X5_findingOfMove_5 {fl : Nat → Int32} {fe : Nat → Int32} {j : Nat} {k : Nat} {x : Int32} {y : Int32} {z : Int32} {v_5 : Int32} {v_6 : Int32} (hfe : ∀ jq : Nat, jq < 8 → ∃ q : Nat, q ≤ 40 ∧ fe jq = nI q) (hj : j < 8) (hk : k < 8) (f_1_0_0 : ¬ fl j = -1) (f_3_0_0 : ¬ fl k = -1) (e_5 : v_5 = fl j) (e_6 : v_6 = fl k) (c_7 : v_5 = v_6) (f_8_1_0 : plc (fe j) x z) (f_8_1_1 : hpF x z) (f_11_0_0 : ¬ plc (fe k) y z) : ¬ fl j = -1 := by
  first | assumption | grind
theorem lf_X5_findingOfMove_6 {fl : Nat → Int32} {fe : Nat → Int32} {j : Nat} {k : Nat} {x : Int32} {y : Int32} {z : Int32} {v_5 : Int32} {v_6 : Int32} (hfe : ∀ jq : Nat, jq < 8 → ∃ q : Nat, q ≤ 40 ∧ fe jq = nI q) (hj : j < 8) (hk : k < 8) (f_1_0_0 : ¬ fl j = -1) (f_3_0_0 : ¬ fl k = -1) (e_5 : v_5 = fl j) (e_6 : v_6 = fl k) (c_7 : v_5 = v_6) (f_8_1_0 : plc (fe j) x z) (f_8_1_1 : hpF x z) (f_11_0_0 : ¬ plc (fe k) y z) : ¬ fl k = -1 := by
  first | assumption | grind
theorem lf_X5_findingOfMove_7 {fl : Nat → Int32} {fe : Nat → Int32} {j : Nat} {k : Nat} {x : Int32} {y : Int32} {z : Int32} {v_5 : Int32} {v_6 : Int32} (hfe : ∀ jq : Nat, jq < 8 → ∃ q : Nat, q ≤ 40 ∧ fe jq = nI q) (hj : j < 8) (hk : k < 8) (f_1_0_0 : ¬ fl j = -1) (f_3_0_0 : ¬ fl k = -1) (e_5 : v_5 = fl j) (e_6 : v_6 = fl k) (c_7 : v_5 = v_6) (f_8_1_0 : plc (fe j) x z) (f_8_1_1 : hpF x z) (f_11_0_0 : ¬ plc (fe k) y z) : fl j = fl k := by
  first | assumption | grind
theorem lf_X5_findingOfMove_8 {fl : Nat → Int32} {fe : Nat → Int32} {j : Nat} {k : Nat} {x : Int32} {y : Int32} {z : Int32} {v_5 : Int32} {v_6 : Int32} (hfe : ∀ jq : Nat, jq < 8 → ∃ q : Nat, q ≤ 40 ∧ fe jq = nI q) (hj : j < 8) (hk : k < 8) (f_1_0_0 : ¬ fl j = -1) (f_3_0_0 : ¬ fl k = -1) (e_5 : v_5 = fl j) (e_6 : v_6 = fl k) (c_7 : v_5 = v_6) (f_8_1_0 : plc (fe j) x z) (f_8_1_1 : hpF x z) (f_11_0_0 : ¬ plc (fe k) y z) : (¬ plc (fe j) x z ∨ ¬ plc (fe k) y z) := by
  first | assumption | grind
theorem lf_X5_findingOfMove_9 {fl : Nat → Int32} {fe : Nat → Int32} {j : Nat} {k : Nat} {x : Int32} {y : Int32} {z : Int32} {v_5 : Int32} {v_6 : Int32} (hfe : ∀ jq : Nat, jq < 8 → ∃ q : Nat, q ≤ 40 ∧ fe jq = nI q) (hj : j < 8) (hk : k < 8) (f_1_0_0 : ¬ fl j = -1) (f_3_0_0 : ¬ fl k = -1) (e_5 : v_5 = fl j) (e_6 : v_6 = fl k) (c_7 : v_5 = v_6) (f_8_1_0 : plc (fe j) x z) (f_8_1_1 : hpF x z) (f_11_1_0 : plc (fe k) y z) (f_11_1_1 : hpF y z) : ¬ fl j = -1 := by
  first | assumption | grind
theorem lf_X5_findingOfMove_10 {fl : Nat → Int32} {fe : Nat → Int32} {j : Nat} {k : Nat} {x : Int32} {y : Int32} {z : Int32} {v_5 : Int32} {v_6 : Int32} (hfe : ∀ jq : Nat, jq < 8 → ∃ q : Nat, q ≤ 40 ∧ fe jq = nI q) (hj : j < 8) (hk : k < 8) (f_1_0_0 : ¬ fl j = -1) (f_3_0_0 : ¬ fl k = -1) (e_5 : v_5 = fl j) (e_6 : v_6 = fl k) (c_7 : v_5 = v_6) (f_8_1_0 : plc (fe j) x z) (f_8_1_1 : hpF x z) (f_11_1_0 : plc (fe k) y z) (f_11_1_1 : hpF y z) : ¬ fl k = -1 := by
  first | assumption | grind
theorem lf_X5_findingOfMove_11 {fl : Nat → Int32} {fe : Nat → Int32} {j : Nat} {k : Nat} {x : Int32} {y : Int32} {z : Int32} {v_5 : Int32} {v_6 : Int32} (hfe : ∀ jq : Nat, jq < 8 → ∃ q : Nat, q ≤ 40 ∧ fe jq = nI q) (hj : j < 8) (hk : k < 8) (f_1_0_0 : ¬ fl j = -1) (f_3_0_0 : ¬ fl k = -1) (e_5 : v_5 = fl j) (e_6 : v_6 = fl k) (c_7 : v_5 = v_6) (f_8_1_0 : plc (fe j) x z) (f_8_1_1 : hpF x z) (f_11_1_0 : plc (fe k) y z) (f_11_1_1 : hpF y z) : fl j = fl k := by
  first | assumption | grind
theorem lf_X5_findingOfMove_12 {fl : Nat → Int32} {fe : Nat → Int32} {j : Nat} {k : Nat} {x : Int32} {y : Int32} {z : Int32} {v_5 : Int32} {v_6 : Int32} (hfe : ∀ jq : Nat, jq < 8 → ∃ q : Nat, q ≤ 40 ∧ fe jq = nI q) (hj : j < 8) (hk : k < 8) (f_1_0_0 : ¬ fl j = -1) (f_3_0_0 : ¬ fl k = -1) (e_5 : v_5 = fl j) (e_6 : v_6 = fl k) (c_7 : v_5 = v_6) (f_8_1_0 : plc (fe j) x z) (f_8_1_1 : hpF x z) (f_11_1_0 : plc (fe k) y z) (f_11_1_1 : hpF y z) : plc (fe j) x z := by
  first | assumption | grind
theorem lf_X5_findingOfMove_13 {fl : Nat → Int32} {fe : Nat → Int32} {j : Nat} {k : Nat} {x : Int32} {y : Int32} {z : Int32} {v_5 : Int32} {v_6 : Int32} (hfe : ∀ jq : Nat, jq < 8 → ∃ q : Nat, q ≤ 40 ∧ fe jq = nI q) (hj : j < 8) (hk : k < 8) (f_1_0_0 : ¬ fl j = -1) (f_3_0_0 : ¬ fl k = -1) (e_5 : v_5 = fl j) (e_6 : v_6 = fl k) (c_7 : v_5 = v_6) (f_8_1_0 : plc (fe j) x z) (f_8_1_1 : hpF x z) (f_11_1_0 : plc (fe k) y z) (f_11_1_1 : hpF y z) : plc (fe k) y z := by
  first | assumption | grind
theorem lf_X5_findingOfMove_14 {fl : Nat → Int32} {fe : Nat → Int32} {j : Nat} {k : Nat} {x : Int32} {y : Int32} {z : Int32} {v_5 : Int32} {v_6 : Int32} (hfe : ∀ jq : Nat, jq < 8 → ∃ q : Nat, q ≤ 40 ∧ fe jq = nI q) (hj : j < 8) (hk : k < 8) (f_1_0_0 : ¬ fl j = -1) (f_3_0_0 : ¬ fl k = -1) (e_5 : v_5 = fl j) (e_6 : v_6 = fl k) (c_7 : v_5 = v_6) (f_8_1_0 : plc (fe j) x z) (f_8_1_1 : hpF x z) (f_11_1_0 : plc (fe k) y z) (f_11_1_1 : hpF y z) : hpF x z := by
  first | assumption | grind
theorem lf_X5_findingOfMove_15 {fl : Nat → Int32} {fe : Nat → Int32} {j : Nat} {k : Nat} {x : Int32} {y : Int32} {z : Int32} {v_5 : Int32} {v_6 : Int32} (hfe : ∀ jq : Nat, jq < 8 → ∃ q : Nat, q ≤ 40 ∧ fe jq = nI q) (hj : j < 8) (hk : k < 8) (f_1_0_0 : ¬ fl j = -1) (f_3_0_0 : ¬ fl k = -1) (e_5 : v_5 = fl j) (e_6 : v_6 = fl k) (c_7 : v_5 = v_6) (f_8_1_0 : plc (fe j) x z) (f_8_1_1 : hpF x z) (f_11_1_0 : plc (fe k) y z) (f_11_1_1 : hpF y z) : hpF y z := by
  first | assumption | grind
theorem lf_X5_findingOfMove_16 {fl : Nat → Int32} {fe : Nat → Int32} {j : Nat} {k : Nat} {v_5 : Int32} {v_6 : Int32} (hfe : ∀ jq : Nat, jq < 8 → ∃ q : Nat, q ≤ 40 ∧ fe jq = nI q) (hj : j < 8) (hk : k < 8) (f_1_0_0 : ¬ fl j = -1) (f_3_0_0 : ¬ fl k = -1) (e_5 : v_5 = fl j) (e_6 : v_6 = fl k) (c_7 : ¬ (v_5 = v_6)) : ¬ fl j = -1 := by
  first | assumption | grind
theorem lf_X5_findingOfMove_17 {fl : Nat → Int32} {fe : Nat → Int32} {j : Nat} {k : Nat} {v_5 : Int32} {v_6 : Int32} (hfe : ∀ jq : Nat, jq < 8 → ∃ q : Nat, q ≤ 40 ∧ fe jq = nI q) (hj : j < 8) (hk : k < 8) (f_1_0_0 : ¬ fl j = -1) (f_3_0_0 : ¬ fl k = -1) (e_5 : v_5 = fl j) (e_6 : v_6 = fl k) (c_7 : ¬ (v_5 = v_6)) : ¬ fl k = -1 := by
  first | assumption | grind
theorem lf_X5_findingOfMove_18 {fl : Nat → Int32} {fe : Nat → Int32} {j : Nat} {k : Nat} {v_5 : Int32} {v_6 : Int32} (hfe : ∀ jq : Nat, jq < 8 → ∃ q : Nat, q ≤ 40 ∧ fe jq = nI q) (hj : j < 8) (hk : k < 8) (f_1_0_0 : ¬ fl j = -1) (f_3_0_0 : ¬ fl k = -1) (e_5 : v_5 = fl j) (e_6 : v_6 = fl k) (c_7 : ¬ (v_5 = v_6)) : ¬ fl j = fl k := by
  first | assumption | grind
theorem lf_X5_findingOfMove_19 {fl : Nat → Int32} {fe : Nat → Int32} {j : Nat} {k : Nat} (hfe : ∀ jq : Nat, jq < 8 → ∃ q : Nat, q ≤ 40 ∧ fe jq = nI q) (hj : j < 8) (hk : k < 8) (f_1_0_0 : ¬ fl j = -1) (f_3_1_0 : fl k = -1) : (fl j = -1 ∨ fl k = -1) := by
  first | assumption | grind
theorem lf_X5_findingOfMove_20 {fl : Nat → Int32} {fe : Nat → Int32} {j : Nat} {k : Nat} (hfe : ∀ jq : Nat, jq < 8 → ∃ q : Nat, q ≤ 40 ∧ fe jq = nI q) (hj : j < 8) (hk : k < 8) (f_1_1_0 : fl j = -1) : (fl j = -1 ∨ fl k = -1) := by
  first | assumption | grind
set_option maxHeartbeats 4000000 in
set_option maxRecDepth 100000 in
theorem r_X5_findingOfMove (l : Launch) (dC : Nat → ClassId) (dI : Nat → Nat → Nat) (cI cZ cL cJ : ClassId) (h : Nat) (it : Nat) (la : Nat) (le : Nat) (fl : Nat → Int32) (fe : Nat → Int32) (j : Nat) (k : Nat) (x : Int32) (y : Int32) (z : Int32) (hfe : ∀ jq : Nat, jq < 8 → ∃ q : Nat, q ≤ 40 ∧ fe jq = nI q) (hj : j < 8) (hk : k < 8) : Met l yX5_findingOfMove wsX5_findingOfMove ({ frames := 1, cells := 0, slots := 0, locals := 23 }) (va_Pc [.ref h, .int (nI j), .int x, .int (nI k), .int y, .int z] (fun U => va_P (dC, dI) vwCl [(xo_5_rrr h it la le), (xI la cI 8 fl), (xI le cI 8 fe)] U.heap ∧ va_K (dC, dI) vwCl [(cI, .int), (cZ, .boolean), (cL, .object RX3), (cJ, .array .int)] U)) (vp_Si (fun r => (r = 1 ∧ (fl j = -1 ∨ fl k = -1)) ∨ (r = 5 ∧ ¬ fl j = -1 ∧ ¬ fl k = -1 ∧ ¬ fl j = fl k) ∨ (r = 0 ∧ ¬ fl j = -1 ∧ ¬ fl k = -1 ∧ fl j = fl k ∧ plc (fe j) x z ∧ plc (fe k) y z ∧ hpF x z ∧ hpF y z) ∨ (r = 2 ∧ ¬ fl j = -1 ∧ ¬ fl k = -1 ∧ fl j = fl k ∧ (¬ plc (fe j) x z ∨ ¬ plc (fe k) y z)))) 0 0 (fun _ => False) := by
  refine Met.ofW (cc := cX5_findingOfMove) (maxL := 6) (ret := (some .int)) (by decide) rfl ?_
  intro p e s m args below meth c s₁ B hml hv
  obtain ⟨rfl, hP, hK⟩ := hv
  have hx := B.exec
  have hb := B.bytes
  have hr := B.returns
  have hts := atoms_spec (ws := wsX5_findingOfMove) B.pre
  have hown : s.vm.findClass RX5 = some m.cls := findClass_of_methodNamed B.named
  have hlocks := B.notSynchronized
  have hP : va_P (dC, dI) vwCl [(xo_5_rrr h it la le), (xI la cI 8 fl), (xI le cI 8 fe)] s.heap := hP
  have hl := lv_entry ([.ref h, .int (nI j), .int x, .int (nI k), .int y, .int z]) (n := 6) (Nat.le_of_ble_eq_true rfl)
  rw [lg_entry_eq]
  generalize (lg_sl ([.ref h, .int (nI j), .int x, .int (nI k), .int y, .int z]) ++ List.replicate (6 - (lg_sl ([.ref h, .int (nI j), .int x, .int (nI k), .int y, .int z])).length) Slot.unset).toArray = ls at hl ⊢
  have hl : lv_has ls 6 [(0, .ref h), (1, .int (nI j)), (2, .int x), (3, .int (nI k)), (4, .int y), (5, .int z)] := hl
  refine lv_aload_n hx hb dX5_findingOfMove_0 rfl (lv_at hl 0 rfl) ?_
  refine lv_iload_n hx hb dX5_findingOfMove_1 rfl (lv_at hl 1 rfl) ?_
  have hPc_1 := hP.sub (ws' := [(xo_5_rrr h it la le), (xI la cI 8 fl)]) [0, 1] rfl
  refine vp_callSi (W.runV (As := [.int (nI j)]) (rest := []) ⟨hx, hb, hml, hown, hts⟩ (r_X5_isMissing l dC dI cI cZ cL cJ h it la le fl j (by omega)) (cwV 1 hts gX5_findingOfMove_X5_isMissing rfl rfl rfl (by decide +kernel) ⟨Nat.le_of_ble_eq_true rfl, Nat.le_of_ble_eq_true rfl⟩) (pvP 5 0 hK hP rfl rfl hPc_1) rfl rfl hl.1 rfl (lv_room (Nat.le_of_ble_eq_true rfl)) dX5_findingOfMove_2 ⟨Nat.le_of_ble_eq_true rfl, Nat.le_of_ble_eq_true rfl⟩) (fun r_1 h_1 => ?_)
  rcases h_1 with ⟨h_1, f_1_0_0⟩ | ⟨h_1, f_1_1_0⟩
  · subst h_1
    refine lv_if_ne (tgt := 16) hx hb dX5_findingOfMove_5 (by decide) (fun c_ => absurd (by decide) c_) (fun _ => ?_)
    refine lv_aload_n hx hb dX5_findingOfMove_8 rfl (lv_at hl 0 rfl) ?_
    refine lv_iload_n hx hb dX5_findingOfMove_9 rfl (lv_at hl 3 rfl) ?_
    have hPc_3 := hP.sub (ws' := [(xo_5_rrr h it la le), (xI la cI 8 fl)]) [0, 1] rfl
    refine vp_callSi (W.runV (As := [.int (nI k)]) (rest := []) ⟨hx, hb, hml, hown, hts⟩ (r_X5_isMissing l dC dI cI cZ cL cJ h it la le fl k (by omega)) (cwV 1 hts gX5_findingOfMove_X5_isMissing rfl rfl rfl (by decide +kernel) ⟨Nat.le_of_ble_eq_true rfl, Nat.le_of_ble_eq_true rfl⟩) (pvP 5 0 hK hP rfl rfl hPc_3) rfl rfl hl.1 rfl (lv_room (Nat.le_of_ble_eq_true rfl)) dX5_findingOfMove_10 ⟨Nat.le_of_ble_eq_true rfl, Nat.le_of_ble_eq_true rfl⟩) (fun r_3 h_3 => ?_)
    rcases h_3 with ⟨h_3, f_3_0_0⟩ | ⟨h_3, f_3_1_0⟩
    · subst h_3
      refine lv_if_eq (tgt := 18) hx hb dX5_findingOfMove_13 (by decide) (fun _ => ?_) (fun c_ => absurd (by decide) c_)
      refine lv_aload_n hx hb dX5_findingOfMove_18 rfl (lv_at hl 0 rfl) ?_
      refine va_get (D := (dC, dI)) (ci := 5) (v := .ref la) (C := RX5) (T := TX5) (N := 3) hx hb hts i_X5_findingOfMove_X5 hown hK hP 0 rfl rfl 1 (by decide) (hts _ mx_X5_findingOfMove_1) (fun _ h9 => h9) rfl dX5_findingOfMove_19 ?_
      refine lv_iload_n hx hb dX5_findingOfMove_22 rfl (lv_at hl 1 rfl) ?_
      refine va_iald hx hb hK hP 1 0 rfl rfl (vp_in_nI (by omega) (by omega)) dX5_findingOfMove_23 ?_
      refine lv_topi (fun v_5 e_5 => ?_)
      have e_5 : v_5 = fl j := e_5.trans (congrArg fl (nI_clamp (by omega)))
      refine lv_aload_n hx hb dX5_findingOfMove_24 rfl (lv_at hl 0 rfl) ?_
      refine va_get (D := (dC, dI)) (ci := 5) (v := .ref la) (C := RX5) (T := TX5) (N := 3) hx hb hts i_X5_findingOfMove_X5 hown hK hP 0 rfl rfl 1 (by decide) (hts _ mx_X5_findingOfMove_1) (fun _ h9 => h9) rfl dX5_findingOfMove_25 ?_
      refine lv_iload_n hx hb dX5_findingOfMove_28 rfl (lv_at hl 3 rfl) ?_
      refine va_iald hx hb hK hP 1 0 rfl rfl (vp_in_nI (by omega) (by omega)) dX5_findingOfMove_29 ?_
      refine lv_topi (fun v_6 e_6 => ?_)
      have e_6 : v_6 = fl k := e_6.trans (congrArg fl (nI_clamp (by omega)))
      refine lv_icmp_eq (tgt := 35) hx hb dX5_findingOfMove_30 (by decide) (fun c_7 => ?_) (fun c_7 => ?_)
      · skip
        refine lv_aload_n hx hb dX5_findingOfMove_35 rfl (lv_at hl 0 rfl) ?_
        refine lv_iload_n hx hb dX5_findingOfMove_36 rfl (lv_at hl 1 rfl) ?_
        refine lv_iload_n hx hb dX5_findingOfMove_37 rfl (lv_at hl 2 rfl) ?_
        refine lv_iload hx hb dX5_findingOfMove_38 (lv_at hl 5 rfl) ?_
        have hPc_8 := hP.sub (ws' := [(xo_5_rrr h it la le), (xI le cI 8 fe)]) [0, 2] rfl
        refine vp_callSi (W.runV (As := [.int (nI j), .int x, .int z]) (rest := []) ⟨hx, hb, hml, hown, hts⟩ (r_X5_hasPlaces l dC dI cI cZ cL cJ h it la le fe j x z (hfe) (by omega)) (cwV 3 hts gX5_findingOfMove_X5_hasPlaces rfl rfl rfl (by decide +kernel) ⟨Nat.le_of_ble_eq_true rfl, Nat.le_of_ble_eq_true rfl⟩) (pvP 5 0 hK hP rfl rfl hPc_8) rfl rfl hl.1 rfl (lv_room (Nat.le_of_ble_eq_true rfl)) dX5_findingOfMove_40 ⟨Nat.le_of_ble_eq_true rfl, Nat.le_of_ble_eq_true rfl⟩) (fun r_8 h_8 => ?_)
        rcases h_8 with ⟨h_8, f_8_0_0⟩ | ⟨h_8, f_8_1_0, f_8_1_1⟩
        · subst h_8
          refine lv_if_eq (tgt := 62) hx hb dX5_findingOfMove_43 (by decide) (fun _ => ?_) (fun c_ => absurd (by decide) c_)
          refine lv_iconst (v := 2) hx hb dX5_findingOfMove_62 (by decide) ?_
          exact W.iret (v := 2) hx hb hr (fun t ht hW => ⟨2, rfl, Or.inr (Or.inr (Or.inr (⟨rfl, (lf_X5_findingOfMove_1 hfe hj hk f_1_0_0 f_3_0_0 e_5 e_6 c_7 f_8_0_0), (lf_X5_findingOfMove_2 hfe hj hk f_1_0_0 f_3_0_0 e_5 e_6 c_7 f_8_0_0), (lf_X5_findingOfMove_3 hfe hj hk f_1_0_0 f_3_0_0 e_5 e_6 c_7 f_8_0_0), (lf_X5_findingOfMove_4 hfe hj hk f_1_0_0 f_3_0_0 e_5 e_6 c_7 f_8_0_0)⟩))), ht⟩) (fun _ h => by cases h) dX5_findingOfMove_63
        · subst h_8
          refine lv_if_eq (tgt := 62) hx hb dX5_findingOfMove_43 (by decide) (fun c_ => absurd c_ (by decide)) (fun _ => ?_)
          refine lv_aload_n hx hb dX5_findingOfMove_46 rfl (lv_at hl 0 rfl) ?_
          refine lv_iload_n hx hb dX5_findingOfMove_47 rfl (lv_at hl 3 rfl) ?_
          refine lv_iload hx hb dX5_findingOfMove_48 (lv_at hl 4 rfl) ?_
          refine lv_iload hx hb dX5_findingOfMove_50 (lv_at hl 5 rfl) ?_
          have hPc_11 := hP.sub (ws' := [(xo_5_rrr h it la le), (xI le cI 8 fe)]) [0, 2] rfl
          refine vp_callSi (W.runV (As := [.int (nI k), .int y, .int z]) (rest := []) ⟨hx, hb, hml, hown, hts⟩ (r_X5_hasPlaces l dC dI cI cZ cL cJ h it la le fe k y z (hfe) (by omega)) (cwV 3 hts gX5_findingOfMove_X5_hasPlaces rfl rfl rfl (by decide +kernel) ⟨Nat.le_of_ble_eq_true rfl, Nat.le_of_ble_eq_true rfl⟩) (pvP 5 0 hK hP rfl rfl hPc_11) rfl rfl hl.1 rfl (lv_room (Nat.le_of_ble_eq_true rfl)) dX5_findingOfMove_52 ⟨Nat.le_of_ble_eq_true rfl, Nat.le_of_ble_eq_true rfl⟩) (fun r_11 h_11 => ?_)
          rcases h_11 with ⟨h_11, f_11_0_0⟩ | ⟨h_11, f_11_1_0, f_11_1_1⟩
          · subst h_11
            refine lv_if_eq (tgt := 62) hx hb dX5_findingOfMove_55 (by decide) (fun _ => ?_) (fun c_ => absurd (by decide) c_)
            refine lv_iconst (v := 2) hx hb dX5_findingOfMove_62 (by decide) ?_
            exact W.iret (v := 2) hx hb hr (fun t ht hW => ⟨2, rfl, Or.inr (Or.inr (Or.inr (⟨rfl, (lf_X5_findingOfMove_5 hfe hj hk f_1_0_0 f_3_0_0 e_5 e_6 c_7 f_8_1_0 f_8_1_1 f_11_0_0), (lf_X5_findingOfMove_6 hfe hj hk f_1_0_0 f_3_0_0 e_5 e_6 c_7 f_8_1_0 f_8_1_1 f_11_0_0), (lf_X5_findingOfMove_7 hfe hj hk f_1_0_0 f_3_0_0 e_5 e_6 c_7 f_8_1_0 f_8_1_1 f_11_0_0), (lf_X5_findingOfMove_8 hfe hj hk f_1_0_0 f_3_0_0 e_5 e_6 c_7 f_8_1_0 f_8_1_1 f_11_0_0)⟩))), ht⟩) (fun _ h => by cases h) dX5_findingOfMove_63
          · subst h_11
            refine lv_if_eq (tgt := 62) hx hb dX5_findingOfMove_55 (by decide) (fun c_ => absurd c_ (by decide)) (fun _ => ?_)
            refine lv_iconst (v := 0) hx hb dX5_findingOfMove_58 (by decide) ?_
            refine lv_goto (tgt := 63) hx hb dX5_findingOfMove_59 (by decide) ?_
            exact W.iret (v := 0) hx hb hr (fun t ht hW => ⟨0, rfl, Or.inr (Or.inr (Or.inl (⟨rfl, (lf_X5_findingOfMove_9 hfe hj hk f_1_0_0 f_3_0_0 e_5 e_6 c_7 f_8_1_0 f_8_1_1 f_11_1_0 f_11_1_1), (lf_X5_findingOfMove_10 hfe hj hk f_1_0_0 f_3_0_0 e_5 e_6 c_7 f_8_1_0 f_8_1_1 f_11_1_0 f_11_1_1), (lf_X5_findingOfMove_11 hfe hj hk f_1_0_0 f_3_0_0 e_5 e_6 c_7 f_8_1_0 f_8_1_1 f_11_1_0 f_11_1_1), (lf_X5_findingOfMove_12 hfe hj hk f_1_0_0 f_3_0_0 e_5 e_6 c_7 f_8_1_0 f_8_1_1 f_11_1_0 f_11_1_1), (lf_X5_findingOfMove_13 hfe hj hk f_1_0_0 f_3_0_0 e_5 e_6 c_7 f_8_1_0 f_8_1_1 f_11_1_0 f_11_1_1), (lf_X5_findingOfMove_14 hfe hj hk f_1_0_0 f_3_0_0 e_5 e_6 c_7 f_8_1_0 f_8_1_1 f_11_1_0 f_11_1_1), (lf_X5_findingOfMove_15 hfe hj hk f_1_0_0 f_3_0_0 e_5 e_6 c_7 f_8_1_0 f_8_1_1 f_11_1_0 f_11_1_1)⟩))), ht⟩) (fun _ h => by cases h) dX5_findingOfMove_63
      · skip
        refine lv_iconst (v := 5) hx hb dX5_findingOfMove_33 (by decide) ?_
        exact W.iret (v := 5) hx hb hr (fun t ht hW => ⟨5, rfl, Or.inr (Or.inl (⟨rfl, (lf_X5_findingOfMove_16 hfe hj hk f_1_0_0 f_3_0_0 e_5 e_6 c_7), (lf_X5_findingOfMove_17 hfe hj hk f_1_0_0 f_3_0_0 e_5 e_6 c_7), (lf_X5_findingOfMove_18 hfe hj hk f_1_0_0 f_3_0_0 e_5 e_6 c_7)⟩)), ht⟩) (fun _ h => by cases h) dX5_findingOfMove_34
    · subst h_3
      refine lv_if_eq (tgt := 18) hx hb dX5_findingOfMove_13 (by decide) (fun c_ => absurd c_ (by decide)) (fun _ => ?_)
      refine lv_iconst (v := 1) hx hb dX5_findingOfMove_16 (by decide) ?_
      exact W.iret (v := 1) hx hb hr (fun t ht hW => ⟨1, rfl, Or.inl (⟨rfl, (lf_X5_findingOfMove_19 hfe hj hk f_1_0_0 f_3_1_0)⟩), ht⟩) (fun _ h => by cases h) dX5_findingOfMove_17
  · subst h_1
    refine lv_if_ne (tgt := 16) hx hb dX5_findingOfMove_5 (by decide) (fun _ => ?_) (fun c_ => absurd c_ (by decide))
    refine lv_iconst (v := 1) hx hb dX5_findingOfMove_16 (by decide) ?_
    exact W.iret (v := 1) hx hb hr (fun t ht hW => ⟨1, rfl, Or.inl (⟨rfl, (lf_X5_findingOfMove_20 hfe hj hk f_1_1_0)⟩), ht⟩) (fun _ h => by cases h) dX5_findingOfMove_17
theorem lf_X5_item_1 {y0 : Nat} {y1 : Nat} {y2 : Nat} {y3 : Nat} {y4 : Nat} {y5 : Nat} {y6 : Nat} {y7 : Nat} {f0 : Nat → Int32} {f1 : Nat → Int32} {f2 : Nat → Int32} {f3 : Nat → Int32} {f4 : Nat → Int32} {f5 : Nat → Int32} {f6 : Nat → Int32} {f7 : Nat → Int32} {fi : Nat → Option Nat} {k : Nat} {v_2 : Int32} (hfi : fi 0 = some y0 ∧ fi 1 = some y1 ∧ fi 2 = some y2 ∧ fi 3 = some y3 ∧ fi 4 = some y4 ∧ fi 5 = some y5 ∧ fi 6 = some y6 ∧ fi 7 = some y7) (hj : 0 < 8) (hk : k < 40) (e_2 : v_2 = f0 k) : v_2 = ((itX f0 f1 f2 f3 f4 f5 f6 f7) 0 k) := by
  subst_vars
  exact (if_pos hk).symm
theorem lf_X5_item_2 {y0 : Nat} {y1 : Nat} {y2 : Nat} {y3 : Nat} {y4 : Nat} {y5 : Nat} {y6 : Nat} {y7 : Nat} {f0 : Nat → Int32} {f1 : Nat → Int32} {f2 : Nat → Int32} {f3 : Nat → Int32} {f4 : Nat → Int32} {f5 : Nat → Int32} {f6 : Nat → Int32} {f7 : Nat → Int32} {fi : Nat → Option Nat} {k : Nat} {v_4 : Int32} (hfi : fi 0 = some y0 ∧ fi 1 = some y1 ∧ fi 2 = some y2 ∧ fi 3 = some y3 ∧ fi 4 = some y4 ∧ fi 5 = some y5 ∧ fi 6 = some y6 ∧ fi 7 = some y7) (hj : 1 < 8) (hk : k < 40) (e_4 : v_4 = f1 k) : v_4 = ((itX f0 f1 f2 f3 f4 f5 f6 f7) 1 k) := by
  subst_vars
  exact (if_pos hk).symm
theorem lf_X5_item_3 {y0 : Nat} {y1 : Nat} {y2 : Nat} {y3 : Nat} {y4 : Nat} {y5 : Nat} {y6 : Nat} {y7 : Nat} {f0 : Nat → Int32} {f1 : Nat → Int32} {f2 : Nat → Int32} {f3 : Nat → Int32} {f4 : Nat → Int32} {f5 : Nat → Int32} {f6 : Nat → Int32} {f7 : Nat → Int32} {fi : Nat → Option Nat} {k : Nat} {v_6 : Int32} (hfi : fi 0 = some y0 ∧ fi 1 = some y1 ∧ fi 2 = some y2 ∧ fi 3 = some y3 ∧ fi 4 = some y4 ∧ fi 5 = some y5 ∧ fi 6 = some y6 ∧ fi 7 = some y7) (hj : 2 < 8) (hk : k < 40) (e_6 : v_6 = f2 k) : v_6 = ((itX f0 f1 f2 f3 f4 f5 f6 f7) 2 k) := by
  subst_vars
  exact (if_pos hk).symm
theorem lf_X5_item_4 {y0 : Nat} {y1 : Nat} {y2 : Nat} {y3 : Nat} {y4 : Nat} {y5 : Nat} {y6 : Nat} {y7 : Nat} {f0 : Nat → Int32} {f1 : Nat → Int32} {f2 : Nat → Int32} {f3 : Nat → Int32} {f4 : Nat → Int32} {f5 : Nat → Int32} {f6 : Nat → Int32} {f7 : Nat → Int32} {fi : Nat → Option Nat} {k : Nat} {v_8 : Int32} (hfi : fi 0 = some y0 ∧ fi 1 = some y1 ∧ fi 2 = some y2 ∧ fi 3 = some y3 ∧ fi 4 = some y4 ∧ fi 5 = some y5 ∧ fi 6 = some y6 ∧ fi 7 = some y7) (hj : 3 < 8) (hk : k < 40) (e_8 : v_8 = f3 k) : v_8 = ((itX f0 f1 f2 f3 f4 f5 f6 f7) 3 k) := by
  subst_vars
  exact (if_pos hk).symm
theorem lf_X5_item_5 {y0 : Nat} {y1 : Nat} {y2 : Nat} {y3 : Nat} {y4 : Nat} {y5 : Nat} {y6 : Nat} {y7 : Nat} {f0 : Nat → Int32} {f1 : Nat → Int32} {f2 : Nat → Int32} {f3 : Nat → Int32} {f4 : Nat → Int32} {f5 : Nat → Int32} {f6 : Nat → Int32} {f7 : Nat → Int32} {fi : Nat → Option Nat} {k : Nat} {v_10 : Int32} (hfi : fi 0 = some y0 ∧ fi 1 = some y1 ∧ fi 2 = some y2 ∧ fi 3 = some y3 ∧ fi 4 = some y4 ∧ fi 5 = some y5 ∧ fi 6 = some y6 ∧ fi 7 = some y7) (hj : 4 < 8) (hk : k < 40) (e_10 : v_10 = f4 k) : v_10 = ((itX f0 f1 f2 f3 f4 f5 f6 f7) 4 k) := by
  subst_vars
  exact (if_pos hk).symm
theorem lf_X5_item_6 {y0 : Nat} {y1 : Nat} {y2 : Nat} {y3 : Nat} {y4 : Nat} {y5 : Nat} {y6 : Nat} {y7 : Nat} {f0 : Nat → Int32} {f1 : Nat → Int32} {f2 : Nat → Int32} {f3 : Nat → Int32} {f4 : Nat → Int32} {f5 : Nat → Int32} {f6 : Nat → Int32} {f7 : Nat → Int32} {fi : Nat → Option Nat} {k : Nat} {v_12 : Int32} (hfi : fi 0 = some y0 ∧ fi 1 = some y1 ∧ fi 2 = some y2 ∧ fi 3 = some y3 ∧ fi 4 = some y4 ∧ fi 5 = some y5 ∧ fi 6 = some y6 ∧ fi 7 = some y7) (hj : 5 < 8) (hk : k < 40) (e_12 : v_12 = f5 k) : v_12 = ((itX f0 f1 f2 f3 f4 f5 f6 f7) 5 k) := by
  subst_vars
  exact (if_pos hk).symm
theorem lf_X5_item_7 {y0 : Nat} {y1 : Nat} {y2 : Nat} {y3 : Nat} {y4 : Nat} {y5 : Nat} {y6 : Nat} {y7 : Nat} {f0 : Nat → Int32} {f1 : Nat → Int32} {f2 : Nat → Int32} {f3 : Nat → Int32} {f4 : Nat → Int32} {f5 : Nat → Int32} {f6 : Nat → Int32} {f7 : Nat → Int32} {fi : Nat → Option Nat} {k : Nat} {v_14 : Int32} (hfi : fi 0 = some y0 ∧ fi 1 = some y1 ∧ fi 2 = some y2 ∧ fi 3 = some y3 ∧ fi 4 = some y4 ∧ fi 5 = some y5 ∧ fi 6 = some y6 ∧ fi 7 = some y7) (hj : 6 < 8) (hk : k < 40) (e_14 : v_14 = f6 k) : v_14 = ((itX f0 f1 f2 f3 f4 f5 f6 f7) 6 k) := by
  subst_vars
  exact (if_pos hk).symm
theorem lf_X5_item_8 {y0 : Nat} {y1 : Nat} {y2 : Nat} {y3 : Nat} {y4 : Nat} {y5 : Nat} {y6 : Nat} {y7 : Nat} {f0 : Nat → Int32} {f1 : Nat → Int32} {f2 : Nat → Int32} {f3 : Nat → Int32} {f4 : Nat → Int32} {f5 : Nat → Int32} {f6 : Nat → Int32} {f7 : Nat → Int32} {fi : Nat → Option Nat} {k : Nat} {v_16 : Int32} (hfi : fi 0 = some y0 ∧ fi 1 = some y1 ∧ fi 2 = some y2 ∧ fi 3 = some y3 ∧ fi 4 = some y4 ∧ fi 5 = some y5 ∧ fi 6 = some y6 ∧ fi 7 = some y7) (hj : 7 < 8) (hk : k < 40) (e_16 : v_16 = f7 k) : v_16 = ((itX f0 f1 f2 f3 f4 f5 f6 f7) 7 k) := by
  subst_vars
  exact (if_pos hk).symm
set_option maxHeartbeats 4000000 in
set_option maxRecDepth 100000 in
theorem r_X5_item (l : Launch) (dC : Nat → ClassId) (dI : Nat → Nat → Nat) (cI cZ cL cJ : ClassId) (h : Nat) (it : Nat) (la : Nat) (le : Nat) (fl : Nat → Int32) (fe : Nat → Int32) (y0 : Nat) (y1 : Nat) (y2 : Nat) (y3 : Nat) (y4 : Nat) (y5 : Nat) (y6 : Nat) (y7 : Nat) (f0 : Nat → Int32) (f1 : Nat → Int32) (f2 : Nat → Int32) (f3 : Nat → Int32) (f4 : Nat → Int32) (f5 : Nat → Int32) (f6 : Nat → Int32) (f7 : Nat → Int32) (fi : Nat → Option Nat) (j : Nat) (k : Nat) (hfi : fi 0 = some y0 ∧ fi 1 = some y1 ∧ fi 2 = some y2 ∧ fi 3 = some y3 ∧ fi 4 = some y4 ∧ fi 5 = some y5 ∧ fi 6 = some y6 ∧ fi 7 = some y7) (hj : j < 8) (hk : k < 40) : Met l yX5_item wsX5_item ({ frames := 0, cells := 0, slots := 0, locals := 0 }) (va_Pc [.ref h, .int (nI j), .int (nI k)] (fun U => va_P (dC, dI) vwCl [(xo_5_rrr h it la le), (xJ it cJ 8 fi), (xI y0 cI 40 f0), (xI y1 cI 40 f1), (xI y2 cI 40 f2), (xI y3 cI 40 f3), (xI y4 cI 40 f4), (xI y5 cI 40 f5), (xI y6 cI 40 f6), (xI y7 cI 40 f7)] U.heap ∧ va_K (dC, dI) vwCl [(cI, .int), (cZ, .boolean), (cL, .object RX3), (cJ, .array .int)] U)) (vp_Si (fun r => r = ((itX f0 f1 f2 f3 f4 f5 f6 f7) j k))) 0 0 (fun _ => False) := by
  refine Met.ofW (cc := cX5_item) (maxL := 3) (ret := (some .int)) (by decide) rfl ?_
  intro p e s m args below meth c s₁ B hml hv
  obtain ⟨rfl, hP, hK⟩ := hv
  have hx := B.exec
  have hb := B.bytes
  have hr := B.returns
  have hts := atoms_spec (ws := wsX5_item) B.pre
  have hown : s.vm.findClass RX5 = some m.cls := findClass_of_methodNamed B.named
  have hlocks := B.notSynchronized
  have hP : va_P (dC, dI) vwCl [(xo_5_rrr h it la le), (xJ it cJ 8 fi), (xI y0 cI 40 f0), (xI y1 cI 40 f1), (xI y2 cI 40 f2), (xI y3 cI 40 f3), (xI y4 cI 40 f4), (xI y5 cI 40 f5), (xI y6 cI 40 f6), (xI y7 cI 40 f7)] s.heap := hP
  have hl := lv_entry ([.ref h, .int (nI j), .int (nI k)]) (n := 3) (Nat.le_of_ble_eq_true rfl)
  rw [lg_entry_eq]
  generalize (lg_sl ([.ref h, .int (nI j), .int (nI k)]) ++ List.replicate (3 - (lg_sl ([.ref h, .int (nI j), .int (nI k)])).length) Slot.unset).toArray = ls at hl ⊢
  have hl : lv_has ls 3 [(0, .ref h), (1, .int (nI j)), (2, .int (nI k))] := hl
  rcases (show j = 0 ∨ j = 1 ∨ j = 2 ∨ j = 3 ∨ j = 4 ∨ j = 5 ∨ j = 6 ∨ j = 7 by omega) with rfl | rfl | rfl | rfl | rfl | rfl | rfl | rfl
  · skip
    have hl : lv_has ls 3 [(0, .ref h), (1, .int 0), (2, .int (nI k))] := hl
    refine lv_aload_n hx hb dX5_item_0 rfl (lv_at hl 0 rfl) ?_
    refine va_get (D := (dC, dI)) (ci := 5) (v := .ref it) (C := RX5) (T := TX5) (N := 3) hx hb hts i_X5_item_X5 hown hK hP 0 rfl rfl 0 (by decide) (hts _ mx_X5_item_1) (fun _ h9 => h9) rfl dX5_item_1 ?_
    refine lv_iload_n hx hb dX5_item_4 rfl (lv_at hl 1 rfl) ?_
    refine nw_alk hx hb hK hP 1 3 rfl rfl 0 rfl (Nat.le_of_ble_eq_true rfl) (Nat.le_of_ble_eq_true rfl) hfi.1 dX5_item_5 ?_
    refine lv_iload_n hx hb dX5_item_6 rfl (lv_at hl 2 rfl) ?_
    refine va_iald hx hb hK hP 2 0 rfl rfl (vp_in_nI (by omega) (by omega)) dX5_item_7 ?_
    refine lv_topi (fun v_2 e_2 => ?_)
    have e_2 : v_2 = f0 k := e_2.trans (congrArg f0 (nI_clamp (by omega)))
    exact W.iret (v := v_2) hx hb hr (fun t ht hW => ⟨v_2, rfl, (lf_X5_item_1 hfi hj hk e_2), ht⟩) (fun _ h => by cases h) dX5_item_8
  · skip
    have hl : lv_has ls 3 [(0, .ref h), (1, .int 1), (2, .int (nI k))] := hl
    refine lv_aload_n hx hb dX5_item_0 rfl (lv_at hl 0 rfl) ?_
    refine va_get (D := (dC, dI)) (ci := 5) (v := .ref it) (C := RX5) (T := TX5) (N := 3) hx hb hts i_X5_item_X5 hown hK hP 0 rfl rfl 0 (by decide) (hts _ mx_X5_item_1) (fun _ h9 => h9) rfl dX5_item_1 ?_
    refine lv_iload_n hx hb dX5_item_4 rfl (lv_at hl 1 rfl) ?_
    refine nw_alk hx hb hK hP 1 3 rfl rfl 1 rfl (Nat.le_of_ble_eq_true rfl) (Nat.le_of_ble_eq_true rfl) hfi.2.1 dX5_item_5 ?_
    refine lv_iload_n hx hb dX5_item_6 rfl (lv_at hl 2 rfl) ?_
    refine va_iald hx hb hK hP 3 0 rfl rfl (vp_in_nI (by omega) (by omega)) dX5_item_7 ?_
    refine lv_topi (fun v_4 e_4 => ?_)
    have e_4 : v_4 = f1 k := e_4.trans (congrArg f1 (nI_clamp (by omega)))
    exact W.iret (v := v_4) hx hb hr (fun t ht hW => ⟨v_4, rfl, (lf_X5_item_2 hfi hj hk e_4), ht⟩) (fun _ h => by cases h) dX5_item_8
  · skip
    have hl : lv_has ls 3 [(0, .ref h), (1, .int 2), (2, .int (nI k))] := hl
    refine lv_aload_n hx hb dX5_item_0 rfl (lv_at hl 0 rfl) ?_
    refine va_get (D := (dC, dI)) (ci := 5) (v := .ref it) (C := RX5) (T := TX5) (N := 3) hx hb hts i_X5_item_X5 hown hK hP 0 rfl rfl 0 (by decide) (hts _ mx_X5_item_1) (fun _ h9 => h9) rfl dX5_item_1 ?_
    refine lv_iload_n hx hb dX5_item_4 rfl (lv_at hl 1 rfl) ?_
    refine nw_alk hx hb hK hP 1 3 rfl rfl 2 rfl (Nat.le_of_ble_eq_true rfl) (Nat.le_of_ble_eq_true rfl) hfi.2.2.1 dX5_item_5 ?_
    refine lv_iload_n hx hb dX5_item_6 rfl (lv_at hl 2 rfl) ?_
    refine va_iald hx hb hK hP 4 0 rfl rfl (vp_in_nI (by omega) (by omega)) dX5_item_7 ?_
    refine lv_topi (fun v_6 e_6 => ?_)
    have e_6 : v_6 = f2 k := e_6.trans (congrArg f2 (nI_clamp (by omega)))
    exact W.iret (v := v_6) hx hb hr (fun t ht hW => ⟨v_6, rfl, (lf_X5_item_3 hfi hj hk e_6), ht⟩) (fun _ h => by cases h) dX5_item_8
  · skip
    have hl : lv_has ls 3 [(0, .ref h), (1, .int 3), (2, .int (nI k))] := hl
    refine lv_aload_n hx hb dX5_item_0 rfl (lv_at hl 0 rfl) ?_
    refine va_get (D := (dC, dI)) (ci := 5) (v := .ref it) (C := RX5) (T := TX5) (N := 3) hx hb hts i_X5_item_X5 hown hK hP 0 rfl rfl 0 (by decide) (hts _ mx_X5_item_1) (fun _ h9 => h9) rfl dX5_item_1 ?_
    refine lv_iload_n hx hb dX5_item_4 rfl (lv_at hl 1 rfl) ?_
    refine nw_alk hx hb hK hP 1 3 rfl rfl 3 rfl (Nat.le_of_ble_eq_true rfl) (Nat.le_of_ble_eq_true rfl) hfi.2.2.2.1 dX5_item_5 ?_
    refine lv_iload_n hx hb dX5_item_6 rfl (lv_at hl 2 rfl) ?_
    refine va_iald hx hb hK hP 5 0 rfl rfl (vp_in_nI (by omega) (by omega)) dX5_item_7 ?_
    refine lv_topi (fun v_8 e_8 => ?_)
    have e_8 : v_8 = f3 k := e_8.trans (congrArg f3 (nI_clamp (by omega)))
    exact W.iret (v := v_8) hx hb hr (fun t ht hW => ⟨v_8, rfl, (lf_X5_item_4 hfi hj hk e_8), ht⟩) (fun _ h => by cases h) dX5_item_8
  · skip
    have hl : lv_has ls 3 [(0, .ref h), (1, .int 4), (2, .int (nI k))] := hl
    refine lv_aload_n hx hb dX5_item_0 rfl (lv_at hl 0 rfl) ?_
    refine va_get (D := (dC, dI)) (ci := 5) (v := .ref it) (C := RX5) (T := TX5) (N := 3) hx hb hts i_X5_item_X5 hown hK hP 0 rfl rfl 0 (by decide) (hts _ mx_X5_item_1) (fun _ h9 => h9) rfl dX5_item_1 ?_
    refine lv_iload_n hx hb dX5_item_4 rfl (lv_at hl 1 rfl) ?_
    refine nw_alk hx hb hK hP 1 3 rfl rfl 4 rfl (Nat.le_of_ble_eq_true rfl) (Nat.le_of_ble_eq_true rfl) hfi.2.2.2.2.1 dX5_item_5 ?_
    refine lv_iload_n hx hb dX5_item_6 rfl (lv_at hl 2 rfl) ?_
    refine va_iald hx hb hK hP 6 0 rfl rfl (vp_in_nI (by omega) (by omega)) dX5_item_7 ?_
    refine lv_topi (fun v_10 e_10 => ?_)
    have e_10 : v_10 = f4 k := e_10.trans (congrArg f4 (nI_clamp (by omega)))
    exact W.iret (v := v_10) hx hb hr (fun t ht hW => ⟨v_10, rfl, (lf_X5_item_5 hfi hj hk e_10), ht⟩) (fun _ h => by cases h) dX5_item_8
  · skip
    have hl : lv_has ls 3 [(0, .ref h), (1, .int 5), (2, .int (nI k))] := hl
    refine lv_aload_n hx hb dX5_item_0 rfl (lv_at hl 0 rfl) ?_
    refine va_get (D := (dC, dI)) (ci := 5) (v := .ref it) (C := RX5) (T := TX5) (N := 3) hx hb hts i_X5_item_X5 hown hK hP 0 rfl rfl 0 (by decide) (hts _ mx_X5_item_1) (fun _ h9 => h9) rfl dX5_item_1 ?_
    refine lv_iload_n hx hb dX5_item_4 rfl (lv_at hl 1 rfl) ?_
    refine nw_alk hx hb hK hP 1 3 rfl rfl 5 rfl (Nat.le_of_ble_eq_true rfl) (Nat.le_of_ble_eq_true rfl) hfi.2.2.2.2.2.1 dX5_item_5 ?_
    refine lv_iload_n hx hb dX5_item_6 rfl (lv_at hl 2 rfl) ?_
    refine va_iald hx hb hK hP 7 0 rfl rfl (vp_in_nI (by omega) (by omega)) dX5_item_7 ?_
    refine lv_topi (fun v_12 e_12 => ?_)
    have e_12 : v_12 = f5 k := e_12.trans (congrArg f5 (nI_clamp (by omega)))
    exact W.iret (v := v_12) hx hb hr (fun t ht hW => ⟨v_12, rfl, (lf_X5_item_6 hfi hj hk e_12), ht⟩) (fun _ h => by cases h) dX5_item_8
  · skip
    have hl : lv_has ls 3 [(0, .ref h), (1, .int 6), (2, .int (nI k))] := hl
    refine lv_aload_n hx hb dX5_item_0 rfl (lv_at hl 0 rfl) ?_
    refine va_get (D := (dC, dI)) (ci := 5) (v := .ref it) (C := RX5) (T := TX5) (N := 3) hx hb hts i_X5_item_X5 hown hK hP 0 rfl rfl 0 (by decide) (hts _ mx_X5_item_1) (fun _ h9 => h9) rfl dX5_item_1 ?_
    refine lv_iload_n hx hb dX5_item_4 rfl (lv_at hl 1 rfl) ?_
    refine nw_alk hx hb hK hP 1 3 rfl rfl 6 rfl (Nat.le_of_ble_eq_true rfl) (Nat.le_of_ble_eq_true rfl) hfi.2.2.2.2.2.2.1 dX5_item_5 ?_
    refine lv_iload_n hx hb dX5_item_6 rfl (lv_at hl 2 rfl) ?_
    refine va_iald hx hb hK hP 8 0 rfl rfl (vp_in_nI (by omega) (by omega)) dX5_item_7 ?_
    refine lv_topi (fun v_14 e_14 => ?_)
    have e_14 : v_14 = f6 k := e_14.trans (congrArg f6 (nI_clamp (by omega)))
    exact W.iret (v := v_14) hx hb hr (fun t ht hW => ⟨v_14, rfl, (lf_X5_item_7 hfi hj hk e_14), ht⟩) (fun _ h => by cases h) dX5_item_8
  · skip
    have hl : lv_has ls 3 [(0, .ref h), (1, .int 7), (2, .int (nI k))] := hl
    refine lv_aload_n hx hb dX5_item_0 rfl (lv_at hl 0 rfl) ?_
    refine va_get (D := (dC, dI)) (ci := 5) (v := .ref it) (C := RX5) (T := TX5) (N := 3) hx hb hts i_X5_item_X5 hown hK hP 0 rfl rfl 0 (by decide) (hts _ mx_X5_item_1) (fun _ h9 => h9) rfl dX5_item_1 ?_
    refine lv_iload_n hx hb dX5_item_4 rfl (lv_at hl 1 rfl) ?_
    refine nw_alk hx hb hK hP 1 3 rfl rfl 7 rfl (Nat.le_of_ble_eq_true rfl) (Nat.le_of_ble_eq_true rfl) hfi.2.2.2.2.2.2.2 dX5_item_5 ?_
    refine lv_iload_n hx hb dX5_item_6 rfl (lv_at hl 2 rfl) ?_
    refine va_iald hx hb hK hP 9 0 rfl rfl (vp_in_nI (by omega) (by omega)) dX5_item_7 ?_
    refine lv_topi (fun v_16 e_16 => ?_)
    have e_16 : v_16 = f7 k := e_16.trans (congrArg f7 (nI_clamp (by omega)))
    exact W.iret (v := v_16) hx hb hr (fun t ht hW => ⟨v_16, rfl, (lf_X5_item_8 hfi hj hk e_16), ht⟩) (fun _ h => by cases h) dX5_item_8
theorem lf_X5_put_1 {fl : Nat → Int32} {y0 : Nat} {y1 : Nat} {y2 : Nat} {y3 : Nat} {y4 : Nat} {y5 : Nat} {y6 : Nat} {y7 : Nat} {f0 : Nat → Int32} {f1 : Nat → Int32} {f2 : Nat → Int32} {f3 : Nat → Int32} {f4 : Nat → Int32} {f5 : Nat → Int32} {f6 : Nat → Int32} {f7 : Nat → Int32} {fi : Nat → Option Nat} {k : Nat} {v : Int32} {v_1 : Int32} {v_3 : Int32} {g_6 : Nat → Int32} (hfi : fi 0 = some y0 ∧ fi 1 = some y1 ∧ fi 2 = some y2 ∧ fi 3 = some y3 ∧ fi 4 = some y4 ∧ fi 5 = some y5 ∧ fi 6 = some y6 ∧ fi 7 = some y7) (hj : 0 < 8) (hk : k < 40) (e_1 : v_1 = fl 0) (c_2 : ¬ (v_1 = 0)) (e_3 : v_3 = fl 0) (c_4 : ¬ (v_3 = 1)) (hu_6 : g_6 = upd f0 k v) : (itX g_6 f1 f2 f3 f4 f5 f6 f7) = upI (itX f0 f1 f2 f3 f4 f5 f6 f7) 0 (upd ((itX f0 f1 f2 f3 f4 f5 f6 f7) 0) k (laneX (fl 0) v)) := by
  first
  | exact it_u0 hk (by assumption) (by unfold laneX; grind)
  | exact it_u1 hk (by assumption) (by unfold laneX; grind)
  | exact it_u2 hk (by assumption) (by unfold laneX; grind)
  | exact it_u3 hk (by assumption) (by unfold laneX; grind)
  | exact it_u4 hk (by assumption) (by unfold laneX; grind)
  | exact it_u5 hk (by assumption) (by unfold laneX; grind)
  | exact it_u6 hk (by assumption) (by unfold laneX; grind)
  | exact it_u7 hk (by assumption) (by unfold laneX; grind)
  | (unfold laneX; grind)
theorem lf_X5_put_2 {fl : Nat → Int32} {y0 : Nat} {y1 : Nat} {y2 : Nat} {y3 : Nat} {y4 : Nat} {y5 : Nat} {y6 : Nat} {y7 : Nat} {f0 : Nat → Int32} {fi : Nat → Option Nat} {k : Nat} {v : Int32} {v_1 : Int32} {v_3 : Int32} {g_6 : Nat → Int32} (hfi : fi 0 = some y0 ∧ fi 1 = some y1 ∧ fi 2 = some y2 ∧ fi 3 = some y3 ∧ fi 4 = some y4 ∧ fi 5 = some y5 ∧ fi 6 = some y6 ∧ fi 7 = some y7) (hj : 0 < 8) (hk : k < 40) (e_1 : v_1 = fl 0) (c_2 : ¬ (v_1 = 0)) (e_3 : v_3 = fl 0) (c_4 : ¬ (v_3 = 1)) (hu_6 : g_6 = upd f0 k v) : v = (laneX (fl 0) v) := by
  first
  | exact it_u0 hk (by assumption) (by unfold laneX; grind)
  | exact it_u1 hk (by assumption) (by unfold laneX; grind)
  | exact it_u2 hk (by assumption) (by unfold laneX; grind)
  | exact it_u3 hk (by assumption) (by unfold laneX; grind)
  | exact it_u4 hk (by assumption) (by unfold laneX; grind)
  | exact it_u5 hk (by assumption) (by unfold laneX; grind)
  | exact it_u6 hk (by assumption) (by unfold laneX; grind)
  | exact it_u7 hk (by assumption) (by unfold laneX; grind)
  | (unfold laneX; grind)
theorem lf_X5_put_3 {fl : Nat → Int32} {y0 : Nat} {y1 : Nat} {y2 : Nat} {y3 : Nat} {y4 : Nat} {y5 : Nat} {y6 : Nat} {y7 : Nat} {f0 : Nat → Int32} {f1 : Nat → Int32} {f2 : Nat → Int32} {f3 : Nat → Int32} {f4 : Nat → Int32} {f5 : Nat → Int32} {f6 : Nat → Int32} {f7 : Nat → Int32} {fi : Nat → Option Nat} {k : Nat} {v : Int32} {v_1 : Int32} {v_3 : Int32} {g_8 : Nat → Int32} (hfi : fi 0 = some y0 ∧ fi 1 = some y1 ∧ fi 2 = some y2 ∧ fi 3 = some y3 ∧ fi 4 = some y4 ∧ fi 5 = some y5 ∧ fi 6 = some y6 ∧ fi 7 = some y7) (hj : 1 < 8) (hk : k < 40) (e_1 : v_1 = fl 1) (c_2 : ¬ (v_1 = 0)) (e_3 : v_3 = fl 1) (c_4 : ¬ (v_3 = 1)) (hu_8 : g_8 = upd f1 k v) : (itX f0 g_8 f2 f3 f4 f5 f6 f7) = upI (itX f0 f1 f2 f3 f4 f5 f6 f7) 1 (upd ((itX f0 f1 f2 f3 f4 f5 f6 f7) 1) k (laneX (fl 1) v)) := by
  first
  | exact it_u0 hk (by assumption) (by unfold laneX; grind)
  | exact it_u1 hk (by assumption) (by unfold laneX; grind)
  | exact it_u2 hk (by assumption) (by unfold laneX; grind)
  | exact it_u3 hk (by assumption) (by unfold laneX; grind)
  | exact it_u4 hk (by assumption) (by unfold laneX; grind)
  | exact it_u5 hk (by assumption) (by unfold laneX; grind)
  | exact it_u6 hk (by assumption) (by unfold laneX; grind)
  | exact it_u7 hk (by assumption) (by unfold laneX; grind)
  | (unfold laneX; grind)
theorem lf_X5_put_4 {fl : Nat → Int32} {y0 : Nat} {y1 : Nat} {y2 : Nat} {y3 : Nat} {y4 : Nat} {y5 : Nat} {y6 : Nat} {y7 : Nat} {f1 : Nat → Int32} {fi : Nat → Option Nat} {k : Nat} {v : Int32} {v_1 : Int32} {v_3 : Int32} {g_8 : Nat → Int32} (hfi : fi 0 = some y0 ∧ fi 1 = some y1 ∧ fi 2 = some y2 ∧ fi 3 = some y3 ∧ fi 4 = some y4 ∧ fi 5 = some y5 ∧ fi 6 = some y6 ∧ fi 7 = some y7) (hj : 1 < 8) (hk : k < 40) (e_1 : v_1 = fl 1) (c_2 : ¬ (v_1 = 0)) (e_3 : v_3 = fl 1) (c_4 : ¬ (v_3 = 1)) (hu_8 : g_8 = upd f1 k v) : v = (laneX (fl 1) v) := by
  first
  | exact it_u0 hk (by assumption) (by unfold laneX; grind)
  | exact it_u1 hk (by assumption) (by unfold laneX; grind)
  | exact it_u2 hk (by assumption) (by unfold laneX; grind)
  | exact it_u3 hk (by assumption) (by unfold laneX; grind)
  | exact it_u4 hk (by assumption) (by unfold laneX; grind)
  | exact it_u5 hk (by assumption) (by unfold laneX; grind)
  | exact it_u6 hk (by assumption) (by unfold laneX; grind)
  | exact it_u7 hk (by assumption) (by unfold laneX; grind)
  | (unfold laneX; grind)
theorem lf_X5_put_5 {fl : Nat → Int32} {y0 : Nat} {y1 : Nat} {y2 : Nat} {y3 : Nat} {y4 : Nat} {y5 : Nat} {y6 : Nat} {y7 : Nat} {f0 : Nat → Int32} {f1 : Nat → Int32} {f2 : Nat → Int32} {f3 : Nat → Int32} {f4 : Nat → Int32} {f5 : Nat → Int32} {f6 : Nat → Int32} {f7 : Nat → Int32} {fi : Nat → Option Nat} {k : Nat} {v : Int32} {v_1 : Int32} {v_3 : Int32} {g_10 : Nat → Int32} (hfi : fi 0 = some y0 ∧ fi 1 = some y1 ∧ fi 2 = some y2 ∧ fi 3 = some y3 ∧ fi 4 = some y4 ∧ fi 5 = some y5 ∧ fi 6 = some y6 ∧ fi 7 = some y7) (hj : 2 < 8) (hk : k < 40) (e_1 : v_1 = fl 2) (c_2 : ¬ (v_1 = 0)) (e_3 : v_3 = fl 2) (c_4 : ¬ (v_3 = 1)) (hu_10 : g_10 = upd f2 k v) : (itX f0 f1 g_10 f3 f4 f5 f6 f7) = upI (itX f0 f1 f2 f3 f4 f5 f6 f7) 2 (upd ((itX f0 f1 f2 f3 f4 f5 f6 f7) 2) k (laneX (fl 2) v)) := by
  first
  | exact it_u0 hk (by assumption) (by unfold laneX; grind)
  | exact it_u1 hk (by assumption) (by unfold laneX; grind)
  | exact it_u2 hk (by assumption) (by unfold laneX; grind)
  | exact it_u3 hk (by assumption) (by unfold laneX; grind)
  | exact it_u4 hk (by assumption) (by unfold laneX; grind)
  | exact it_u5 hk (by assumption) (by unfold laneX; grind)
  | exact it_u6 hk (by assumption) (by unfold laneX; grind)
  | exact it_u7 hk (by assumption) (by unfold laneX; grind)
  | (unfold laneX; grind)
theorem lf_X5_put_6 {fl : Nat → Int32} {y0 : Nat} {y1 : Nat} {y2 : Nat} {y3 : Nat} {y4 : Nat} {y5 : Nat} {y6 : Nat} {y7 : Nat} {f2 : Nat → Int32} {fi : Nat → Option Nat} {k : Nat} {v : Int32} {v_1 : Int32} {v_3 : Int32} {g_10 : Nat → Int32} (hfi : fi 0 = some y0 ∧ fi 1 = some y1 ∧ fi 2 = some y2 ∧ fi 3 = some y3 ∧ fi 4 = some y4 ∧ fi 5 = some y5 ∧ fi 6 = some y6 ∧ fi 7 = some y7) (hj : 2 < 8) (hk : k < 40) (e_1 : v_1 = fl 2) (c_2 : ¬ (v_1 = 0)) (e_3 : v_3 = fl 2) (c_4 : ¬ (v_3 = 1)) (hu_10 : g_10 = upd f2 k v) : v = (laneX (fl 2) v) := by
  first
  | exact it_u0 hk (by assumption) (by unfold laneX; grind)
  | exact it_u1 hk (by assumption) (by unfold laneX; grind)
  | exact it_u2 hk (by assumption) (by unfold laneX; grind)
  | exact it_u3 hk (by assumption) (by unfold laneX; grind)
  | exact it_u4 hk (by assumption) (by unfold laneX; grind)
  | exact it_u5 hk (by assumption) (by unfold laneX; grind)
  | exact it_u6 hk (by assumption) (by unfold laneX; grind)
  | exact it_u7 hk (by assumption) (by unfold laneX; grind)
  | (unfold laneX; grind)
theorem lf_X5_put_7 {fl : Nat → Int32} {y0 : Nat} {y1 : Nat} {y2 : Nat} {y3 : Nat} {y4 : Nat} {y5 : Nat} {y6 : Nat} {y7 : Nat} {f0 : Nat → Int32} {f1 : Nat → Int32} {f2 : Nat → Int32} {f3 : Nat → Int32} {f4 : Nat → Int32} {f5 : Nat → Int32} {f6 : Nat → Int32} {f7 : Nat → Int32} {fi : Nat → Option Nat} {k : Nat} {v : Int32} {v_1 : Int32} {v_3 : Int32} {g_12 : Nat → Int32} (hfi : fi 0 = some y0 ∧ fi 1 = some y1 ∧ fi 2 = some y2 ∧ fi 3 = some y3 ∧ fi 4 = some y4 ∧ fi 5 = some y5 ∧ fi 6 = some y6 ∧ fi 7 = some y7) (hj : 3 < 8) (hk : k < 40) (e_1 : v_1 = fl 3) (c_2 : ¬ (v_1 = 0)) (e_3 : v_3 = fl 3) (c_4 : ¬ (v_3 = 1)) (hu_12 : g_12 = upd f3 k v) : (itX f0 f1 f2 g_12 f4 f5 f6 f7) = upI (itX f0 f1 f2 f3 f4 f5 f6 f7) 3 (upd ((itX f0 f1 f2 f3 f4 f5 f6 f7) 3) k (laneX (fl 3) v)) := by
  first
  | exact it_u0 hk (by assumption) (by unfold laneX; grind)
  | exact it_u1 hk (by assumption) (by unfold laneX; grind)
  | exact it_u2 hk (by assumption) (by unfold laneX; grind)
  | exact it_u3 hk (by assumption) (by unfold laneX; grind)
  | exact it_u4 hk (by assumption) (by unfold laneX; grind)
  | exact it_u5 hk (by assumption) (by unfold laneX; grind)
  | exact it_u6 hk (by assumption) (by unfold laneX; grind)
  | exact it_u7 hk (by assumption) (by unfold laneX; grind)
  | (unfold laneX; grind)
theorem lf_X5_put_8 {fl : Nat → Int32} {y0 : Nat} {y1 : Nat} {y2 : Nat} {y3 : Nat} {y4 : Nat} {y5 : Nat} {y6 : Nat} {y7 : Nat} {f3 : Nat → Int32} {fi : Nat → Option Nat} {k : Nat} {v : Int32} {v_1 : Int32} {v_3 : Int32} {g_12 : Nat → Int32} (hfi : fi 0 = some y0 ∧ fi 1 = some y1 ∧ fi 2 = some y2 ∧ fi 3 = some y3 ∧ fi 4 = some y4 ∧ fi 5 = some y5 ∧ fi 6 = some y6 ∧ fi 7 = some y7) (hj : 3 < 8) (hk : k < 40) (e_1 : v_1 = fl 3) (c_2 : ¬ (v_1 = 0)) (e_3 : v_3 = fl 3) (c_4 : ¬ (v_3 = 1)) (hu_12 : g_12 = upd f3 k v) : v = (laneX (fl 3) v) := by
  first
  | exact it_u0 hk (by assumption) (by unfold laneX; grind)
  | exact it_u1 hk (by assumption) (by unfold laneX; grind)
  | exact it_u2 hk (by assumption) (by unfold laneX; grind)
  | exact it_u3 hk (by assumption) (by unfold laneX; grind)
  | exact it_u4 hk (by assumption) (by unfold laneX; grind)
  | exact it_u5 hk (by assumption) (by unfold laneX; grind)
  | exact it_u6 hk (by assumption) (by unfold laneX; grind)
  | exact it_u7 hk (by assumption) (by unfold laneX; grind)
  | (unfold laneX; grind)
theorem lf_X5_put_9 {fl : Nat → Int32} {y0 : Nat} {y1 : Nat} {y2 : Nat} {y3 : Nat} {y4 : Nat} {y5 : Nat} {y6 : Nat} {y7 : Nat} {f0 : Nat → Int32} {f1 : Nat → Int32} {f2 : Nat → Int32} {f3 : Nat → Int32} {f4 : Nat → Int32} {f5 : Nat → Int32} {f6 : Nat → Int32} {f7 : Nat → Int32} {fi : Nat → Option Nat} {k : Nat} {v : Int32} {v_1 : Int32} {v_3 : Int32} {g_14 : Nat → Int32} (hfi : fi 0 = some y0 ∧ fi 1 = some y1 ∧ fi 2 = some y2 ∧ fi 3 = some y3 ∧ fi 4 = some y4 ∧ fi 5 = some y5 ∧ fi 6 = some y6 ∧ fi 7 = some y7) (hj : 4 < 8) (hk : k < 40) (e_1 : v_1 = fl 4) (c_2 : ¬ (v_1 = 0)) (e_3 : v_3 = fl 4) (c_4 : ¬ (v_3 = 1)) (hu_14 : g_14 = upd f4 k v) : (itX f0 f1 f2 f3 g_14 f5 f6 f7) = upI (itX f0 f1 f2 f3 f4 f5 f6 f7) 4 (upd ((itX f0 f1 f2 f3 f4 f5 f6 f7) 4) k (laneX (fl 4) v)) := by
  first
  | exact it_u0 hk (by assumption) (by unfold laneX; grind)
  | exact it_u1 hk (by assumption) (by unfold laneX; grind)
  | exact it_u2 hk (by assumption) (by unfold laneX; grind)
  | exact it_u3 hk (by assumption) (by unfold laneX; grind)
  | exact it_u4 hk (by assumption) (by unfold laneX; grind)
  | exact it_u5 hk (by assumption) (by unfold laneX; grind)
  | exact it_u6 hk (by assumption) (by unfold laneX; grind)
  | exact it_u7 hk (by assumption) (by unfold laneX; grind)
  | (unfold laneX; grind)
theorem lf_X5_put_10 {fl : Nat → Int32} {y0 : Nat} {y1 : Nat} {y2 : Nat} {y3 : Nat} {y4 : Nat} {y5 : Nat} {y6 : Nat} {y7 : Nat} {f4 : Nat → Int32} {fi : Nat → Option Nat} {k : Nat} {v : Int32} {v_1 : Int32} {v_3 : Int32} {g_14 : Nat → Int32} (hfi : fi 0 = some y0 ∧ fi 1 = some y1 ∧ fi 2 = some y2 ∧ fi 3 = some y3 ∧ fi 4 = some y4 ∧ fi 5 = some y5 ∧ fi 6 = some y6 ∧ fi 7 = some y7) (hj : 4 < 8) (hk : k < 40) (e_1 : v_1 = fl 4) (c_2 : ¬ (v_1 = 0)) (e_3 : v_3 = fl 4) (c_4 : ¬ (v_3 = 1)) (hu_14 : g_14 = upd f4 k v) : v = (laneX (fl 4) v) := by
  first
  | exact it_u0 hk (by assumption) (by unfold laneX; grind)
  | exact it_u1 hk (by assumption) (by unfold laneX; grind)
  | exact it_u2 hk (by assumption) (by unfold laneX; grind)
  | exact it_u3 hk (by assumption) (by unfold laneX; grind)
  | exact it_u4 hk (by assumption) (by unfold laneX; grind)
  | exact it_u5 hk (by assumption) (by unfold laneX; grind)
  | exact it_u6 hk (by assumption) (by unfold laneX; grind)
  | exact it_u7 hk (by assumption) (by unfold laneX; grind)
  | (unfold laneX; grind)
theorem lf_X5_put_11 {fl : Nat → Int32} {y0 : Nat} {y1 : Nat} {y2 : Nat} {y3 : Nat} {y4 : Nat} {y5 : Nat} {y6 : Nat} {y7 : Nat} {f0 : Nat → Int32} {f1 : Nat → Int32} {f2 : Nat → Int32} {f3 : Nat → Int32} {f4 : Nat → Int32} {f5 : Nat → Int32} {f6 : Nat → Int32} {f7 : Nat → Int32} {fi : Nat → Option Nat} {k : Nat} {v : Int32} {v_1 : Int32} {v_3 : Int32} {g_16 : Nat → Int32} (hfi : fi 0 = some y0 ∧ fi 1 = some y1 ∧ fi 2 = some y2 ∧ fi 3 = some y3 ∧ fi 4 = some y4 ∧ fi 5 = some y5 ∧ fi 6 = some y6 ∧ fi 7 = some y7) (hj : 5 < 8) (hk : k < 40) (e_1 : v_1 = fl 5) (c_2 : ¬ (v_1 = 0)) (e_3 : v_3 = fl 5) (c_4 : ¬ (v_3 = 1)) (hu_16 : g_16 = upd f5 k v) : (itX f0 f1 f2 f3 f4 g_16 f6 f7) = upI (itX f0 f1 f2 f3 f4 f5 f6 f7) 5 (upd ((itX f0 f1 f2 f3 f4 f5 f6 f7) 5) k (laneX (fl 5) v)) := by
  first
  | exact it_u0 hk (by assumption) (by unfold laneX; grind)
  | exact it_u1 hk (by assumption) (by unfold laneX; grind)
  | exact it_u2 hk (by assumption) (by unfold laneX; grind)
  | exact it_u3 hk (by assumption) (by unfold laneX; grind)
  | exact it_u4 hk (by assumption) (by unfold laneX; grind)
  | exact it_u5 hk (by assumption) (by unfold laneX; grind)
  | exact it_u6 hk (by assumption) (by unfold laneX; grind)
  | exact it_u7 hk (by assumption) (by unfold laneX; grind)
  | (unfold laneX; grind)
theorem lf_X5_put_12 {fl : Nat → Int32} {y0 : Nat} {y1 : Nat} {y2 : Nat} {y3 : Nat} {y4 : Nat} {y5 : Nat} {y6 : Nat} {y7 : Nat} {f5 : Nat → Int32} {fi : Nat → Option Nat} {k : Nat} {v : Int32} {v_1 : Int32} {v_3 : Int32} {g_16 : Nat → Int32} (hfi : fi 0 = some y0 ∧ fi 1 = some y1 ∧ fi 2 = some y2 ∧ fi 3 = some y3 ∧ fi 4 = some y4 ∧ fi 5 = some y5 ∧ fi 6 = some y6 ∧ fi 7 = some y7) (hj : 5 < 8) (hk : k < 40) (e_1 : v_1 = fl 5) (c_2 : ¬ (v_1 = 0)) (e_3 : v_3 = fl 5) (c_4 : ¬ (v_3 = 1)) (hu_16 : g_16 = upd f5 k v) : v = (laneX (fl 5) v) := by
  first
  | exact it_u0 hk (by assumption) (by unfold laneX; grind)
  | exact it_u1 hk (by assumption) (by unfold laneX; grind)
  | exact it_u2 hk (by assumption) (by unfold laneX; grind)
  | exact it_u3 hk (by assumption) (by unfold laneX; grind)
  | exact it_u4 hk (by assumption) (by unfold laneX; grind)
  | exact it_u5 hk (by assumption) (by unfold laneX; grind)
  | exact it_u6 hk (by assumption) (by unfold laneX; grind)
  | exact it_u7 hk (by assumption) (by unfold laneX; grind)
  | (unfold laneX; grind)
theorem lf_X5_put_13 {fl : Nat → Int32} {y0 : Nat} {y1 : Nat} {y2 : Nat} {y3 : Nat} {y4 : Nat} {y5 : Nat} {y6 : Nat} {y7 : Nat} {f0 : Nat → Int32} {f1 : Nat → Int32} {f2 : Nat → Int32} {f3 : Nat → Int32} {f4 : Nat → Int32} {f5 : Nat → Int32} {f6 : Nat → Int32} {f7 : Nat → Int32} {fi : Nat → Option Nat} {k : Nat} {v : Int32} {v_1 : Int32} {v_3 : Int32} {g_18 : Nat → Int32} (hfi : fi 0 = some y0 ∧ fi 1 = some y1 ∧ fi 2 = some y2 ∧ fi 3 = some y3 ∧ fi 4 = some y4 ∧ fi 5 = some y5 ∧ fi 6 = some y6 ∧ fi 7 = some y7) (hj : 6 < 8) (hk : k < 40) (e_1 : v_1 = fl 6) (c_2 : ¬ (v_1 = 0)) (e_3 : v_3 = fl 6) (c_4 : ¬ (v_3 = 1)) (hu_18 : g_18 = upd f6 k v) : (itX f0 f1 f2 f3 f4 f5 g_18 f7) = upI (itX f0 f1 f2 f3 f4 f5 f6 f7) 6 (upd ((itX f0 f1 f2 f3 f4 f5 f6 f7) 6) k (laneX (fl 6) v)) := by
  first
  | exact it_u0 hk (by assumption) (by unfold laneX; grind)
  | exact it_u1 hk (by assumption) (by unfold laneX; grind)
  | exact it_u2 hk (by assumption) (by unfold laneX; grind)
  | exact it_u3 hk (by assumption) (by unfold laneX; grind)
  | exact it_u4 hk (by assumption) (by unfold laneX; grind)
  | exact it_u5 hk (by assumption) (by unfold laneX; grind)
  | exact it_u6 hk (by assumption) (by unfold laneX; grind)
  | exact it_u7 hk (by assumption) (by unfold laneX; grind)
  | (unfold laneX; grind)
theorem lf_X5_put_14 {fl : Nat → Int32} {y0 : Nat} {y1 : Nat} {y2 : Nat} {y3 : Nat} {y4 : Nat} {y5 : Nat} {y6 : Nat} {y7 : Nat} {f6 : Nat → Int32} {fi : Nat → Option Nat} {k : Nat} {v : Int32} {v_1 : Int32} {v_3 : Int32} {g_18 : Nat → Int32} (hfi : fi 0 = some y0 ∧ fi 1 = some y1 ∧ fi 2 = some y2 ∧ fi 3 = some y3 ∧ fi 4 = some y4 ∧ fi 5 = some y5 ∧ fi 6 = some y6 ∧ fi 7 = some y7) (hj : 6 < 8) (hk : k < 40) (e_1 : v_1 = fl 6) (c_2 : ¬ (v_1 = 0)) (e_3 : v_3 = fl 6) (c_4 : ¬ (v_3 = 1)) (hu_18 : g_18 = upd f6 k v) : v = (laneX (fl 6) v) := by
  first
  | exact it_u0 hk (by assumption) (by unfold laneX; grind)
  | exact it_u1 hk (by assumption) (by unfold laneX; grind)
  | exact it_u2 hk (by assumption) (by unfold laneX; grind)
  | exact it_u3 hk (by assumption) (by unfold laneX; grind)
  | exact it_u4 hk (by assumption) (by unfold laneX; grind)
  | exact it_u5 hk (by assumption) (by unfold laneX; grind)
  | exact it_u6 hk (by assumption) (by unfold laneX; grind)
  | exact it_u7 hk (by assumption) (by unfold laneX; grind)
  | (unfold laneX; grind)
theorem lf_X5_put_15 {fl : Nat → Int32} {y0 : Nat} {y1 : Nat} {y2 : Nat} {y3 : Nat} {y4 : Nat} {y5 : Nat} {y6 : Nat} {y7 : Nat} {f0 : Nat → Int32} {f1 : Nat → Int32} {f2 : Nat → Int32} {f3 : Nat → Int32} {f4 : Nat → Int32} {f5 : Nat → Int32} {f6 : Nat → Int32} {f7 : Nat → Int32} {fi : Nat → Option Nat} {k : Nat} {v : Int32} {v_1 : Int32} {v_3 : Int32} {g_20 : Nat → Int32} (hfi : fi 0 = some y0 ∧ fi 1 = some y1 ∧ fi 2 = some y2 ∧ fi 3 = some y3 ∧ fi 4 = some y4 ∧ fi 5 = some y5 ∧ fi 6 = some y6 ∧ fi 7 = some y7) (hj : 7 < 8) (hk : k < 40) (e_1 : v_1 = fl 7) (c_2 : ¬ (v_1 = 0)) (e_3 : v_3 = fl 7) (c_4 : ¬ (v_3 = 1)) (hu_20 : g_20 = upd f7 k v) : (itX f0 f1 f2 f3 f4 f5 f6 g_20) = upI (itX f0 f1 f2 f3 f4 f5 f6 f7) 7 (upd ((itX f0 f1 f2 f3 f4 f5 f6 f7) 7) k (laneX (fl 7) v)) := by
  first
  | exact it_u0 hk (by assumption) (by unfold laneX; grind)
  | exact it_u1 hk (by assumption) (by unfold laneX; grind)
  | exact it_u2 hk (by assumption) (by unfold laneX; grind)
  | exact it_u3 hk (by assumption) (by unfold laneX; grind)
  | exact it_u4 hk (by assumption) (by unfold laneX; grind)
  | exact it_u5 hk (by assumption) (by unfold laneX; grind)
  | exact it_u6 hk (by assumption) (by unfold laneX; grind)
  | exact it_u7 hk (by assumption) (by unfold laneX; grind)
  | (unfold laneX; grind)
theorem lf_X5_put_16 {fl : Nat → Int32} {y0 : Nat} {y1 : Nat} {y2 : Nat} {y3 : Nat} {y4 : Nat} {y5 : Nat} {y6 : Nat} {y7 : Nat} {f7 : Nat → Int32} {fi : Nat → Option Nat} {k : Nat} {v : Int32} {v_1 : Int32} {v_3 : Int32} {g_20 : Nat → Int32} (hfi : fi 0 = some y0 ∧ fi 1 = some y1 ∧ fi 2 = some y2 ∧ fi 3 = some y3 ∧ fi 4 = some y4 ∧ fi 5 = some y5 ∧ fi 6 = some y6 ∧ fi 7 = some y7) (hj : 7 < 8) (hk : k < 40) (e_1 : v_1 = fl 7) (c_2 : ¬ (v_1 = 0)) (e_3 : v_3 = fl 7) (c_4 : ¬ (v_3 = 1)) (hu_20 : g_20 = upd f7 k v) : v = (laneX (fl 7) v) := by
  first
  | exact it_u0 hk (by assumption) (by unfold laneX; grind)
  | exact it_u1 hk (by assumption) (by unfold laneX; grind)
  | exact it_u2 hk (by assumption) (by unfold laneX; grind)
  | exact it_u3 hk (by assumption) (by unfold laneX; grind)
  | exact it_u4 hk (by assumption) (by unfold laneX; grind)
  | exact it_u5 hk (by assumption) (by unfold laneX; grind)
  | exact it_u6 hk (by assumption) (by unfold laneX; grind)
  | exact it_u7 hk (by assumption) (by unfold laneX; grind)
  | (unfold laneX; grind)
theorem lf_X5_put_17 {fl : Nat → Int32} {y0 : Nat} {y1 : Nat} {y2 : Nat} {y3 : Nat} {y4 : Nat} {y5 : Nat} {y6 : Nat} {y7 : Nat} {f0 : Nat → Int32} {f1 : Nat → Int32} {f2 : Nat → Int32} {f3 : Nat → Int32} {f4 : Nat → Int32} {f5 : Nat → Int32} {f6 : Nat → Int32} {f7 : Nat → Int32} {fi : Nat → Option Nat} {k : Nat} {v : Int32} {v_1 : Int32} {v_3 : Int32} {v_21 : Int32} {g_23 : Nat → Int32} (hfi : fi 0 = some y0 ∧ fi 1 = some y1 ∧ fi 2 = some y2 ∧ fi 3 = some y3 ∧ fi 4 = some y4 ∧ fi 5 = some y5 ∧ fi 6 = some y6 ∧ fi 7 = some y7) (hj : 0 < 8) (hk : k < 40) (e_1 : v_1 = fl 0) (c_2 : ¬ (v_1 = 0)) (e_3 : v_3 = fl 0) (c_4 : v_3 = 1) (e_21 : v_21 = (v).toInt16.toInt32) (hu_23 : g_23 = upd f0 k v_21) : (itX g_23 f1 f2 f3 f4 f5 f6 f7) = upI (itX f0 f1 f2 f3 f4 f5 f6 f7) 0 (upd ((itX f0 f1 f2 f3 f4 f5 f6 f7) 0) k (laneX (fl 0) v)) := by
  first
  | exact it_u0 hk (by assumption) (by unfold laneX; grind)
  | exact it_u1 hk (by assumption) (by unfold laneX; grind)
  | exact it_u2 hk (by assumption) (by unfold laneX; grind)
  | exact it_u3 hk (by assumption) (by unfold laneX; grind)
  | exact it_u4 hk (by assumption) (by unfold laneX; grind)
  | exact it_u5 hk (by assumption) (by unfold laneX; grind)
  | exact it_u6 hk (by assumption) (by unfold laneX; grind)
  | exact it_u7 hk (by assumption) (by unfold laneX; grind)
  | (unfold laneX; grind)
theorem lf_X5_put_18 {fl : Nat → Int32} {y0 : Nat} {y1 : Nat} {y2 : Nat} {y3 : Nat} {y4 : Nat} {y5 : Nat} {y6 : Nat} {y7 : Nat} {f0 : Nat → Int32} {fi : Nat → Option Nat} {k : Nat} {v : Int32} {v_1 : Int32} {v_3 : Int32} {v_21 : Int32} {g_23 : Nat → Int32} (hfi : fi 0 = some y0 ∧ fi 1 = some y1 ∧ fi 2 = some y2 ∧ fi 3 = some y3 ∧ fi 4 = some y4 ∧ fi 5 = some y5 ∧ fi 6 = some y6 ∧ fi 7 = some y7) (hj : 0 < 8) (hk : k < 40) (e_1 : v_1 = fl 0) (c_2 : ¬ (v_1 = 0)) (e_3 : v_3 = fl 0) (c_4 : v_3 = 1) (e_21 : v_21 = (v).toInt16.toInt32) (hu_23 : g_23 = upd f0 k v_21) : v_21 = (laneX (fl 0) v) := by
  first
  | exact it_u0 hk (by assumption) (by unfold laneX; grind)
  | exact it_u1 hk (by assumption) (by unfold laneX; grind)
  | exact it_u2 hk (by assumption) (by unfold laneX; grind)
  | exact it_u3 hk (by assumption) (by unfold laneX; grind)
  | exact it_u4 hk (by assumption) (by unfold laneX; grind)
  | exact it_u5 hk (by assumption) (by unfold laneX; grind)
  | exact it_u6 hk (by assumption) (by unfold laneX; grind)
  | exact it_u7 hk (by assumption) (by unfold laneX; grind)
  | (unfold laneX; grind)
theorem lf_X5_put_19 {fl : Nat → Int32} {y0 : Nat} {y1 : Nat} {y2 : Nat} {y3 : Nat} {y4 : Nat} {y5 : Nat} {y6 : Nat} {y7 : Nat} {f0 : Nat → Int32} {f1 : Nat → Int32} {f2 : Nat → Int32} {f3 : Nat → Int32} {f4 : Nat → Int32} {f5 : Nat → Int32} {f6 : Nat → Int32} {f7 : Nat → Int32} {fi : Nat → Option Nat} {k : Nat} {v : Int32} {v_1 : Int32} {v_3 : Int32} {v_21 : Int32} {g_25 : Nat → Int32} (hfi : fi 0 = some y0 ∧ fi 1 = some y1 ∧ fi 2 = some y2 ∧ fi 3 = some y3 ∧ fi 4 = some y4 ∧ fi 5 = some y5 ∧ fi 6 = some y6 ∧ fi 7 = some y7) (hj : 1 < 8) (hk : k < 40) (e_1 : v_1 = fl 1) (c_2 : ¬ (v_1 = 0)) (e_3 : v_3 = fl 1) (c_4 : v_3 = 1) (e_21 : v_21 = (v).toInt16.toInt32) (hu_25 : g_25 = upd f1 k v_21) : (itX f0 g_25 f2 f3 f4 f5 f6 f7) = upI (itX f0 f1 f2 f3 f4 f5 f6 f7) 1 (upd ((itX f0 f1 f2 f3 f4 f5 f6 f7) 1) k (laneX (fl 1) v)) := by
  first
  | exact it_u0 hk (by assumption) (by unfold laneX; grind)
  | exact it_u1 hk (by assumption) (by unfold laneX; grind)
  | exact it_u2 hk (by assumption) (by unfold laneX; grind)
  | exact it_u3 hk (by assumption) (by unfold laneX; grind)
  | exact it_u4 hk (by assumption) (by unfold laneX; grind)
  | exact it_u5 hk (by assumption) (by unfold laneX; grind)
  | exact it_u6 hk (by assumption) (by unfold laneX; grind)
  | exact it_u7 hk (by assumption) (by unfold laneX; grind)
  | (unfold laneX; grind)
theorem lf_X5_put_20 {fl : Nat → Int32} {y0 : Nat} {y1 : Nat} {y2 : Nat} {y3 : Nat} {y4 : Nat} {y5 : Nat} {y6 : Nat} {y7 : Nat} {f1 : Nat → Int32} {fi : Nat → Option Nat} {k : Nat} {v : Int32} {v_1 : Int32} {v_3 : Int32} {v_21 : Int32} {g_25 : Nat → Int32} (hfi : fi 0 = some y0 ∧ fi 1 = some y1 ∧ fi 2 = some y2 ∧ fi 3 = some y3 ∧ fi 4 = some y4 ∧ fi 5 = some y5 ∧ fi 6 = some y6 ∧ fi 7 = some y7) (hj : 1 < 8) (hk : k < 40) (e_1 : v_1 = fl 1) (c_2 : ¬ (v_1 = 0)) (e_3 : v_3 = fl 1) (c_4 : v_3 = 1) (e_21 : v_21 = (v).toInt16.toInt32) (hu_25 : g_25 = upd f1 k v_21) : v_21 = (laneX (fl 1) v) := by
  first
  | exact it_u0 hk (by assumption) (by unfold laneX; grind)
  | exact it_u1 hk (by assumption) (by unfold laneX; grind)
  | exact it_u2 hk (by assumption) (by unfold laneX; grind)
  | exact it_u3 hk (by assumption) (by unfold laneX; grind)
  | exact it_u4 hk (by assumption) (by unfold laneX; grind)
  | exact it_u5 hk (by assumption) (by unfold laneX; grind)
  | exact it_u6 hk (by assumption) (by unfold laneX; grind)
  | exact it_u7 hk (by assumption) (by unfold laneX; grind)
  | (unfold laneX; grind)
theorem lf_X5_put_21 {fl : Nat → Int32} {y0 : Nat} {y1 : Nat} {y2 : Nat} {y3 : Nat} {y4 : Nat} {y5 : Nat} {y6 : Nat} {y7 : Nat} {f0 : Nat → Int32} {f1 : Nat → Int32} {f2 : Nat → Int32} {f3 : Nat → Int32} {f4 : Nat → Int32} {f5 : Nat → Int32} {f6 : Nat → Int32} {f7 : Nat → Int32} {fi : Nat → Option Nat} {k : Nat} {v : Int32} {v_1 : Int32} {v_3 : Int32} {v_21 : Int32} {g_27 : Nat → Int32} (hfi : fi 0 = some y0 ∧ fi 1 = some y1 ∧ fi 2 = some y2 ∧ fi 3 = some y3 ∧ fi 4 = some y4 ∧ fi 5 = some y5 ∧ fi 6 = some y6 ∧ fi 7 = some y7) (hj : 2 < 8) (hk : k < 40) (e_1 : v_1 = fl 2) (c_2 : ¬ (v_1 = 0)) (e_3 : v_3 = fl 2) (c_4 : v_3 = 1) (e_21 : v_21 = (v).toInt16.toInt32) (hu_27 : g_27 = upd f2 k v_21) : (itX f0 f1 g_27 f3 f4 f5 f6 f7) = upI (itX f0 f1 f2 f3 f4 f5 f6 f7) 2 (upd ((itX f0 f1 f2 f3 f4 f5 f6 f7) 2) k (laneX (fl 2) v)) := by
  first
  | exact it_u0 hk (by assumption) (by unfold laneX; grind)
  | exact it_u1 hk (by assumption) (by unfold laneX; grind)
  | exact it_u2 hk (by assumption) (by unfold laneX; grind)
  | exact it_u3 hk (by assumption) (by unfold laneX; grind)
  | exact it_u4 hk (by assumption) (by unfold laneX; grind)
  | exact it_u5 hk (by assumption) (by unfold laneX; grind)
  | exact it_u6 hk (by assumption) (by unfold laneX; grind)
  | exact it_u7 hk (by assumption) (by unfold laneX; grind)
  | (unfold laneX; grind)
theorem lf_X5_put_22 {fl : Nat → Int32} {y0 : Nat} {y1 : Nat} {y2 : Nat} {y3 : Nat} {y4 : Nat} {y5 : Nat} {y6 : Nat} {y7 : Nat} {f2 : Nat → Int32} {fi : Nat → Option Nat} {k : Nat} {v : Int32} {v_1 : Int32} {v_3 : Int32} {v_21 : Int32} {g_27 : Nat → Int32} (hfi : fi 0 = some y0 ∧ fi 1 = some y1 ∧ fi 2 = some y2 ∧ fi 3 = some y3 ∧ fi 4 = some y4 ∧ fi 5 = some y5 ∧ fi 6 = some y6 ∧ fi 7 = some y7) (hj : 2 < 8) (hk : k < 40) (e_1 : v_1 = fl 2) (c_2 : ¬ (v_1 = 0)) (e_3 : v_3 = fl 2) (c_4 : v_3 = 1) (e_21 : v_21 = (v).toInt16.toInt32) (hu_27 : g_27 = upd f2 k v_21) : v_21 = (laneX (fl 2) v) := by
  first
  | exact it_u0 hk (by assumption) (by unfold laneX; grind)
  | exact it_u1 hk (by assumption) (by unfold laneX; grind)
  | exact it_u2 hk (by assumption) (by unfold laneX; grind)
  | exact it_u3 hk (by assumption) (by unfold laneX; grind)
  | exact it_u4 hk (by assumption) (by unfold laneX; grind)
  | exact it_u5 hk (by assumption) (by unfold laneX; grind)
  | exact it_u6 hk (by assumption) (by unfold laneX; grind)
  | exact it_u7 hk (by assumption) (by unfold laneX; grind)
  | (unfold laneX; grind)
theorem lf_X5_put_23 {fl : Nat → Int32} {y0 : Nat} {y1 : Nat} {y2 : Nat} {y3 : Nat} {y4 : Nat} {y5 : Nat} {y6 : Nat} {y7 : Nat} {f0 : Nat → Int32} {f1 : Nat → Int32} {f2 : Nat → Int32} {f3 : Nat → Int32} {f4 : Nat → Int32} {f5 : Nat → Int32} {f6 : Nat → Int32} {f7 : Nat → Int32} {fi : Nat → Option Nat} {k : Nat} {v : Int32} {v_1 : Int32} {v_3 : Int32} {v_21 : Int32} {g_29 : Nat → Int32} (hfi : fi 0 = some y0 ∧ fi 1 = some y1 ∧ fi 2 = some y2 ∧ fi 3 = some y3 ∧ fi 4 = some y4 ∧ fi 5 = some y5 ∧ fi 6 = some y6 ∧ fi 7 = some y7) (hj : 3 < 8) (hk : k < 40) (e_1 : v_1 = fl 3) (c_2 : ¬ (v_1 = 0)) (e_3 : v_3 = fl 3) (c_4 : v_3 = 1) (e_21 : v_21 = (v).toInt16.toInt32) (hu_29 : g_29 = upd f3 k v_21) : (itX f0 f1 f2 g_29 f4 f5 f6 f7) = upI (itX f0 f1 f2 f3 f4 f5 f6 f7) 3 (upd ((itX f0 f1 f2 f3 f4 f5 f6 f7) 3) k (laneX (fl 3) v)) := by
  first
  | exact it_u0 hk (by assumption) (by unfold laneX; grind)
  | exact it_u1 hk (by assumption) (by unfold laneX; grind)
  | exact it_u2 hk (by assumption) (by unfold laneX; grind)
  | exact it_u3 hk (by assumption) (by unfold laneX; grind)
  | exact it_u4 hk (by assumption) (by unfold laneX; grind)
  | exact it_u5 hk (by assumption) (by unfold laneX; grind)
  | exact it_u6 hk (by assumption) (by unfold laneX; grind)
  | exact it_u7 hk (by assumption) (by unfold laneX; grind)
  | (unfold laneX; grind)
theorem lf_X5_put_24 {fl : Nat → Int32} {y0 : Nat} {y1 : Nat} {y2 : Nat} {y3 : Nat} {y4 : Nat} {y5 : Nat} {y6 : Nat} {y7 : Nat} {f3 : Nat → Int32} {fi : Nat → Option Nat} {k : Nat} {v : Int32} {v_1 : Int32} {v_3 : Int32} {v_21 : Int32} {g_29 : Nat → Int32} (hfi : fi 0 = some y0 ∧ fi 1 = some y1 ∧ fi 2 = some y2 ∧ fi 3 = some y3 ∧ fi 4 = some y4 ∧ fi 5 = some y5 ∧ fi 6 = some y6 ∧ fi 7 = some y7) (hj : 3 < 8) (hk : k < 40) (e_1 : v_1 = fl 3) (c_2 : ¬ (v_1 = 0)) (e_3 : v_3 = fl 3) (c_4 : v_3 = 1) (e_21 : v_21 = (v).toInt16.toInt32) (hu_29 : g_29 = upd f3 k v_21) : v_21 = (laneX (fl 3) v) := by
  first
  | exact it_u0 hk (by assumption) (by unfold laneX; grind)
  | exact it_u1 hk (by assumption) (by unfold laneX; grind)
  | exact it_u2 hk (by assumption) (by unfold laneX; grind)
  | exact it_u3 hk (by assumption) (by unfold laneX; grind)
  | exact it_u4 hk (by assumption) (by unfold laneX; grind)
  | exact it_u5 hk (by assumption) (by unfold laneX; grind)
  | exact it_u6 hk (by assumption) (by unfold laneX; grind)
  | exact it_u7 hk (by assumption) (by unfold laneX; grind)
  | (unfold laneX; grind)
theorem lf_X5_put_25 {fl : Nat → Int32} {y0 : Nat} {y1 : Nat} {y2 : Nat} {y3 : Nat} {y4 : Nat} {y5 : Nat} {y6 : Nat} {y7 : Nat} {f0 : Nat → Int32} {f1 : Nat → Int32} {f2 : Nat → Int32} {f3 : Nat → Int32} {f4 : Nat → Int32} {f5 : Nat → Int32} {f6 : Nat → Int32} {f7 : Nat → Int32} {fi : Nat → Option Nat} {k : Nat} {v : Int32} {v_1 : Int32} {v_3 : Int32} {v_21 : Int32} {g_31 : Nat → Int32} (hfi : fi 0 = some y0 ∧ fi 1 = some y1 ∧ fi 2 = some y2 ∧ fi 3 = some y3 ∧ fi 4 = some y4 ∧ fi 5 = some y5 ∧ fi 6 = some y6 ∧ fi 7 = some y7) (hj : 4 < 8) (hk : k < 40) (e_1 : v_1 = fl 4) (c_2 : ¬ (v_1 = 0)) (e_3 : v_3 = fl 4) (c_4 : v_3 = 1) (e_21 : v_21 = (v).toInt16.toInt32) (hu_31 : g_31 = upd f4 k v_21) : (itX f0 f1 f2 f3 g_31 f5 f6 f7) = upI (itX f0 f1 f2 f3 f4 f5 f6 f7) 4 (upd ((itX f0 f1 f2 f3 f4 f5 f6 f7) 4) k (laneX (fl 4) v)) := by
  first
  | exact it_u0 hk (by assumption) (by unfold laneX; grind)
  | exact it_u1 hk (by assumption) (by unfold laneX; grind)
  | exact it_u2 hk (by assumption) (by unfold laneX; grind)
  | exact it_u3 hk (by assumption) (by unfold laneX; grind)
  | exact it_u4 hk (by assumption) (by unfold laneX; grind)
  | exact it_u5 hk (by assumption) (by unfold laneX; grind)
  | exact it_u6 hk (by assumption) (by unfold laneX; grind)
  | exact it_u7 hk (by assumption) (by unfold laneX; grind)
  | (unfold laneX; grind)
theorem lf_X5_put_26 {fl : Nat → Int32} {y0 : Nat} {y1 : Nat} {y2 : Nat} {y3 : Nat} {y4 : Nat} {y5 : Nat} {y6 : Nat} {y7 : Nat} {f4 : Nat → Int32} {fi : Nat → Option Nat} {k : Nat} {v : Int32} {v_1 : Int32} {v_3 : Int32} {v_21 : Int32} {g_31 : Nat → Int32} (hfi : fi 0 = some y0 ∧ fi 1 = some y1 ∧ fi 2 = some y2 ∧ fi 3 = some y3 ∧ fi 4 = some y4 ∧ fi 5 = some y5 ∧ fi 6 = some y6 ∧ fi 7 = some y7) (hj : 4 < 8) (hk : k < 40) (e_1 : v_1 = fl 4) (c_2 : ¬ (v_1 = 0)) (e_3 : v_3 = fl 4) (c_4 : v_3 = 1) (e_21 : v_21 = (v).toInt16.toInt32) (hu_31 : g_31 = upd f4 k v_21) : v_21 = (laneX (fl 4) v) := by
  first
  | exact it_u0 hk (by assumption) (by unfold laneX; grind)
  | exact it_u1 hk (by assumption) (by unfold laneX; grind)
  | exact it_u2 hk (by assumption) (by unfold laneX; grind)
  | exact it_u3 hk (by assumption) (by unfold laneX; grind)
  | exact it_u4 hk (by assumption) (by unfold laneX; grind)
  | exact it_u5 hk (by assumption) (by unfold laneX; grind)
  | exact it_u6 hk (by assumption) (by unfold laneX; grind)
  | exact it_u7 hk (by assumption) (by unfold laneX; grind)
  | (unfold laneX; grind)
theorem lf_X5_put_27 {fl : Nat → Int32} {y0 : Nat} {y1 : Nat} {y2 : Nat} {y3 : Nat} {y4 : Nat} {y5 : Nat} {y6 : Nat} {y7 : Nat} {f0 : Nat → Int32} {f1 : Nat → Int32} {f2 : Nat → Int32} {f3 : Nat → Int32} {f4 : Nat → Int32} {f5 : Nat → Int32} {f6 : Nat → Int32} {f7 : Nat → Int32} {fi : Nat → Option Nat} {k : Nat} {v : Int32} {v_1 : Int32} {v_3 : Int32} {v_21 : Int32} {g_33 : Nat → Int32} (hfi : fi 0 = some y0 ∧ fi 1 = some y1 ∧ fi 2 = some y2 ∧ fi 3 = some y3 ∧ fi 4 = some y4 ∧ fi 5 = some y5 ∧ fi 6 = some y6 ∧ fi 7 = some y7) (hj : 5 < 8) (hk : k < 40) (e_1 : v_1 = fl 5) (c_2 : ¬ (v_1 = 0)) (e_3 : v_3 = fl 5) (c_4 : v_3 = 1) (e_21 : v_21 = (v).toInt16.toInt32) (hu_33 : g_33 = upd f5 k v_21) : (itX f0 f1 f2 f3 f4 g_33 f6 f7) = upI (itX f0 f1 f2 f3 f4 f5 f6 f7) 5 (upd ((itX f0 f1 f2 f3 f4 f5 f6 f7) 5) k (laneX (fl 5) v)) := by
  first
  | exact it_u0 hk (by assumption) (by unfold laneX; grind)
  | exact it_u1 hk (by assumption) (by unfold laneX; grind)
  | exact it_u2 hk (by assumption) (by unfold laneX; grind)
  | exact it_u3 hk (by assumption) (by unfold laneX; grind)
  | exact it_u4 hk (by assumption) (by unfold laneX; grind)
  | exact it_u5 hk (by assumption) (by unfold laneX; grind)
  | exact it_u6 hk (by assumption) (by unfold laneX; grind)
  | exact it_u7 hk (by assumption) (by unfold laneX; grind)
  | (unfold laneX; grind)
theorem lf_X5_put_28 {fl : Nat → Int32} {y0 : Nat} {y1 : Nat} {y2 : Nat} {y3 : Nat} {y4 : Nat} {y5 : Nat} {y6 : Nat} {y7 : Nat} {f5 : Nat → Int32} {fi : Nat → Option Nat} {k : Nat} {v : Int32} {v_1 : Int32} {v_3 : Int32} {v_21 : Int32} {g_33 : Nat → Int32} (hfi : fi 0 = some y0 ∧ fi 1 = some y1 ∧ fi 2 = some y2 ∧ fi 3 = some y3 ∧ fi 4 = some y4 ∧ fi 5 = some y5 ∧ fi 6 = some y6 ∧ fi 7 = some y7) (hj : 5 < 8) (hk : k < 40) (e_1 : v_1 = fl 5) (c_2 : ¬ (v_1 = 0)) (e_3 : v_3 = fl 5) (c_4 : v_3 = 1) (e_21 : v_21 = (v).toInt16.toInt32) (hu_33 : g_33 = upd f5 k v_21) : v_21 = (laneX (fl 5) v) := by
  first
  | exact it_u0 hk (by assumption) (by unfold laneX; grind)
  | exact it_u1 hk (by assumption) (by unfold laneX; grind)
  | exact it_u2 hk (by assumption) (by unfold laneX; grind)
  | exact it_u3 hk (by assumption) (by unfold laneX; grind)
  | exact it_u4 hk (by assumption) (by unfold laneX; grind)
  | exact it_u5 hk (by assumption) (by unfold laneX; grind)
  | exact it_u6 hk (by assumption) (by unfold laneX; grind)
  | exact it_u7 hk (by assumption) (by unfold laneX; grind)
  | (unfold laneX; grind)
theorem lf_X5_put_29 {fl : Nat → Int32} {y0 : Nat} {y1 : Nat} {y2 : Nat} {y3 : Nat} {y4 : Nat} {y5 : Nat} {y6 : Nat} {y7 : Nat} {f0 : Nat → Int32} {f1 : Nat → Int32} {f2 : Nat → Int32} {f3 : Nat → Int32} {f4 : Nat → Int32} {f5 : Nat → Int32} {f6 : Nat → Int32} {f7 : Nat → Int32} {fi : Nat → Option Nat} {k : Nat} {v : Int32} {v_1 : Int32} {v_3 : Int32} {v_21 : Int32} {g_35 : Nat → Int32} (hfi : fi 0 = some y0 ∧ fi 1 = some y1 ∧ fi 2 = some y2 ∧ fi 3 = some y3 ∧ fi 4 = some y4 ∧ fi 5 = some y5 ∧ fi 6 = some y6 ∧ fi 7 = some y7) (hj : 6 < 8) (hk : k < 40) (e_1 : v_1 = fl 6) (c_2 : ¬ (v_1 = 0)) (e_3 : v_3 = fl 6) (c_4 : v_3 = 1) (e_21 : v_21 = (v).toInt16.toInt32) (hu_35 : g_35 = upd f6 k v_21) : (itX f0 f1 f2 f3 f4 f5 g_35 f7) = upI (itX f0 f1 f2 f3 f4 f5 f6 f7) 6 (upd ((itX f0 f1 f2 f3 f4 f5 f6 f7) 6) k (laneX (fl 6) v)) := by
  first
  | exact it_u0 hk (by assumption) (by unfold laneX; grind)
  | exact it_u1 hk (by assumption) (by unfold laneX; grind)
  | exact it_u2 hk (by assumption) (by unfold laneX; grind)
  | exact it_u3 hk (by assumption) (by unfold laneX; grind)
  | exact it_u4 hk (by assumption) (by unfold laneX; grind)
  | exact it_u5 hk (by assumption) (by unfold laneX; grind)
  | exact it_u6 hk (by assumption) (by unfold laneX; grind)
  | exact it_u7 hk (by assumption) (by unfold laneX; grind)
  | (unfold laneX; grind)
theorem lf_X5_put_30 {fl : Nat → Int32} {y0 : Nat} {y1 : Nat} {y2 : Nat} {y3 : Nat} {y4 : Nat} {y5 : Nat} {y6 : Nat} {y7 : Nat} {f6 : Nat → Int32} {fi : Nat → Option Nat} {k : Nat} {v : Int32} {v_1 : Int32} {v_3 : Int32} {v_21 : Int32} {g_35 : Nat → Int32} (hfi : fi 0 = some y0 ∧ fi 1 = some y1 ∧ fi 2 = some y2 ∧ fi 3 = some y3 ∧ fi 4 = some y4 ∧ fi 5 = some y5 ∧ fi 6 = some y6 ∧ fi 7 = some y7) (hj : 6 < 8) (hk : k < 40) (e_1 : v_1 = fl 6) (c_2 : ¬ (v_1 = 0)) (e_3 : v_3 = fl 6) (c_4 : v_3 = 1) (e_21 : v_21 = (v).toInt16.toInt32) (hu_35 : g_35 = upd f6 k v_21) : v_21 = (laneX (fl 6) v) := by
  first
  | exact it_u0 hk (by assumption) (by unfold laneX; grind)
  | exact it_u1 hk (by assumption) (by unfold laneX; grind)
  | exact it_u2 hk (by assumption) (by unfold laneX; grind)
  | exact it_u3 hk (by assumption) (by unfold laneX; grind)
  | exact it_u4 hk (by assumption) (by unfold laneX; grind)
  | exact it_u5 hk (by assumption) (by unfold laneX; grind)
  | exact it_u6 hk (by assumption) (by unfold laneX; grind)
  | exact it_u7 hk (by assumption) (by unfold laneX; grind)
  | (unfold laneX; grind)
theorem lf_X5_put_31 {fl : Nat → Int32} {y0 : Nat} {y1 : Nat} {y2 : Nat} {y3 : Nat} {y4 : Nat} {y5 : Nat} {y6 : Nat} {y7 : Nat} {f0 : Nat → Int32} {f1 : Nat → Int32} {f2 : Nat → Int32} {f3 : Nat → Int32} {f4 : Nat → Int32} {f5 : Nat → Int32} {f6 : Nat → Int32} {f7 : Nat → Int32} {fi : Nat → Option Nat} {k : Nat} {v : Int32} {v_1 : Int32} {v_3 : Int32} {v_21 : Int32} {g_37 : Nat → Int32} (hfi : fi 0 = some y0 ∧ fi 1 = some y1 ∧ fi 2 = some y2 ∧ fi 3 = some y3 ∧ fi 4 = some y4 ∧ fi 5 = some y5 ∧ fi 6 = some y6 ∧ fi 7 = some y7) (hj : 7 < 8) (hk : k < 40) (e_1 : v_1 = fl 7) (c_2 : ¬ (v_1 = 0)) (e_3 : v_3 = fl 7) (c_4 : v_3 = 1) (e_21 : v_21 = (v).toInt16.toInt32) (hu_37 : g_37 = upd f7 k v_21) : (itX f0 f1 f2 f3 f4 f5 f6 g_37) = upI (itX f0 f1 f2 f3 f4 f5 f6 f7) 7 (upd ((itX f0 f1 f2 f3 f4 f5 f6 f7) 7) k (laneX (fl 7) v)) := by
  first
  | exact it_u0 hk (by assumption) (by unfold laneX; grind)
  | exact it_u1 hk (by assumption) (by unfold laneX; grind)
  | exact it_u2 hk (by assumption) (by unfold laneX; grind)
  | exact it_u3 hk (by assumption) (by unfold laneX; grind)
  | exact it_u4 hk (by assumption) (by unfold laneX; grind)
  | exact it_u5 hk (by assumption) (by unfold laneX; grind)
  | exact it_u6 hk (by assumption) (by unfold laneX; grind)
  | exact it_u7 hk (by assumption) (by unfold laneX; grind)
  | (unfold laneX; grind)
theorem lf_X5_put_32 {fl : Nat → Int32} {y0 : Nat} {y1 : Nat} {y2 : Nat} {y3 : Nat} {y4 : Nat} {y5 : Nat} {y6 : Nat} {y7 : Nat} {f7 : Nat → Int32} {fi : Nat → Option Nat} {k : Nat} {v : Int32} {v_1 : Int32} {v_3 : Int32} {v_21 : Int32} {g_37 : Nat → Int32} (hfi : fi 0 = some y0 ∧ fi 1 = some y1 ∧ fi 2 = some y2 ∧ fi 3 = some y3 ∧ fi 4 = some y4 ∧ fi 5 = some y5 ∧ fi 6 = some y6 ∧ fi 7 = some y7) (hj : 7 < 8) (hk : k < 40) (e_1 : v_1 = fl 7) (c_2 : ¬ (v_1 = 0)) (e_3 : v_3 = fl 7) (c_4 : v_3 = 1) (e_21 : v_21 = (v).toInt16.toInt32) (hu_37 : g_37 = upd f7 k v_21) : v_21 = (laneX (fl 7) v) := by
  first
  | exact it_u0 hk (by assumption) (by unfold laneX; grind)
  | exact it_u1 hk (by assumption) (by unfold laneX; grind)
  | exact it_u2 hk (by assumption) (by unfold laneX; grind)
  | exact it_u3 hk (by assumption) (by unfold laneX; grind)
  | exact it_u4 hk (by assumption) (by unfold laneX; grind)
  | exact it_u5 hk (by assumption) (by unfold laneX; grind)
  | exact it_u6 hk (by assumption) (by unfold laneX; grind)
  | exact it_u7 hk (by assumption) (by unfold laneX; grind)
  | (unfold laneX; grind)
theorem lf_X5_put_33 {fl : Nat → Int32} {y0 : Nat} {y1 : Nat} {y2 : Nat} {y3 : Nat} {y4 : Nat} {y5 : Nat} {y6 : Nat} {y7 : Nat} {f0 : Nat → Int32} {f1 : Nat → Int32} {f2 : Nat → Int32} {f3 : Nat → Int32} {f4 : Nat → Int32} {f5 : Nat → Int32} {f6 : Nat → Int32} {f7 : Nat → Int32} {fi : Nat → Option Nat} {k : Nat} {v : Int32} {v_1 : Int32} {v_38 : Int32} {g_40 : Nat → Int32} (hfi : fi 0 = some y0 ∧ fi 1 = some y1 ∧ fi 2 = some y2 ∧ fi 3 = some y3 ∧ fi 4 = some y4 ∧ fi 5 = some y5 ∧ fi 6 = some y6 ∧ fi 7 = some y7) (hj : 0 < 8) (hk : k < 40) (e_1 : v_1 = fl 0) (c_2 : v_1 = 0) (e_38 : v_38 = (v).toInt8.toInt32) (hu_40 : g_40 = upd f0 k v_38) : (itX g_40 f1 f2 f3 f4 f5 f6 f7) = upI (itX f0 f1 f2 f3 f4 f5 f6 f7) 0 (upd ((itX f0 f1 f2 f3 f4 f5 f6 f7) 0) k (laneX (fl 0) v)) := by
  first
  | exact it_u0 hk (by assumption) (by unfold laneX; grind)
  | exact it_u1 hk (by assumption) (by unfold laneX; grind)
  | exact it_u2 hk (by assumption) (by unfold laneX; grind)
  | exact it_u3 hk (by assumption) (by unfold laneX; grind)
  | exact it_u4 hk (by assumption) (by unfold laneX; grind)
  | exact it_u5 hk (by assumption) (by unfold laneX; grind)
  | exact it_u6 hk (by assumption) (by unfold laneX; grind)
  | exact it_u7 hk (by assumption) (by unfold laneX; grind)
  | (unfold laneX; grind)
theorem lf_X5_put_34 {fl : Nat → Int32} {y0 : Nat} {y1 : Nat} {y2 : Nat} {y3 : Nat} {y4 : Nat} {y5 : Nat} {y6 : Nat} {y7 : Nat} {f0 : Nat → Int32} {fi : Nat → Option Nat} {k : Nat} {v : Int32} {v_1 : Int32} {v_38 : Int32} {g_40 : Nat → Int32} (hfi : fi 0 = some y0 ∧ fi 1 = some y1 ∧ fi 2 = some y2 ∧ fi 3 = some y3 ∧ fi 4 = some y4 ∧ fi 5 = some y5 ∧ fi 6 = some y6 ∧ fi 7 = some y7) (hj : 0 < 8) (hk : k < 40) (e_1 : v_1 = fl 0) (c_2 : v_1 = 0) (e_38 : v_38 = (v).toInt8.toInt32) (hu_40 : g_40 = upd f0 k v_38) : v_38 = (laneX (fl 0) v) := by
  first
  | exact it_u0 hk (by assumption) (by unfold laneX; grind)
  | exact it_u1 hk (by assumption) (by unfold laneX; grind)
  | exact it_u2 hk (by assumption) (by unfold laneX; grind)
  | exact it_u3 hk (by assumption) (by unfold laneX; grind)
  | exact it_u4 hk (by assumption) (by unfold laneX; grind)
  | exact it_u5 hk (by assumption) (by unfold laneX; grind)
  | exact it_u6 hk (by assumption) (by unfold laneX; grind)
  | exact it_u7 hk (by assumption) (by unfold laneX; grind)
  | (unfold laneX; grind)
theorem lf_X5_put_35 {fl : Nat → Int32} {y0 : Nat} {y1 : Nat} {y2 : Nat} {y3 : Nat} {y4 : Nat} {y5 : Nat} {y6 : Nat} {y7 : Nat} {f0 : Nat → Int32} {f1 : Nat → Int32} {f2 : Nat → Int32} {f3 : Nat → Int32} {f4 : Nat → Int32} {f5 : Nat → Int32} {f6 : Nat → Int32} {f7 : Nat → Int32} {fi : Nat → Option Nat} {k : Nat} {v : Int32} {v_1 : Int32} {v_38 : Int32} {g_42 : Nat → Int32} (hfi : fi 0 = some y0 ∧ fi 1 = some y1 ∧ fi 2 = some y2 ∧ fi 3 = some y3 ∧ fi 4 = some y4 ∧ fi 5 = some y5 ∧ fi 6 = some y6 ∧ fi 7 = some y7) (hj : 1 < 8) (hk : k < 40) (e_1 : v_1 = fl 1) (c_2 : v_1 = 0) (e_38 : v_38 = (v).toInt8.toInt32) (hu_42 : g_42 = upd f1 k v_38) : (itX f0 g_42 f2 f3 f4 f5 f6 f7) = upI (itX f0 f1 f2 f3 f4 f5 f6 f7) 1 (upd ((itX f0 f1 f2 f3 f4 f5 f6 f7) 1) k (laneX (fl 1) v)) := by
  first
  | exact it_u0 hk (by assumption) (by unfold laneX; grind)
  | exact it_u1 hk (by assumption) (by unfold laneX; grind)
  | exact it_u2 hk (by assumption) (by unfold laneX; grind)
  | exact it_u3 hk (by assumption) (by unfold laneX; grind)
  | exact it_u4 hk (by assumption) (by unfold laneX; grind)
  | exact it_u5 hk (by assumption) (by unfold laneX; grind)
  | exact it_u6 hk (by assumption) (by unfold laneX; grind)
  | exact it_u7 hk (by assumption) (by unfold laneX; grind)
  | (unfold laneX; grind)
theorem lf_X5_put_36 {fl : Nat → Int32} {y0 : Nat} {y1 : Nat} {y2 : Nat} {y3 : Nat} {y4 : Nat} {y5 : Nat} {y6 : Nat} {y7 : Nat} {f1 : Nat → Int32} {fi : Nat → Option Nat} {k : Nat} {v : Int32} {v_1 : Int32} {v_38 : Int32} {g_42 : Nat → Int32} (hfi : fi 0 = some y0 ∧ fi 1 = some y1 ∧ fi 2 = some y2 ∧ fi 3 = some y3 ∧ fi 4 = some y4 ∧ fi 5 = some y5 ∧ fi 6 = some y6 ∧ fi 7 = some y7) (hj : 1 < 8) (hk : k < 40) (e_1 : v_1 = fl 1) (c_2 : v_1 = 0) (e_38 : v_38 = (v).toInt8.toInt32) (hu_42 : g_42 = upd f1 k v_38) : v_38 = (laneX (fl 1) v) := by
  first
  | exact it_u0 hk (by assumption) (by unfold laneX; grind)
  | exact it_u1 hk (by assumption) (by unfold laneX; grind)
  | exact it_u2 hk (by assumption) (by unfold laneX; grind)
  | exact it_u3 hk (by assumption) (by unfold laneX; grind)
  | exact it_u4 hk (by assumption) (by unfold laneX; grind)
  | exact it_u5 hk (by assumption) (by unfold laneX; grind)
  | exact it_u6 hk (by assumption) (by unfold laneX; grind)
  | exact it_u7 hk (by assumption) (by unfold laneX; grind)
  | (unfold laneX; grind)
theorem lf_X5_put_37 {fl : Nat → Int32} {y0 : Nat} {y1 : Nat} {y2 : Nat} {y3 : Nat} {y4 : Nat} {y5 : Nat} {y6 : Nat} {y7 : Nat} {f0 : Nat → Int32} {f1 : Nat → Int32} {f2 : Nat → Int32} {f3 : Nat → Int32} {f4 : Nat → Int32} {f5 : Nat → Int32} {f6 : Nat → Int32} {f7 : Nat → Int32} {fi : Nat → Option Nat} {k : Nat} {v : Int32} {v_1 : Int32} {v_38 : Int32} {g_44 : Nat → Int32} (hfi : fi 0 = some y0 ∧ fi 1 = some y1 ∧ fi 2 = some y2 ∧ fi 3 = some y3 ∧ fi 4 = some y4 ∧ fi 5 = some y5 ∧ fi 6 = some y6 ∧ fi 7 = some y7) (hj : 2 < 8) (hk : k < 40) (e_1 : v_1 = fl 2) (c_2 : v_1 = 0) (e_38 : v_38 = (v).toInt8.toInt32) (hu_44 : g_44 = upd f2 k v_38) : (itX f0 f1 g_44 f3 f4 f5 f6 f7) = upI (itX f0 f1 f2 f3 f4 f5 f6 f7) 2 (upd ((itX f0 f1 f2 f3 f4 f5 f6 f7) 2) k (laneX (fl 2) v)) := by
  first
  | exact it_u0 hk (by assumption) (by unfold laneX; grind)
  | exact it_u1 hk (by assumption) (by unfold laneX; grind)
  | exact it_u2 hk (by assumption) (by unfold laneX; grind)
  | exact it_u3 hk (by assumption) (by unfold laneX; grind)
  | exact it_u4 hk (by assumption) (by unfold laneX; grind)
  | exact it_u5 hk (by assumption) (by unfold laneX; grind)
  | exact it_u6 hk (by assumption) (by unfold laneX; grind)
  | exact it_u7 hk (by assumption) (by unfold laneX; grind)
  | (unfold laneX; grind)
theorem lf_X5_put_38 {fl : Nat → Int32} {y0 : Nat} {y1 : Nat} {y2 : Nat} {y3 : Nat} {y4 : Nat} {y5 : Nat} {y6 : Nat} {y7 : Nat} {f2 : Nat → Int32} {fi : Nat → Option Nat} {k : Nat} {v : Int32} {v_1 : Int32} {v_38 : Int32} {g_44 : Nat → Int32} (hfi : fi 0 = some y0 ∧ fi 1 = some y1 ∧ fi 2 = some y2 ∧ fi 3 = some y3 ∧ fi 4 = some y4 ∧ fi 5 = some y5 ∧ fi 6 = some y6 ∧ fi 7 = some y7) (hj : 2 < 8) (hk : k < 40) (e_1 : v_1 = fl 2) (c_2 : v_1 = 0) (e_38 : v_38 = (v).toInt8.toInt32) (hu_44 : g_44 = upd f2 k v_38) : v_38 = (laneX (fl 2) v) := by
  first
  | exact it_u0 hk (by assumption) (by unfold laneX; grind)
  | exact it_u1 hk (by assumption) (by unfold laneX; grind)
  | exact it_u2 hk (by assumption) (by unfold laneX; grind)
  | exact it_u3 hk (by assumption) (by unfold laneX; grind)
  | exact it_u4 hk (by assumption) (by unfold laneX; grind)
  | exact it_u5 hk (by assumption) (by unfold laneX; grind)
  | exact it_u6 hk (by assumption) (by unfold laneX; grind)
  | exact it_u7 hk (by assumption) (by unfold laneX; grind)
  | (unfold laneX; grind)
theorem lf_X5_put_39 {fl : Nat → Int32} {y0 : Nat} {y1 : Nat} {y2 : Nat} {y3 : Nat} {y4 : Nat} {y5 : Nat} {y6 : Nat} {y7 : Nat} {f0 : Nat → Int32} {f1 : Nat → Int32} {f2 : Nat → Int32} {f3 : Nat → Int32} {f4 : Nat → Int32} {f5 : Nat → Int32} {f6 : Nat → Int32} {f7 : Nat → Int32} {fi : Nat → Option Nat} {k : Nat} {v : Int32} {v_1 : Int32} {v_38 : Int32} {g_46 : Nat → Int32} (hfi : fi 0 = some y0 ∧ fi 1 = some y1 ∧ fi 2 = some y2 ∧ fi 3 = some y3 ∧ fi 4 = some y4 ∧ fi 5 = some y5 ∧ fi 6 = some y6 ∧ fi 7 = some y7) (hj : 3 < 8) (hk : k < 40) (e_1 : v_1 = fl 3) (c_2 : v_1 = 0) (e_38 : v_38 = (v).toInt8.toInt32) (hu_46 : g_46 = upd f3 k v_38) : (itX f0 f1 f2 g_46 f4 f5 f6 f7) = upI (itX f0 f1 f2 f3 f4 f5 f6 f7) 3 (upd ((itX f0 f1 f2 f3 f4 f5 f6 f7) 3) k (laneX (fl 3) v)) := by
  first
  | exact it_u0 hk (by assumption) (by unfold laneX; grind)
  | exact it_u1 hk (by assumption) (by unfold laneX; grind)
  | exact it_u2 hk (by assumption) (by unfold laneX; grind)
  | exact it_u3 hk (by assumption) (by unfold laneX; grind)
  | exact it_u4 hk (by assumption) (by unfold laneX; grind)
  | exact it_u5 hk (by assumption) (by unfold laneX; grind)
  | exact it_u6 hk (by assumption) (by unfold laneX; grind)
  | exact it_u7 hk (by assumption) (by unfold laneX; grind)
  | (unfold laneX; grind)
theorem lf_X5_put_40 {fl : Nat → Int32} {y0 : Nat} {y1 : Nat} {y2 : Nat} {y3 : Nat} {y4 : Nat} {y5 : Nat} {y6 : Nat} {y7 : Nat} {f3 : Nat → Int32} {fi : Nat → Option Nat} {k : Nat} {v : Int32} {v_1 : Int32} {v_38 : Int32} {g_46 : Nat → Int32} (hfi : fi 0 = some y0 ∧ fi 1 = some y1 ∧ fi 2 = some y2 ∧ fi 3 = some y3 ∧ fi 4 = some y4 ∧ fi 5 = some y5 ∧ fi 6 = some y6 ∧ fi 7 = some y7) (hj : 3 < 8) (hk : k < 40) (e_1 : v_1 = fl 3) (c_2 : v_1 = 0) (e_38 : v_38 = (v).toInt8.toInt32) (hu_46 : g_46 = upd f3 k v_38) : v_38 = (laneX (fl 3) v) := by
  first
  | exact it_u0 hk (by assumption) (by unfold laneX; grind)
  | exact it_u1 hk (by assumption) (by unfold laneX; grind)
  | exact it_u2 hk (by assumption) (by unfold laneX; grind)
  | exact it_u3 hk (by assumption) (by unfold laneX; grind)
  | exact it_u4 hk (by assumption) (by unfold laneX; grind)
  | exact it_u5 hk (by assumption) (by unfold laneX; grind)
  | exact it_u6 hk (by assumption) (by unfold laneX; grind)
  | exact it_u7 hk (by assumption) (by unfold laneX; grind)
  | (unfold laneX; grind)
theorem lf_X5_put_41 {fl : Nat → Int32} {y0 : Nat} {y1 : Nat} {y2 : Nat} {y3 : Nat} {y4 : Nat} {y5 : Nat} {y6 : Nat} {y7 : Nat} {f0 : Nat → Int32} {f1 : Nat → Int32} {f2 : Nat → Int32} {f3 : Nat → Int32} {f4 : Nat → Int32} {f5 : Nat → Int32} {f6 : Nat → Int32} {f7 : Nat → Int32} {fi : Nat → Option Nat} {k : Nat} {v : Int32} {v_1 : Int32} {v_38 : Int32} {g_48 : Nat → Int32} (hfi : fi 0 = some y0 ∧ fi 1 = some y1 ∧ fi 2 = some y2 ∧ fi 3 = some y3 ∧ fi 4 = some y4 ∧ fi 5 = some y5 ∧ fi 6 = some y6 ∧ fi 7 = some y7) (hj : 4 < 8) (hk : k < 40) (e_1 : v_1 = fl 4) (c_2 : v_1 = 0) (e_38 : v_38 = (v).toInt8.toInt32) (hu_48 : g_48 = upd f4 k v_38) : (itX f0 f1 f2 f3 g_48 f5 f6 f7) = upI (itX f0 f1 f2 f3 f4 f5 f6 f7) 4 (upd ((itX f0 f1 f2 f3 f4 f5 f6 f7) 4) k (laneX (fl 4) v)) := by
  first
  | exact it_u0 hk (by assumption) (by unfold laneX; grind)
  | exact it_u1 hk (by assumption) (by unfold laneX; grind)
  | exact it_u2 hk (by assumption) (by unfold laneX; grind)
  | exact it_u3 hk (by assumption) (by unfold laneX; grind)
  | exact it_u4 hk (by assumption) (by unfold laneX; grind)
  | exact it_u5 hk (by assumption) (by unfold laneX; grind)
  | exact it_u6 hk (by assumption) (by unfold laneX; grind)
  | exact it_u7 hk (by assumption) (by unfold laneX; grind)
  | (unfold laneX; grind)
theorem lf_X5_put_42 {fl : Nat → Int32} {y0 : Nat} {y1 : Nat} {y2 : Nat} {y3 : Nat} {y4 : Nat} {y5 : Nat} {y6 : Nat} {y7 : Nat} {f4 : Nat → Int32} {fi : Nat → Option Nat} {k : Nat} {v : Int32} {v_1 : Int32} {v_38 : Int32} {g_48 : Nat → Int32} (hfi : fi 0 = some y0 ∧ fi 1 = some y1 ∧ fi 2 = some y2 ∧ fi 3 = some y3 ∧ fi 4 = some y4 ∧ fi 5 = some y5 ∧ fi 6 = some y6 ∧ fi 7 = some y7) (hj : 4 < 8) (hk : k < 40) (e_1 : v_1 = fl 4) (c_2 : v_1 = 0) (e_38 : v_38 = (v).toInt8.toInt32) (hu_48 : g_48 = upd f4 k v_38) : v_38 = (laneX (fl 4) v) := by
  first
  | exact it_u0 hk (by assumption) (by unfold laneX; grind)
  | exact it_u1 hk (by assumption) (by unfold laneX; grind)
  | exact it_u2 hk (by assumption) (by unfold laneX; grind)
  | exact it_u3 hk (by assumption) (by unfold laneX; grind)
  | exact it_u4 hk (by assumption) (by unfold laneX; grind)
  | exact it_u5 hk (by assumption) (by unfold laneX; grind)
  | exact it_u6 hk (by assumption) (by unfold laneX; grind)
  | exact it_u7 hk (by assumption) (by unfold laneX; grind)
  | (unfold laneX; grind)
theorem lf_X5_put_43 {fl : Nat → Int32} {y0 : Nat} {y1 : Nat} {y2 : Nat} {y3 : Nat} {y4 : Nat} {y5 : Nat} {y6 : Nat} {y7 : Nat} {f0 : Nat → Int32} {f1 : Nat → Int32} {f2 : Nat → Int32} {f3 : Nat → Int32} {f4 : Nat → Int32} {f5 : Nat → Int32} {f6 : Nat → Int32} {f7 : Nat → Int32} {fi : Nat → Option Nat} {k : Nat} {v : Int32} {v_1 : Int32} {v_38 : Int32} {g_50 : Nat → Int32} (hfi : fi 0 = some y0 ∧ fi 1 = some y1 ∧ fi 2 = some y2 ∧ fi 3 = some y3 ∧ fi 4 = some y4 ∧ fi 5 = some y5 ∧ fi 6 = some y6 ∧ fi 7 = some y7) (hj : 5 < 8) (hk : k < 40) (e_1 : v_1 = fl 5) (c_2 : v_1 = 0) (e_38 : v_38 = (v).toInt8.toInt32) (hu_50 : g_50 = upd f5 k v_38) : (itX f0 f1 f2 f3 f4 g_50 f6 f7) = upI (itX f0 f1 f2 f3 f4 f5 f6 f7) 5 (upd ((itX f0 f1 f2 f3 f4 f5 f6 f7) 5) k (laneX (fl 5) v)) := by
  first
  | exact it_u0 hk (by assumption) (by unfold laneX; grind)
  | exact it_u1 hk (by assumption) (by unfold laneX; grind)
  | exact it_u2 hk (by assumption) (by unfold laneX; grind)
  | exact it_u3 hk (by assumption) (by unfold laneX; grind)
  | exact it_u4 hk (by assumption) (by unfold laneX; grind)
  | exact it_u5 hk (by assumption) (by unfold laneX; grind)
  | exact it_u6 hk (by assumption) (by unfold laneX; grind)
  | exact it_u7 hk (by assumption) (by unfold laneX; grind)
  | (unfold laneX; grind)
theorem lf_X5_put_44 {fl : Nat → Int32} {y0 : Nat} {y1 : Nat} {y2 : Nat} {y3 : Nat} {y4 : Nat} {y5 : Nat} {y6 : Nat} {y7 : Nat} {f5 : Nat → Int32} {fi : Nat → Option Nat} {k : Nat} {v : Int32} {v_1 : Int32} {v_38 : Int32} {g_50 : Nat → Int32} (hfi : fi 0 = some y0 ∧ fi 1 = some y1 ∧ fi 2 = some y2 ∧ fi 3 = some y3 ∧ fi 4 = some y4 ∧ fi 5 = some y5 ∧ fi 6 = some y6 ∧ fi 7 = some y7) (hj : 5 < 8) (hk : k < 40) (e_1 : v_1 = fl 5) (c_2 : v_1 = 0) (e_38 : v_38 = (v).toInt8.toInt32) (hu_50 : g_50 = upd f5 k v_38) : v_38 = (laneX (fl 5) v) := by
  first
  | exact it_u0 hk (by assumption) (by unfold laneX; grind)
  | exact it_u1 hk (by assumption) (by unfold laneX; grind)
  | exact it_u2 hk (by assumption) (by unfold laneX; grind)
  | exact it_u3 hk (by assumption) (by unfold laneX; grind)
  | exact it_u4 hk (by assumption) (by unfold laneX; grind)
  | exact it_u5 hk (by assumption) (by unfold laneX; grind)
  | exact it_u6 hk (by assumption) (by unfold laneX; grind)
  | exact it_u7 hk (by assumption) (by unfold laneX; grind)
  | (unfold laneX; grind)
theorem lf_X5_put_45 {fl : Nat → Int32} {y0 : Nat} {y1 : Nat} {y2 : Nat} {y3 : Nat} {y4 : Nat} {y5 : Nat} {y6 : Nat} {y7 : Nat} {f0 : Nat → Int32} {f1 : Nat → Int32} {f2 : Nat → Int32} {f3 : Nat → Int32} {f4 : Nat → Int32} {f5 : Nat → Int32} {f6 : Nat → Int32} {f7 : Nat → Int32} {fi : Nat → Option Nat} {k : Nat} {v : Int32} {v_1 : Int32} {v_38 : Int32} {g_52 : Nat → Int32} (hfi : fi 0 = some y0 ∧ fi 1 = some y1 ∧ fi 2 = some y2 ∧ fi 3 = some y3 ∧ fi 4 = some y4 ∧ fi 5 = some y5 ∧ fi 6 = some y6 ∧ fi 7 = some y7) (hj : 6 < 8) (hk : k < 40) (e_1 : v_1 = fl 6) (c_2 : v_1 = 0) (e_38 : v_38 = (v).toInt8.toInt32) (hu_52 : g_52 = upd f6 k v_38) : (itX f0 f1 f2 f3 f4 f5 g_52 f7) = upI (itX f0 f1 f2 f3 f4 f5 f6 f7) 6 (upd ((itX f0 f1 f2 f3 f4 f5 f6 f7) 6) k (laneX (fl 6) v)) := by
  first
  | exact it_u0 hk (by assumption) (by unfold laneX; grind)
  | exact it_u1 hk (by assumption) (by unfold laneX; grind)
  | exact it_u2 hk (by assumption) (by unfold laneX; grind)
  | exact it_u3 hk (by assumption) (by unfold laneX; grind)
  | exact it_u4 hk (by assumption) (by unfold laneX; grind)
  | exact it_u5 hk (by assumption) (by unfold laneX; grind)
  | exact it_u6 hk (by assumption) (by unfold laneX; grind)
  | exact it_u7 hk (by assumption) (by unfold laneX; grind)
  | (unfold laneX; grind)
theorem lf_X5_put_46 {fl : Nat → Int32} {y0 : Nat} {y1 : Nat} {y2 : Nat} {y3 : Nat} {y4 : Nat} {y5 : Nat} {y6 : Nat} {y7 : Nat} {f6 : Nat → Int32} {fi : Nat → Option Nat} {k : Nat} {v : Int32} {v_1 : Int32} {v_38 : Int32} {g_52 : Nat → Int32} (hfi : fi 0 = some y0 ∧ fi 1 = some y1 ∧ fi 2 = some y2 ∧ fi 3 = some y3 ∧ fi 4 = some y4 ∧ fi 5 = some y5 ∧ fi 6 = some y6 ∧ fi 7 = some y7) (hj : 6 < 8) (hk : k < 40) (e_1 : v_1 = fl 6) (c_2 : v_1 = 0) (e_38 : v_38 = (v).toInt8.toInt32) (hu_52 : g_52 = upd f6 k v_38) : v_38 = (laneX (fl 6) v) := by
  first
  | exact it_u0 hk (by assumption) (by unfold laneX; grind)
  | exact it_u1 hk (by assumption) (by unfold laneX; grind)
  | exact it_u2 hk (by assumption) (by unfold laneX; grind)
  | exact it_u3 hk (by assumption) (by unfold laneX; grind)
  | exact it_u4 hk (by assumption) (by unfold laneX; grind)
  | exact it_u5 hk (by assumption) (by unfold laneX; grind)
  | exact it_u6 hk (by assumption) (by unfold laneX; grind)
  | exact it_u7 hk (by assumption) (by unfold laneX; grind)
  | (unfold laneX; grind)
theorem lf_X5_put_47 {fl : Nat → Int32} {y0 : Nat} {y1 : Nat} {y2 : Nat} {y3 : Nat} {y4 : Nat} {y5 : Nat} {y6 : Nat} {y7 : Nat} {f0 : Nat → Int32} {f1 : Nat → Int32} {f2 : Nat → Int32} {f3 : Nat → Int32} {f4 : Nat → Int32} {f5 : Nat → Int32} {f6 : Nat → Int32} {f7 : Nat → Int32} {fi : Nat → Option Nat} {k : Nat} {v : Int32} {v_1 : Int32} {v_38 : Int32} {g_54 : Nat → Int32} (hfi : fi 0 = some y0 ∧ fi 1 = some y1 ∧ fi 2 = some y2 ∧ fi 3 = some y3 ∧ fi 4 = some y4 ∧ fi 5 = some y5 ∧ fi 6 = some y6 ∧ fi 7 = some y7) (hj : 7 < 8) (hk : k < 40) (e_1 : v_1 = fl 7) (c_2 : v_1 = 0) (e_38 : v_38 = (v).toInt8.toInt32) (hu_54 : g_54 = upd f7 k v_38) : (itX f0 f1 f2 f3 f4 f5 f6 g_54) = upI (itX f0 f1 f2 f3 f4 f5 f6 f7) 7 (upd ((itX f0 f1 f2 f3 f4 f5 f6 f7) 7) k (laneX (fl 7) v)) := by
  first
  | exact it_u0 hk (by assumption) (by unfold laneX; grind)
  | exact it_u1 hk (by assumption) (by unfold laneX; grind)
  | exact it_u2 hk (by assumption) (by unfold laneX; grind)
  | exact it_u3 hk (by assumption) (by unfold laneX; grind)
  | exact it_u4 hk (by assumption) (by unfold laneX; grind)
  | exact it_u5 hk (by assumption) (by unfold laneX; grind)
  | exact it_u6 hk (by assumption) (by unfold laneX; grind)
  | exact it_u7 hk (by assumption) (by unfold laneX; grind)
  | (unfold laneX; grind)
theorem lf_X5_put_48 {fl : Nat → Int32} {y0 : Nat} {y1 : Nat} {y2 : Nat} {y3 : Nat} {y4 : Nat} {y5 : Nat} {y6 : Nat} {y7 : Nat} {f7 : Nat → Int32} {fi : Nat → Option Nat} {k : Nat} {v : Int32} {v_1 : Int32} {v_38 : Int32} {g_54 : Nat → Int32} (hfi : fi 0 = some y0 ∧ fi 1 = some y1 ∧ fi 2 = some y2 ∧ fi 3 = some y3 ∧ fi 4 = some y4 ∧ fi 5 = some y5 ∧ fi 6 = some y6 ∧ fi 7 = some y7) (hj : 7 < 8) (hk : k < 40) (e_1 : v_1 = fl 7) (c_2 : v_1 = 0) (e_38 : v_38 = (v).toInt8.toInt32) (hu_54 : g_54 = upd f7 k v_38) : v_38 = (laneX (fl 7) v) := by
  first
  | exact it_u0 hk (by assumption) (by unfold laneX; grind)
  | exact it_u1 hk (by assumption) (by unfold laneX; grind)
  | exact it_u2 hk (by assumption) (by unfold laneX; grind)
  | exact it_u3 hk (by assumption) (by unfold laneX; grind)
  | exact it_u4 hk (by assumption) (by unfold laneX; grind)
  | exact it_u5 hk (by assumption) (by unfold laneX; grind)
  | exact it_u6 hk (by assumption) (by unfold laneX; grind)
  | exact it_u7 hk (by assumption) (by unfold laneX; grind)
  | (unfold laneX; grind)
set_option maxHeartbeats 4000000 in
set_option maxRecDepth 100000 in
theorem r_X5_put (l : Launch) (dC : Nat → ClassId) (dI : Nat → Nat → Nat) (cI cZ cL cJ : ClassId) (sz : Nat) (h : Nat) (it : Nat) (la : Nat) (le : Nat) (fl : Nat → Int32) (fe : Nat → Int32) (y0 : Nat) (y1 : Nat) (y2 : Nat) (y3 : Nat) (y4 : Nat) (y5 : Nat) (y6 : Nat) (y7 : Nat) (f0 : Nat → Int32) (f1 : Nat → Int32) (f2 : Nat → Int32) (f3 : Nat → Int32) (f4 : Nat → Int32) (f5 : Nat → Int32) (f6 : Nat → Int32) (f7 : Nat → Int32) (fi : Nat → Option Nat) (j : Nat) (k : Nat) (v : Int32) (hfi : fi 0 = some y0 ∧ fi 1 = some y1 ∧ fi 2 = some y2 ∧ fi 3 = some y3 ∧ fi 4 = some y4 ∧ fi 5 = some y5 ∧ fi 6 = some y6 ∧ fi 7 = some y7) (hj : j < 8) (hk : k < 40) : Met l yX5_put wsX5_put ({ frames := 0, cells := 0, slots := 0, locals := 0 }) (va_Pc [.ref h, .int (nI j), .int (nI k), .int v] (fun U => U.heap.size = sz ∧ va_P (dC, dI) vwCl [(xo_5_rrr h it la le), (xI la cI 8 fl), (xJ it cJ 8 fi), (xI y0 cI 40 f0), (xI y1 cI 40 f1), (xI y2 cI 40 f2), (xI y3 cI 40 f3), (xI y4 cI 40 f4), (xI y5 cI 40 f5), (xI y6 cI 40 f6), (xI y7 cI 40 f7)] U.heap ∧ va_K (dC, dI) vwCl [(cI, .int), (cZ, .boolean), (cL, .object RX3), (cJ, .array .int)] U ∧ va_D (fun _ => True) [(xo_5_rrr h it la le), (xI la cI 8 fl), (xJ it cJ 8 fi), (xI y0 cI 40 f0), (xI y1 cI 40 f1), (xI y2 cI 40 f2), (xI y3 cI 40 f3), (xI y4 cI 40 f4), (xI y5 cI 40 f5), (xI y6 cI 40 f6), (xI y7 cI 40 f7)])) (va_Qi (fun r (_ : Unit) => r = (laneX (fl j) v)) (fun (_ : Unit) t => ∃ (f0n : Nat → Int32) (f1n : Nat → Int32) (f2n : Nat → Int32) (f3n : Nat → Int32) (f4n : Nat → Int32) (f5n : Nat → Int32) (f6n : Nat → Int32) (f7n : Nat → Int32), va_P (dC, dI) vwCl [(xo_5_rrr h it la le), (xI la cI 8 fl), (xJ it cJ 8 fi), (xI y0 cI 40 f0n), (xI y1 cI 40 f1n), (xI y2 cI 40 f2n), (xI y3 cI 40 f3n), (xI y4 cI 40 f4n), (xI y5 cI 40 f5n), (xI y6 cI 40 f6n), (xI y7 cI 40 f7n)] t.heap ∧ va_D (va_A [(xo_5_rrr h it la le), (xI la cI 8 fl), (xJ it cJ 8 fi), (xI y0 cI 40 f0), (xI y1 cI 40 f1), (xI y2 cI 40 f2), (xI y3 cI 40 f3), (xI y4 cI 40 f4), (xI y5 cI 40 f5), (xI y6 cI 40 f6), (xI y7 cI 40 f7)] sz) [(xo_5_rrr h it la le), (xI la cI 8 fl), (xJ it cJ 8 fi), (xI y0 cI 40 f0n), (xI y1 cI 40 f1n), (xI y2 cI 40 f2n), (xI y3 cI 40 f3n), (xI y4 cI 40 f4n), (xI y5 cI 40 f5n), (xI y6 cI 40 f6n), (xI y7 cI 40 f7n)] ∧ (itX f0n f1n f2n f3n f4n f5n f6n f7n) = upI (itX f0 f1 f2 f3 f4 f5 f6 f7) j (upd ((itX f0 f1 f2 f3 f4 f5 f6 f7) j) k (laneX (fl j) v))) (va_A [(xo_5_rrr h it la le), (xI la cI 8 fl), (xJ it cJ 8 fi), (xI y0 cI 40 f0), (xI y1 cI 40 f1), (xI y2 cI 40 f2), (xI y3 cI 40 f3), (xI y4 cI 40 f4), (xI y5 cI 40 f5), (xI y6 cI 40 f6), (xI y7 cI 40 f7)] sz)) 0 0 (va_A [(xo_5_rrr h it la le), (xI la cI 8 fl), (xJ it cJ 8 fi), (xI y0 cI 40 f0), (xI y1 cI 40 f1), (xI y2 cI 40 f2), (xI y3 cI 40 f3), (xI y4 cI 40 f4), (xI y5 cI 40 f5), (xI y6 cI 40 f6), (xI y7 cI 40 f7)] sz) := by
  refine Met.ofW (cc := cX5_put) (maxL := 5) (ret := (some .int)) (by decide) rfl ?_
  intro p e s m args below meth c s₁ B hml hv
  obtain ⟨rfl, hsz, hP, hK, hD0⟩ := hv
  have hx := B.exec
  have hb := B.bytes
  have hr := B.returns
  have hts := atoms_spec (ws := wsX5_put) B.pre
  have hown : s.vm.findClass RX5 = some m.cls := findClass_of_methodNamed B.named
  have hlocks := B.notSynchronized
  subst hsz
  have hD := hD0.self (sz := s.heap.size)
  generalize hAe : va_A [(xo_5_rrr h it la le), (xI la cI 8 fl), (xJ it cJ 8 fi), (xI y0 cI 40 f0), (xI y1 cI 40 f1), (xI y2 cI 40 f2), (xI y3 cI 40 f3), (xI y4 cI 40 f4), (xI y5 cI 40 f5), (xI y6 cI 40 f6), (xI y7 cI 40 f7)] s.heap.size = A at hD ⊢
  have hA : ∀ q : Nat, s.heap.size ≤ q → A q := fun q h => by rw [← hAe]; exact Or.inr h
  have hS : va_S A s.heap s.heap [] := va_S.rf
  have hP : va_P (dC, dI) vwCl [(xo_5_rrr h it la le), (xI la cI 8 fl), (xJ it cJ 8 fi), (xI y0 cI 40 f0), (xI y1 cI 40 f1), (xI y2 cI 40 f2), (xI y3 cI 40 f3), (xI y4 cI 40 f4), (xI y5 cI 40 f5), (xI y6 cI 40 f6), (xI y7 cI 40 f7)] s.heap := hP
  have hl := lv_entry ([.ref h, .int (nI j), .int (nI k), .int v]) (n := 5) (Nat.le_of_ble_eq_true rfl)
  rw [lg_entry_eq]
  generalize (lg_sl ([.ref h, .int (nI j), .int (nI k), .int v]) ++ List.replicate (5 - (lg_sl ([.ref h, .int (nI j), .int (nI k), .int v])).length) Slot.unset).toArray = ls at hl ⊢
  have hl : lv_has ls 5 [(0, .ref h), (1, .int (nI j)), (2, .int (nI k)), (3, .int v)] := hl
  refine lv_iload_n hx hb dX5_put_0 rfl (lv_at hl 3 rfl) ?_
  refine lv_istore (lv' := [(4, .int v), (0, .ref h), (1, .int (nI j)), (2, .int (nI k)), (3, .int v)]) hx hb dX5_put_1 hl (by decide) rfl (fun ls hl => ?_)
  refine lv_aload_n hx hb dX5_put_3 rfl (lv_at hl 1 rfl) ?_
  refine va_get (D := (dC, dI)) (ci := 5) (v := .ref la) (C := RX5) (T := TX5) (N := 3) hx hb hts i_X5_put_X5 hown hK hP 0 rfl rfl 1 (by decide) (hts _ mx_X5_put_1) (fun _ h9 => h9) rfl dX5_put_4 ?_
  refine lv_iload_n hx hb dX5_put_7 rfl (lv_at hl 2 rfl) ?_
  refine va_iald hx hb hK hP 1 0 rfl rfl (vp_in_nI (by omega) (by omega)) dX5_put_8 ?_
  refine lv_topi (fun v_1 e_1 => ?_)
  have e_1 : v_1 = fl j := e_1.trans (congrArg fl (nI_clamp (by omega)))
  refine lv_if_ne (tgt := 19) hx hb dX5_put_9 (by decide) (fun c_2 => ?_) (fun c_2 => ?_)
  · skip
    refine lv_aload_n hx hb dX5_put_19 rfl (lv_at hl 1 rfl) ?_
    refine va_get (D := (dC, dI)) (ci := 5) (v := .ref la) (C := RX5) (T := TX5) (N := 3) hx hb hts i_X5_put_X5 hown hK hP 0 rfl rfl 1 (by decide) (hts _ mx_X5_put_1) (fun _ h9 => h9) rfl dX5_put_20 ?_
    refine lv_iload_n hx hb dX5_put_23 rfl (lv_at hl 2 rfl) ?_
    refine va_iald hx hb hK hP 1 0 rfl rfl (vp_in_nI (by omega) (by omega)) dX5_put_24 ?_
    refine lv_topi (fun v_3 e_3 => ?_)
    have e_3 : v_3 = fl j := e_3.trans (congrArg fl (nI_clamp (by omega)))
    refine lv_iconst (v := 1) hx hb dX5_put_25 (by decide) ?_
    refine lv_icmp_ne (tgt := 33) hx hb dX5_put_26 (by decide) (fun c_4 => ?_) (fun c_4 => ?_)
    · skip
      rcases (show j = 0 ∨ j = 1 ∨ j = 2 ∨ j = 3 ∨ j = 4 ∨ j = 5 ∨ j = 6 ∨ j = 7 by omega) with rfl | rfl | rfl | rfl | rfl | rfl | rfl | rfl
      · skip
        have hl : lv_has ls 5 [(4, .int v), (0, .ref h), (1, .int 0), (2, .int (nI k)), (3, .int v)] := hl
        refine lv_aload_n hx hb dX5_put_33 rfl (lv_at hl 1 rfl) ?_
        refine va_get (D := (dC, dI)) (ci := 5) (v := .ref it) (C := RX5) (T := TX5) (N := 3) hx hb hts i_X5_put_X5 hown hK hP 0 rfl rfl 0 (by decide) (hts _ mx_X5_put_2) (fun _ h9 => h9) rfl dX5_put_34 ?_
        refine lv_iload_n hx hb dX5_put_37 rfl (lv_at hl 2 rfl) ?_
        refine nw_alk hx hb hK hP 2 3 rfl rfl 0 rfl (Nat.le_of_ble_eq_true rfl) (Nat.le_of_ble_eq_true rfl) hfi.1 dX5_put_38 ?_
        refine lv_iload_n hx hb dX5_put_39 rfl (lv_at hl 3 rfl) ?_
        refine lv_iload hx hb dX5_put_40 (lv_at hl 0 rfl) ?_
        refine va_iast hx hb hK hP hD hS 3 0 rfl rfl (vp_in_nI (by omega) (by omega)) dX5_put_42 (fun H locs hP hD hS => ?_)
        generalize hg_6 : upd f0 ((nI k) : Int32).toNatClampNeg v = g_6 at hP hD
        have hu_6 : g_6 = upd f0 k v := (by rw [← hg_6, nI_clamp (by omega)])
        have hP : va_P (dC, dI) vwCl [(xo_5_rrr h it la le), (xI la cI 8 fl), (xJ it cJ 8 fi), (xI y0 cI 40 g_6), (xI y1 cI 40 f1), (xI y2 cI 40 f2), (xI y3 cI 40 f3), (xI y4 cI 40 f4), (xI y5 cI 40 f5), (xI y6 cI 40 f6), (xI y7 cI 40 f7)] H := hP
        have hD := dto hP hD
        refine lv_iload hx hb dX5_put_43 (lv_at hl 0 rfl) ?_
        have hX9 := cut2 (wc := [(xo_5_rrr h it la le), (xI la cI 8 fl), (xJ it cJ 8 fi), (xI y0 cI 40 g_6), (xI y1 cI 40 f1), (xI y2 cI 40 f2), (xI y3 cI 40 f3), (xI y4 cI 40 f4), (xI y5 cI 40 f5), (xI y6 cI 40 f6), (xI y7 cI 40 f7)]) hP hD [0, 1, 2, 3, 4, 5, 6, 7, 8, 9, 10] (by decide +kernel) rfl
        exact W.iret (v := v) hx hb hr (fun t ht hW => ⟨⟨v, (), rfl, (lf_X5_put_2 hfi hj hk e_1 c_2 e_3 c_4 hu_6), ⟨g_6, f1, f2, f3, f4, f5, f6, f7, va_Ht ht hX9.1, hX9.2, (lf_X5_put_1 hfi hj hk e_1 c_2 e_3 c_4 hu_6)⟩⟩, hS.F ht⟩) hS.2.2 dX5_put_45
      · skip
        have hl : lv_has ls 5 [(4, .int v), (0, .ref h), (1, .int 1), (2, .int (nI k)), (3, .int v)] := hl
        refine lv_aload_n hx hb dX5_put_33 rfl (lv_at hl 1 rfl) ?_
        refine va_get (D := (dC, dI)) (ci := 5) (v := .ref it) (C := RX5) (T := TX5) (N := 3) hx hb hts i_X5_put_X5 hown hK hP 0 rfl rfl 0 (by decide) (hts _ mx_X5_put_2) (fun _ h9 => h9) rfl dX5_put_34 ?_
        refine lv_iload_n hx hb dX5_put_37 rfl (lv_at hl 2 rfl) ?_
        refine nw_alk hx hb hK hP 2 3 rfl rfl 1 rfl (Nat.le_of_ble_eq_true rfl) (Nat.le_of_ble_eq_true rfl) hfi.2.1 dX5_put_38 ?_
        refine lv_iload_n hx hb dX5_put_39 rfl (lv_at hl 3 rfl) ?_
        refine lv_iload hx hb dX5_put_40 (lv_at hl 0 rfl) ?_
        refine va_iast hx hb hK hP hD hS 4 0 rfl rfl (vp_in_nI (by omega) (by omega)) dX5_put_42 (fun H locs hP hD hS => ?_)
        generalize hg_8 : upd f1 ((nI k) : Int32).toNatClampNeg v = g_8 at hP hD
        have hu_8 : g_8 = upd f1 k v := (by rw [← hg_8, nI_clamp (by omega)])
        have hP : va_P (dC, dI) vwCl [(xo_5_rrr h it la le), (xI la cI 8 fl), (xJ it cJ 8 fi), (xI y0 cI 40 f0), (xI y1 cI 40 g_8), (xI y2 cI 40 f2), (xI y3 cI 40 f3), (xI y4 cI 40 f4), (xI y5 cI 40 f5), (xI y6 cI 40 f6), (xI y7 cI 40 f7)] H := hP
        have hD := dto hP hD
        refine lv_iload hx hb dX5_put_43 (lv_at hl 0 rfl) ?_
        have hX9 := cut2 (wc := [(xo_5_rrr h it la le), (xI la cI 8 fl), (xJ it cJ 8 fi), (xI y0 cI 40 f0), (xI y1 cI 40 g_8), (xI y2 cI 40 f2), (xI y3 cI 40 f3), (xI y4 cI 40 f4), (xI y5 cI 40 f5), (xI y6 cI 40 f6), (xI y7 cI 40 f7)]) hP hD [0, 1, 2, 3, 4, 5, 6, 7, 8, 9, 10] (by decide +kernel) rfl
        exact W.iret (v := v) hx hb hr (fun t ht hW => ⟨⟨v, (), rfl, (lf_X5_put_4 hfi hj hk e_1 c_2 e_3 c_4 hu_8), ⟨f0, g_8, f2, f3, f4, f5, f6, f7, va_Ht ht hX9.1, hX9.2, (lf_X5_put_3 hfi hj hk e_1 c_2 e_3 c_4 hu_8)⟩⟩, hS.F ht⟩) hS.2.2 dX5_put_45
      · skip
        have hl : lv_has ls 5 [(4, .int v), (0, .ref h), (1, .int 2), (2, .int (nI k)), (3, .int v)] := hl
        refine lv_aload_n hx hb dX5_put_33 rfl (lv_at hl 1 rfl) ?_
        refine va_get (D := (dC, dI)) (ci := 5) (v := .ref it) (C := RX5) (T := TX5) (N := 3) hx hb hts i_X5_put_X5 hown hK hP 0 rfl rfl 0 (by decide) (hts _ mx_X5_put_2) (fun _ h9 => h9) rfl dX5_put_34 ?_
        refine lv_iload_n hx hb dX5_put_37 rfl (lv_at hl 2 rfl) ?_
        refine nw_alk hx hb hK hP 2 3 rfl rfl 2 rfl (Nat.le_of_ble_eq_true rfl) (Nat.le_of_ble_eq_true rfl) hfi.2.2.1 dX5_put_38 ?_
        refine lv_iload_n hx hb dX5_put_39 rfl (lv_at hl 3 rfl) ?_
        refine lv_iload hx hb dX5_put_40 (lv_at hl 0 rfl) ?_
        refine va_iast hx hb hK hP hD hS 5 0 rfl rfl (vp_in_nI (by omega) (by omega)) dX5_put_42 (fun H locs hP hD hS => ?_)
        generalize hg_10 : upd f2 ((nI k) : Int32).toNatClampNeg v = g_10 at hP hD
        have hu_10 : g_10 = upd f2 k v := (by rw [← hg_10, nI_clamp (by omega)])
        have hP : va_P (dC, dI) vwCl [(xo_5_rrr h it la le), (xI la cI 8 fl), (xJ it cJ 8 fi), (xI y0 cI 40 f0), (xI y1 cI 40 f1), (xI y2 cI 40 g_10), (xI y3 cI 40 f3), (xI y4 cI 40 f4), (xI y5 cI 40 f5), (xI y6 cI 40 f6), (xI y7 cI 40 f7)] H := hP
        have hD := dto hP hD
        refine lv_iload hx hb dX5_put_43 (lv_at hl 0 rfl) ?_
        have hX9 := cut2 (wc := [(xo_5_rrr h it la le), (xI la cI 8 fl), (xJ it cJ 8 fi), (xI y0 cI 40 f0), (xI y1 cI 40 f1), (xI y2 cI 40 g_10), (xI y3 cI 40 f3), (xI y4 cI 40 f4), (xI y5 cI 40 f5), (xI y6 cI 40 f6), (xI y7 cI 40 f7)]) hP hD [0, 1, 2, 3, 4, 5, 6, 7, 8, 9, 10] (by decide +kernel) rfl
        exact W.iret (v := v) hx hb hr (fun t ht hW => ⟨⟨v, (), rfl, (lf_X5_put_6 hfi hj hk e_1 c_2 e_3 c_4 hu_10), ⟨f0, f1, g_10, f3, f4, f5, f6, f7, va_Ht ht hX9.1, hX9.2, (lf_X5_put_5 hfi hj hk e_1 c_2 e_3 c_4 hu_10)⟩⟩, hS.F ht⟩) hS.2.2 dX5_put_45
      · skip
        have hl : lv_has ls 5 [(4, .int v), (0, .ref h), (1, .int 3), (2, .int (nI k)), (3, .int v)] := hl
        refine lv_aload_n hx hb dX5_put_33 rfl (lv_at hl 1 rfl) ?_
        refine va_get (D := (dC, dI)) (ci := 5) (v := .ref it) (C := RX5) (T := TX5) (N := 3) hx hb hts i_X5_put_X5 hown hK hP 0 rfl rfl 0 (by decide) (hts _ mx_X5_put_2) (fun _ h9 => h9) rfl dX5_put_34 ?_
        refine lv_iload_n hx hb dX5_put_37 rfl (lv_at hl 2 rfl) ?_
        refine nw_alk hx hb hK hP 2 3 rfl rfl 3 rfl (Nat.le_of_ble_eq_true rfl) (Nat.le_of_ble_eq_true rfl) hfi.2.2.2.1 dX5_put_38 ?_
        refine lv_iload_n hx hb dX5_put_39 rfl (lv_at hl 3 rfl) ?_
        refine lv_iload hx hb dX5_put_40 (lv_at hl 0 rfl) ?_
        refine va_iast hx hb hK hP hD hS 6 0 rfl rfl (vp_in_nI (by omega) (by omega)) dX5_put_42 (fun H locs hP hD hS => ?_)
        generalize hg_12 : upd f3 ((nI k) : Int32).toNatClampNeg v = g_12 at hP hD
        have hu_12 : g_12 = upd f3 k v := (by rw [← hg_12, nI_clamp (by omega)])
        have hP : va_P (dC, dI) vwCl [(xo_5_rrr h it la le), (xI la cI 8 fl), (xJ it cJ 8 fi), (xI y0 cI 40 f0), (xI y1 cI 40 f1), (xI y2 cI 40 f2), (xI y3 cI 40 g_12), (xI y4 cI 40 f4), (xI y5 cI 40 f5), (xI y6 cI 40 f6), (xI y7 cI 40 f7)] H := hP
        have hD := dto hP hD
        refine lv_iload hx hb dX5_put_43 (lv_at hl 0 rfl) ?_
        have hX9 := cut2 (wc := [(xo_5_rrr h it la le), (xI la cI 8 fl), (xJ it cJ 8 fi), (xI y0 cI 40 f0), (xI y1 cI 40 f1), (xI y2 cI 40 f2), (xI y3 cI 40 g_12), (xI y4 cI 40 f4), (xI y5 cI 40 f5), (xI y6 cI 40 f6), (xI y7 cI 40 f7)]) hP hD [0, 1, 2, 3, 4, 5, 6, 7, 8, 9, 10] (by decide +kernel) rfl
        exact W.iret (v := v) hx hb hr (fun t ht hW => ⟨⟨v, (), rfl, (lf_X5_put_8 hfi hj hk e_1 c_2 e_3 c_4 hu_12), ⟨f0, f1, f2, g_12, f4, f5, f6, f7, va_Ht ht hX9.1, hX9.2, (lf_X5_put_7 hfi hj hk e_1 c_2 e_3 c_4 hu_12)⟩⟩, hS.F ht⟩) hS.2.2 dX5_put_45
      · skip
        have hl : lv_has ls 5 [(4, .int v), (0, .ref h), (1, .int 4), (2, .int (nI k)), (3, .int v)] := hl
        refine lv_aload_n hx hb dX5_put_33 rfl (lv_at hl 1 rfl) ?_
        refine va_get (D := (dC, dI)) (ci := 5) (v := .ref it) (C := RX5) (T := TX5) (N := 3) hx hb hts i_X5_put_X5 hown hK hP 0 rfl rfl 0 (by decide) (hts _ mx_X5_put_2) (fun _ h9 => h9) rfl dX5_put_34 ?_
        refine lv_iload_n hx hb dX5_put_37 rfl (lv_at hl 2 rfl) ?_
        refine nw_alk hx hb hK hP 2 3 rfl rfl 4 rfl (Nat.le_of_ble_eq_true rfl) (Nat.le_of_ble_eq_true rfl) hfi.2.2.2.2.1 dX5_put_38 ?_
        refine lv_iload_n hx hb dX5_put_39 rfl (lv_at hl 3 rfl) ?_
        refine lv_iload hx hb dX5_put_40 (lv_at hl 0 rfl) ?_
        refine va_iast hx hb hK hP hD hS 7 0 rfl rfl (vp_in_nI (by omega) (by omega)) dX5_put_42 (fun H locs hP hD hS => ?_)
        generalize hg_14 : upd f4 ((nI k) : Int32).toNatClampNeg v = g_14 at hP hD
        have hu_14 : g_14 = upd f4 k v := (by rw [← hg_14, nI_clamp (by omega)])
        have hP : va_P (dC, dI) vwCl [(xo_5_rrr h it la le), (xI la cI 8 fl), (xJ it cJ 8 fi), (xI y0 cI 40 f0), (xI y1 cI 40 f1), (xI y2 cI 40 f2), (xI y3 cI 40 f3), (xI y4 cI 40 g_14), (xI y5 cI 40 f5), (xI y6 cI 40 f6), (xI y7 cI 40 f7)] H := hP
        have hD := dto hP hD
        refine lv_iload hx hb dX5_put_43 (lv_at hl 0 rfl) ?_
        have hX9 := cut2 (wc := [(xo_5_rrr h it la le), (xI la cI 8 fl), (xJ it cJ 8 fi), (xI y0 cI 40 f0), (xI y1 cI 40 f1), (xI y2 cI 40 f2), (xI y3 cI 40 f3), (xI y4 cI 40 g_14), (xI y5 cI 40 f5), (xI y6 cI 40 f6), (xI y7 cI 40 f7)]) hP hD [0, 1, 2, 3, 4, 5, 6, 7, 8, 9, 10] (by decide +kernel) rfl
        exact W.iret (v := v) hx hb hr (fun t ht hW => ⟨⟨v, (), rfl, (lf_X5_put_10 hfi hj hk e_1 c_2 e_3 c_4 hu_14), ⟨f0, f1, f2, f3, g_14, f5, f6, f7, va_Ht ht hX9.1, hX9.2, (lf_X5_put_9 hfi hj hk e_1 c_2 e_3 c_4 hu_14)⟩⟩, hS.F ht⟩) hS.2.2 dX5_put_45
      · skip
        have hl : lv_has ls 5 [(4, .int v), (0, .ref h), (1, .int 5), (2, .int (nI k)), (3, .int v)] := hl
        refine lv_aload_n hx hb dX5_put_33 rfl (lv_at hl 1 rfl) ?_
        refine va_get (D := (dC, dI)) (ci := 5) (v := .ref it) (C := RX5) (T := TX5) (N := 3) hx hb hts i_X5_put_X5 hown hK hP 0 rfl rfl 0 (by decide) (hts _ mx_X5_put_2) (fun _ h9 => h9) rfl dX5_put_34 ?_
        refine lv_iload_n hx hb dX5_put_37 rfl (lv_at hl 2 rfl) ?_
        refine nw_alk hx hb hK hP 2 3 rfl rfl 5 rfl (Nat.le_of_ble_eq_true rfl) (Nat.le_of_ble_eq_true rfl) hfi.2.2.2.2.2.1 dX5_put_38 ?_
        refine lv_iload_n hx hb dX5_put_39 rfl (lv_at hl 3 rfl) ?_
        refine lv_iload hx hb dX5_put_40 (lv_at hl 0 rfl) ?_
        refine va_iast hx hb hK hP hD hS 8 0 rfl rfl (vp_in_nI (by omega) (by omega)) dX5_put_42 (fun H locs hP hD hS => ?_)
        generalize hg_16 : upd f5 ((nI k) : Int32).toNatClampNeg v = g_16 at hP hD
        have hu_16 : g_16 = upd f5 k v := (by rw [← hg_16, nI_clamp (by omega)])
        have hP : va_P (dC, dI) vwCl [(xo_5_rrr h it la le), (xI la cI 8 fl), (xJ it cJ 8 fi), (xI y0 cI 40 f0), (xI y1 cI 40 f1), (xI y2 cI 40 f2), (xI y3 cI 40 f3), (xI y4 cI 40 f4), (xI y5 cI 40 g_16), (xI y6 cI 40 f6), (xI y7 cI 40 f7)] H := hP
        have hD := dto hP hD
        refine lv_iload hx hb dX5_put_43 (lv_at hl 0 rfl) ?_
        have hX9 := cut2 (wc := [(xo_5_rrr h it la le), (xI la cI 8 fl), (xJ it cJ 8 fi), (xI y0 cI 40 f0), (xI y1 cI 40 f1), (xI y2 cI 40 f2), (xI y3 cI 40 f3), (xI y4 cI 40 f4), (xI y5 cI 40 g_16), (xI y6 cI 40 f6), (xI y7 cI 40 f7)]) hP hD [0, 1, 2, 3, 4, 5, 6, 7, 8, 9, 10] (by decide +kernel) rfl
        exact W.iret (v := v) hx hb hr (fun t ht hW => ⟨⟨v, (), rfl, (lf_X5_put_12 hfi hj hk e_1 c_2 e_3 c_4 hu_16), ⟨f0, f1, f2, f3, f4, g_16, f6, f7, va_Ht ht hX9.1, hX9.2, (lf_X5_put_11 hfi hj hk e_1 c_2 e_3 c_4 hu_16)⟩⟩, hS.F ht⟩) hS.2.2 dX5_put_45
      · skip
        have hl : lv_has ls 5 [(4, .int v), (0, .ref h), (1, .int 6), (2, .int (nI k)), (3, .int v)] := hl
        refine lv_aload_n hx hb dX5_put_33 rfl (lv_at hl 1 rfl) ?_
        refine va_get (D := (dC, dI)) (ci := 5) (v := .ref it) (C := RX5) (T := TX5) (N := 3) hx hb hts i_X5_put_X5 hown hK hP 0 rfl rfl 0 (by decide) (hts _ mx_X5_put_2) (fun _ h9 => h9) rfl dX5_put_34 ?_
        refine lv_iload_n hx hb dX5_put_37 rfl (lv_at hl 2 rfl) ?_
        refine nw_alk hx hb hK hP 2 3 rfl rfl 6 rfl (Nat.le_of_ble_eq_true rfl) (Nat.le_of_ble_eq_true rfl) hfi.2.2.2.2.2.2.1 dX5_put_38 ?_
        refine lv_iload_n hx hb dX5_put_39 rfl (lv_at hl 3 rfl) ?_
        refine lv_iload hx hb dX5_put_40 (lv_at hl 0 rfl) ?_
        refine va_iast hx hb hK hP hD hS 9 0 rfl rfl (vp_in_nI (by omega) (by omega)) dX5_put_42 (fun H locs hP hD hS => ?_)
        generalize hg_18 : upd f6 ((nI k) : Int32).toNatClampNeg v = g_18 at hP hD
        have hu_18 : g_18 = upd f6 k v := (by rw [← hg_18, nI_clamp (by omega)])
        have hP : va_P (dC, dI) vwCl [(xo_5_rrr h it la le), (xI la cI 8 fl), (xJ it cJ 8 fi), (xI y0 cI 40 f0), (xI y1 cI 40 f1), (xI y2 cI 40 f2), (xI y3 cI 40 f3), (xI y4 cI 40 f4), (xI y5 cI 40 f5), (xI y6 cI 40 g_18), (xI y7 cI 40 f7)] H := hP
        have hD := dto hP hD
        refine lv_iload hx hb dX5_put_43 (lv_at hl 0 rfl) ?_
        have hX9 := cut2 (wc := [(xo_5_rrr h it la le), (xI la cI 8 fl), (xJ it cJ 8 fi), (xI y0 cI 40 f0), (xI y1 cI 40 f1), (xI y2 cI 40 f2), (xI y3 cI 40 f3), (xI y4 cI 40 f4), (xI y5 cI 40 f5), (xI y6 cI 40 g_18), (xI y7 cI 40 f7)]) hP hD [0, 1, 2, 3, 4, 5, 6, 7, 8, 9, 10] (by decide +kernel) rfl
        exact W.iret (v := v) hx hb hr (fun t ht hW => ⟨⟨v, (), rfl, (lf_X5_put_14 hfi hj hk e_1 c_2 e_3 c_4 hu_18), ⟨f0, f1, f2, f3, f4, f5, g_18, f7, va_Ht ht hX9.1, hX9.2, (lf_X5_put_13 hfi hj hk e_1 c_2 e_3 c_4 hu_18)⟩⟩, hS.F ht⟩) hS.2.2 dX5_put_45
      · skip
        have hl : lv_has ls 5 [(4, .int v), (0, .ref h), (1, .int 7), (2, .int (nI k)), (3, .int v)] := hl
        refine lv_aload_n hx hb dX5_put_33 rfl (lv_at hl 1 rfl) ?_
        refine va_get (D := (dC, dI)) (ci := 5) (v := .ref it) (C := RX5) (T := TX5) (N := 3) hx hb hts i_X5_put_X5 hown hK hP 0 rfl rfl 0 (by decide) (hts _ mx_X5_put_2) (fun _ h9 => h9) rfl dX5_put_34 ?_
        refine lv_iload_n hx hb dX5_put_37 rfl (lv_at hl 2 rfl) ?_
        refine nw_alk hx hb hK hP 2 3 rfl rfl 7 rfl (Nat.le_of_ble_eq_true rfl) (Nat.le_of_ble_eq_true rfl) hfi.2.2.2.2.2.2.2 dX5_put_38 ?_
        refine lv_iload_n hx hb dX5_put_39 rfl (lv_at hl 3 rfl) ?_
        refine lv_iload hx hb dX5_put_40 (lv_at hl 0 rfl) ?_
        refine va_iast hx hb hK hP hD hS 10 0 rfl rfl (vp_in_nI (by omega) (by omega)) dX5_put_42 (fun H locs hP hD hS => ?_)
        generalize hg_20 : upd f7 ((nI k) : Int32).toNatClampNeg v = g_20 at hP hD
        have hu_20 : g_20 = upd f7 k v := (by rw [← hg_20, nI_clamp (by omega)])
        have hP : va_P (dC, dI) vwCl [(xo_5_rrr h it la le), (xI la cI 8 fl), (xJ it cJ 8 fi), (xI y0 cI 40 f0), (xI y1 cI 40 f1), (xI y2 cI 40 f2), (xI y3 cI 40 f3), (xI y4 cI 40 f4), (xI y5 cI 40 f5), (xI y6 cI 40 f6), (xI y7 cI 40 g_20)] H := hP
        have hD := dto hP hD
        refine lv_iload hx hb dX5_put_43 (lv_at hl 0 rfl) ?_
        have hX9 := cut2 (wc := [(xo_5_rrr h it la le), (xI la cI 8 fl), (xJ it cJ 8 fi), (xI y0 cI 40 f0), (xI y1 cI 40 f1), (xI y2 cI 40 f2), (xI y3 cI 40 f3), (xI y4 cI 40 f4), (xI y5 cI 40 f5), (xI y6 cI 40 f6), (xI y7 cI 40 g_20)]) hP hD [0, 1, 2, 3, 4, 5, 6, 7, 8, 9, 10] (by decide +kernel) rfl
        exact W.iret (v := v) hx hb hr (fun t ht hW => ⟨⟨v, (), rfl, (lf_X5_put_16 hfi hj hk e_1 c_2 e_3 c_4 hu_20), ⟨f0, f1, f2, f3, f4, f5, f6, g_20, va_Ht ht hX9.1, hX9.2, (lf_X5_put_15 hfi hj hk e_1 c_2 e_3 c_4 hu_20)⟩⟩, hS.F ht⟩) hS.2.2 dX5_put_45
    · skip
      refine lv_iload_n hx hb dX5_put_29 rfl (lv_at hl 4 rfl) ?_
      refine lv_i2s hx hb dX5_put_30 rfl ?_
      refine lv_topi (fun v_21 e_21 => ?_)
      refine lv_istore (lv' := [(4, .int v_21), (0, .ref h), (1, .int (nI j)), (2, .int (nI k)), (3, .int v)]) hx hb dX5_put_31 hl (by decide) rfl (fun ls hl => ?_)
      rcases (show j = 0 ∨ j = 1 ∨ j = 2 ∨ j = 3 ∨ j = 4 ∨ j = 5 ∨ j = 6 ∨ j = 7 by omega) with rfl | rfl | rfl | rfl | rfl | rfl | rfl | rfl
      · skip
        have hl : lv_has ls 5 [(4, .int v_21), (0, .ref h), (1, .int 0), (2, .int (nI k)), (3, .int v)] := hl
        refine lv_aload_n hx hb dX5_put_33 rfl (lv_at hl 1 rfl) ?_
        refine va_get (D := (dC, dI)) (ci := 5) (v := .ref it) (C := RX5) (T := TX5) (N := 3) hx hb hts i_X5_put_X5 hown hK hP 0 rfl rfl 0 (by decide) (hts _ mx_X5_put_2) (fun _ h9 => h9) rfl dX5_put_34 ?_
        refine lv_iload_n hx hb dX5_put_37 rfl (lv_at hl 2 rfl) ?_
        refine nw_alk hx hb hK hP 2 3 rfl rfl 0 rfl (Nat.le_of_ble_eq_true rfl) (Nat.le_of_ble_eq_true rfl) hfi.1 dX5_put_38 ?_
        refine lv_iload_n hx hb dX5_put_39 rfl (lv_at hl 3 rfl) ?_
        refine lv_iload hx hb dX5_put_40 (lv_at hl 0 rfl) ?_
        refine va_iast hx hb hK hP hD hS 3 0 rfl rfl (vp_in_nI (by omega) (by omega)) dX5_put_42 (fun H locs hP hD hS => ?_)
        generalize hg_23 : upd f0 ((nI k) : Int32).toNatClampNeg v_21 = g_23 at hP hD
        have hu_23 : g_23 = upd f0 k v_21 := (by rw [← hg_23, nI_clamp (by omega)])
        have hP : va_P (dC, dI) vwCl [(xo_5_rrr h it la le), (xI la cI 8 fl), (xJ it cJ 8 fi), (xI y0 cI 40 g_23), (xI y1 cI 40 f1), (xI y2 cI 40 f2), (xI y3 cI 40 f3), (xI y4 cI 40 f4), (xI y5 cI 40 f5), (xI y6 cI 40 f6), (xI y7 cI 40 f7)] H := hP
        have hD := dto hP hD
        refine lv_iload hx hb dX5_put_43 (lv_at hl 0 rfl) ?_
        have hX9 := cut2 (wc := [(xo_5_rrr h it la le), (xI la cI 8 fl), (xJ it cJ 8 fi), (xI y0 cI 40 g_23), (xI y1 cI 40 f1), (xI y2 cI 40 f2), (xI y3 cI 40 f3), (xI y4 cI 40 f4), (xI y5 cI 40 f5), (xI y6 cI 40 f6), (xI y7 cI 40 f7)]) hP hD [0, 1, 2, 3, 4, 5, 6, 7, 8, 9, 10] (by decide +kernel) rfl
        exact W.iret (v := v_21) hx hb hr (fun t ht hW => ⟨⟨v_21, (), rfl, (lf_X5_put_18 hfi hj hk e_1 c_2 e_3 c_4 e_21 hu_23), ⟨g_23, f1, f2, f3, f4, f5, f6, f7, va_Ht ht hX9.1, hX9.2, (lf_X5_put_17 hfi hj hk e_1 c_2 e_3 c_4 e_21 hu_23)⟩⟩, hS.F ht⟩) hS.2.2 dX5_put_45
      · skip
        have hl : lv_has ls 5 [(4, .int v_21), (0, .ref h), (1, .int 1), (2, .int (nI k)), (3, .int v)] := hl
        refine lv_aload_n hx hb dX5_put_33 rfl (lv_at hl 1 rfl) ?_
        refine va_get (D := (dC, dI)) (ci := 5) (v := .ref it) (C := RX5) (T := TX5) (N := 3) hx hb hts i_X5_put_X5 hown hK hP 0 rfl rfl 0 (by decide) (hts _ mx_X5_put_2) (fun _ h9 => h9) rfl dX5_put_34 ?_
        refine lv_iload_n hx hb dX5_put_37 rfl (lv_at hl 2 rfl) ?_
        refine nw_alk hx hb hK hP 2 3 rfl rfl 1 rfl (Nat.le_of_ble_eq_true rfl) (Nat.le_of_ble_eq_true rfl) hfi.2.1 dX5_put_38 ?_
        refine lv_iload_n hx hb dX5_put_39 rfl (lv_at hl 3 rfl) ?_
        refine lv_iload hx hb dX5_put_40 (lv_at hl 0 rfl) ?_
        refine va_iast hx hb hK hP hD hS 4 0 rfl rfl (vp_in_nI (by omega) (by omega)) dX5_put_42 (fun H locs hP hD hS => ?_)
        generalize hg_25 : upd f1 ((nI k) : Int32).toNatClampNeg v_21 = g_25 at hP hD
        have hu_25 : g_25 = upd f1 k v_21 := (by rw [← hg_25, nI_clamp (by omega)])
        have hP : va_P (dC, dI) vwCl [(xo_5_rrr h it la le), (xI la cI 8 fl), (xJ it cJ 8 fi), (xI y0 cI 40 f0), (xI y1 cI 40 g_25), (xI y2 cI 40 f2), (xI y3 cI 40 f3), (xI y4 cI 40 f4), (xI y5 cI 40 f5), (xI y6 cI 40 f6), (xI y7 cI 40 f7)] H := hP
        have hD := dto hP hD
        refine lv_iload hx hb dX5_put_43 (lv_at hl 0 rfl) ?_
        have hX9 := cut2 (wc := [(xo_5_rrr h it la le), (xI la cI 8 fl), (xJ it cJ 8 fi), (xI y0 cI 40 f0), (xI y1 cI 40 g_25), (xI y2 cI 40 f2), (xI y3 cI 40 f3), (xI y4 cI 40 f4), (xI y5 cI 40 f5), (xI y6 cI 40 f6), (xI y7 cI 40 f7)]) hP hD [0, 1, 2, 3, 4, 5, 6, 7, 8, 9, 10] (by decide +kernel) rfl
        exact W.iret (v := v_21) hx hb hr (fun t ht hW => ⟨⟨v_21, (), rfl, (lf_X5_put_20 hfi hj hk e_1 c_2 e_3 c_4 e_21 hu_25), ⟨f0, g_25, f2, f3, f4, f5, f6, f7, va_Ht ht hX9.1, hX9.2, (lf_X5_put_19 hfi hj hk e_1 c_2 e_3 c_4 e_21 hu_25)⟩⟩, hS.F ht⟩) hS.2.2 dX5_put_45
      · skip
        have hl : lv_has ls 5 [(4, .int v_21), (0, .ref h), (1, .int 2), (2, .int (nI k)), (3, .int v)] := hl
        refine lv_aload_n hx hb dX5_put_33 rfl (lv_at hl 1 rfl) ?_
        refine va_get (D := (dC, dI)) (ci := 5) (v := .ref it) (C := RX5) (T := TX5) (N := 3) hx hb hts i_X5_put_X5 hown hK hP 0 rfl rfl 0 (by decide) (hts _ mx_X5_put_2) (fun _ h9 => h9) rfl dX5_put_34 ?_
        refine lv_iload_n hx hb dX5_put_37 rfl (lv_at hl 2 rfl) ?_
        refine nw_alk hx hb hK hP 2 3 rfl rfl 2 rfl (Nat.le_of_ble_eq_true rfl) (Nat.le_of_ble_eq_true rfl) hfi.2.2.1 dX5_put_38 ?_
        refine lv_iload_n hx hb dX5_put_39 rfl (lv_at hl 3 rfl) ?_
        refine lv_iload hx hb dX5_put_40 (lv_at hl 0 rfl) ?_
        refine va_iast hx hb hK hP hD hS 5 0 rfl rfl (vp_in_nI (by omega) (by omega)) dX5_put_42 (fun H locs hP hD hS => ?_)
        generalize hg_27 : upd f2 ((nI k) : Int32).toNatClampNeg v_21 = g_27 at hP hD
        have hu_27 : g_27 = upd f2 k v_21 := (by rw [← hg_27, nI_clamp (by omega)])
        have hP : va_P (dC, dI) vwCl [(xo_5_rrr h it la le), (xI la cI 8 fl), (xJ it cJ 8 fi), (xI y0 cI 40 f0), (xI y1 cI 40 f1), (xI y2 cI 40 g_27), (xI y3 cI 40 f3), (xI y4 cI 40 f4), (xI y5 cI 40 f5), (xI y6 cI 40 f6), (xI y7 cI 40 f7)] H := hP
        have hD := dto hP hD
        refine lv_iload hx hb dX5_put_43 (lv_at hl 0 rfl) ?_
        have hX9 := cut2 (wc := [(xo_5_rrr h it la le), (xI la cI 8 fl), (xJ it cJ 8 fi), (xI y0 cI 40 f0), (xI y1 cI 40 f1), (xI y2 cI 40 g_27), (xI y3 cI 40 f3), (xI y4 cI 40 f4), (xI y5 cI 40 f5), (xI y6 cI 40 f6), (xI y7 cI 40 f7)]) hP hD [0, 1, 2, 3, 4, 5, 6, 7, 8, 9, 10] (by decide +kernel) rfl
        exact W.iret (v := v_21) hx hb hr (fun t ht hW => ⟨⟨v_21, (), rfl, (lf_X5_put_22 hfi hj hk e_1 c_2 e_3 c_4 e_21 hu_27), ⟨f0, f1, g_27, f3, f4, f5, f6, f7, va_Ht ht hX9.1, hX9.2, (lf_X5_put_21 hfi hj hk e_1 c_2 e_3 c_4 e_21 hu_27)⟩⟩, hS.F ht⟩) hS.2.2 dX5_put_45
      · skip
        have hl : lv_has ls 5 [(4, .int v_21), (0, .ref h), (1, .int 3), (2, .int (nI k)), (3, .int v)] := hl
        refine lv_aload_n hx hb dX5_put_33 rfl (lv_at hl 1 rfl) ?_
        refine va_get (D := (dC, dI)) (ci := 5) (v := .ref it) (C := RX5) (T := TX5) (N := 3) hx hb hts i_X5_put_X5 hown hK hP 0 rfl rfl 0 (by decide) (hts _ mx_X5_put_2) (fun _ h9 => h9) rfl dX5_put_34 ?_
        refine lv_iload_n hx hb dX5_put_37 rfl (lv_at hl 2 rfl) ?_
        refine nw_alk hx hb hK hP 2 3 rfl rfl 3 rfl (Nat.le_of_ble_eq_true rfl) (Nat.le_of_ble_eq_true rfl) hfi.2.2.2.1 dX5_put_38 ?_
        refine lv_iload_n hx hb dX5_put_39 rfl (lv_at hl 3 rfl) ?_
        refine lv_iload hx hb dX5_put_40 (lv_at hl 0 rfl) ?_
        refine va_iast hx hb hK hP hD hS 6 0 rfl rfl (vp_in_nI (by omega) (by omega)) dX5_put_42 (fun H locs hP hD hS => ?_)
        generalize hg_29 : upd f3 ((nI k) : Int32).toNatClampNeg v_21 = g_29 at hP hD
        have hu_29 : g_29 = upd f3 k v_21 := (by rw [← hg_29, nI_clamp (by omega)])
        have hP : va_P (dC, dI) vwCl [(xo_5_rrr h it la le), (xI la cI 8 fl), (xJ it cJ 8 fi), (xI y0 cI 40 f0), (xI y1 cI 40 f1), (xI y2 cI 40 f2), (xI y3 cI 40 g_29), (xI y4 cI 40 f4), (xI y5 cI 40 f5), (xI y6 cI 40 f6), (xI y7 cI 40 f7)] H := hP
        have hD := dto hP hD
        refine lv_iload hx hb dX5_put_43 (lv_at hl 0 rfl) ?_
        have hX9 := cut2 (wc := [(xo_5_rrr h it la le), (xI la cI 8 fl), (xJ it cJ 8 fi), (xI y0 cI 40 f0), (xI y1 cI 40 f1), (xI y2 cI 40 f2), (xI y3 cI 40 g_29), (xI y4 cI 40 f4), (xI y5 cI 40 f5), (xI y6 cI 40 f6), (xI y7 cI 40 f7)]) hP hD [0, 1, 2, 3, 4, 5, 6, 7, 8, 9, 10] (by decide +kernel) rfl
        exact W.iret (v := v_21) hx hb hr (fun t ht hW => ⟨⟨v_21, (), rfl, (lf_X5_put_24 hfi hj hk e_1 c_2 e_3 c_4 e_21 hu_29), ⟨f0, f1, f2, g_29, f4, f5, f6, f7, va_Ht ht hX9.1, hX9.2, (lf_X5_put_23 hfi hj hk e_1 c_2 e_3 c_4 e_21 hu_29)⟩⟩, hS.F ht⟩) hS.2.2 dX5_put_45
      · skip
        have hl : lv_has ls 5 [(4, .int v_21), (0, .ref h), (1, .int 4), (2, .int (nI k)), (3, .int v)] := hl
        refine lv_aload_n hx hb dX5_put_33 rfl (lv_at hl 1 rfl) ?_
        refine va_get (D := (dC, dI)) (ci := 5) (v := .ref it) (C := RX5) (T := TX5) (N := 3) hx hb hts i_X5_put_X5 hown hK hP 0 rfl rfl 0 (by decide) (hts _ mx_X5_put_2) (fun _ h9 => h9) rfl dX5_put_34 ?_
        refine lv_iload_n hx hb dX5_put_37 rfl (lv_at hl 2 rfl) ?_
        refine nw_alk hx hb hK hP 2 3 rfl rfl 4 rfl (Nat.le_of_ble_eq_true rfl) (Nat.le_of_ble_eq_true rfl) hfi.2.2.2.2.1 dX5_put_38 ?_
        refine lv_iload_n hx hb dX5_put_39 rfl (lv_at hl 3 rfl) ?_
        refine lv_iload hx hb dX5_put_40 (lv_at hl 0 rfl) ?_
        refine va_iast hx hb hK hP hD hS 7 0 rfl rfl (vp_in_nI (by omega) (by omega)) dX5_put_42 (fun H locs hP hD hS => ?_)
        generalize hg_31 : upd f4 ((nI k) : Int32).toNatClampNeg v_21 = g_31 at hP hD
        have hu_31 : g_31 = upd f4 k v_21 := (by rw [← hg_31, nI_clamp (by omega)])
        have hP : va_P (dC, dI) vwCl [(xo_5_rrr h it la le), (xI la cI 8 fl), (xJ it cJ 8 fi), (xI y0 cI 40 f0), (xI y1 cI 40 f1), (xI y2 cI 40 f2), (xI y3 cI 40 f3), (xI y4 cI 40 g_31), (xI y5 cI 40 f5), (xI y6 cI 40 f6), (xI y7 cI 40 f7)] H := hP
        have hD := dto hP hD
        refine lv_iload hx hb dX5_put_43 (lv_at hl 0 rfl) ?_
        have hX9 := cut2 (wc := [(xo_5_rrr h it la le), (xI la cI 8 fl), (xJ it cJ 8 fi), (xI y0 cI 40 f0), (xI y1 cI 40 f1), (xI y2 cI 40 f2), (xI y3 cI 40 f3), (xI y4 cI 40 g_31), (xI y5 cI 40 f5), (xI y6 cI 40 f6), (xI y7 cI 40 f7)]) hP hD [0, 1, 2, 3, 4, 5, 6, 7, 8, 9, 10] (by decide +kernel) rfl
        exact W.iret (v := v_21) hx hb hr (fun t ht hW => ⟨⟨v_21, (), rfl, (lf_X5_put_26 hfi hj hk e_1 c_2 e_3 c_4 e_21 hu_31), ⟨f0, f1, f2, f3, g_31, f5, f6, f7, va_Ht ht hX9.1, hX9.2, (lf_X5_put_25 hfi hj hk e_1 c_2 e_3 c_4 e_21 hu_31)⟩⟩, hS.F ht⟩) hS.2.2 dX5_put_45
      · skip
        have hl : lv_has ls 5 [(4, .int v_21), (0, .ref h), (1, .int 5), (2, .int (nI k)), (3, .int v)] := hl
        refine lv_aload_n hx hb dX5_put_33 rfl (lv_at hl 1 rfl) ?_
        refine va_get (D := (dC, dI)) (ci := 5) (v := .ref it) (C := RX5) (T := TX5) (N := 3) hx hb hts i_X5_put_X5 hown hK hP 0 rfl rfl 0 (by decide) (hts _ mx_X5_put_2) (fun _ h9 => h9) rfl dX5_put_34 ?_
        refine lv_iload_n hx hb dX5_put_37 rfl (lv_at hl 2 rfl) ?_
        refine nw_alk hx hb hK hP 2 3 rfl rfl 5 rfl (Nat.le_of_ble_eq_true rfl) (Nat.le_of_ble_eq_true rfl) hfi.2.2.2.2.2.1 dX5_put_38 ?_
        refine lv_iload_n hx hb dX5_put_39 rfl (lv_at hl 3 rfl) ?_
        refine lv_iload hx hb dX5_put_40 (lv_at hl 0 rfl) ?_
        refine va_iast hx hb hK hP hD hS 8 0 rfl rfl (vp_in_nI (by omega) (by omega)) dX5_put_42 (fun H locs hP hD hS => ?_)
        generalize hg_33 : upd f5 ((nI k) : Int32).toNatClampNeg v_21 = g_33 at hP hD
        have hu_33 : g_33 = upd f5 k v_21 := (by rw [← hg_33, nI_clamp (by omega)])
        have hP : va_P (dC, dI) vwCl [(xo_5_rrr h it la le), (xI la cI 8 fl), (xJ it cJ 8 fi), (xI y0 cI 40 f0), (xI y1 cI 40 f1), (xI y2 cI 40 f2), (xI y3 cI 40 f3), (xI y4 cI 40 f4), (xI y5 cI 40 g_33), (xI y6 cI 40 f6), (xI y7 cI 40 f7)] H := hP
        have hD := dto hP hD
        refine lv_iload hx hb dX5_put_43 (lv_at hl 0 rfl) ?_
        have hX9 := cut2 (wc := [(xo_5_rrr h it la le), (xI la cI 8 fl), (xJ it cJ 8 fi), (xI y0 cI 40 f0), (xI y1 cI 40 f1), (xI y2 cI 40 f2), (xI y3 cI 40 f3), (xI y4 cI 40 f4), (xI y5 cI 40 g_33), (xI y6 cI 40 f6), (xI y7 cI 40 f7)]) hP hD [0, 1, 2, 3, 4, 5, 6, 7, 8, 9, 10] (by decide +kernel) rfl
        exact W.iret (v := v_21) hx hb hr (fun t ht hW => ⟨⟨v_21, (), rfl, (lf_X5_put_28 hfi hj hk e_1 c_2 e_3 c_4 e_21 hu_33), ⟨f0, f1, f2, f3, f4, g_33, f6, f7, va_Ht ht hX9.1, hX9.2, (lf_X5_put_27 hfi hj hk e_1 c_2 e_3 c_4 e_21 hu_33)⟩⟩, hS.F ht⟩) hS.2.2 dX5_put_45
      · skip
        have hl : lv_has ls 5 [(4, .int v_21), (0, .ref h), (1, .int 6), (2, .int (nI k)), (3, .int v)] := hl
        refine lv_aload_n hx hb dX5_put_33 rfl (lv_at hl 1 rfl) ?_
        refine va_get (D := (dC, dI)) (ci := 5) (v := .ref it) (C := RX5) (T := TX5) (N := 3) hx hb hts i_X5_put_X5 hown hK hP 0 rfl rfl 0 (by decide) (hts _ mx_X5_put_2) (fun _ h9 => h9) rfl dX5_put_34 ?_
        refine lv_iload_n hx hb dX5_put_37 rfl (lv_at hl 2 rfl) ?_
        refine nw_alk hx hb hK hP 2 3 rfl rfl 6 rfl (Nat.le_of_ble_eq_true rfl) (Nat.le_of_ble_eq_true rfl) hfi.2.2.2.2.2.2.1 dX5_put_38 ?_
        refine lv_iload_n hx hb dX5_put_39 rfl (lv_at hl 3 rfl) ?_
        refine lv_iload hx hb dX5_put_40 (lv_at hl 0 rfl) ?_
        refine va_iast hx hb hK hP hD hS 9 0 rfl rfl (vp_in_nI (by omega) (by omega)) dX5_put_42 (fun H locs hP hD hS => ?_)
        generalize hg_35 : upd f6 ((nI k) : Int32).toNatClampNeg v_21 = g_35 at hP hD
        have hu_35 : g_35 = upd f6 k v_21 := (by rw [← hg_35, nI_clamp (by omega)])
        have hP : va_P (dC, dI) vwCl [(xo_5_rrr h it la le), (xI la cI 8 fl), (xJ it cJ 8 fi), (xI y0 cI 40 f0), (xI y1 cI 40 f1), (xI y2 cI 40 f2), (xI y3 cI 40 f3), (xI y4 cI 40 f4), (xI y5 cI 40 f5), (xI y6 cI 40 g_35), (xI y7 cI 40 f7)] H := hP
        have hD := dto hP hD
        refine lv_iload hx hb dX5_put_43 (lv_at hl 0 rfl) ?_
        have hX9 := cut2 (wc := [(xo_5_rrr h it la le), (xI la cI 8 fl), (xJ it cJ 8 fi), (xI y0 cI 40 f0), (xI y1 cI 40 f1), (xI y2 cI 40 f2), (xI y3 cI 40 f3), (xI y4 cI 40 f4), (xI y5 cI 40 f5), (xI y6 cI 40 g_35), (xI y7 cI 40 f7)]) hP hD [0, 1, 2, 3, 4, 5, 6, 7, 8, 9, 10] (by decide +kernel) rfl
        exact W.iret (v := v_21) hx hb hr (fun t ht hW => ⟨⟨v_21, (), rfl, (lf_X5_put_30 hfi hj hk e_1 c_2 e_3 c_4 e_21 hu_35), ⟨f0, f1, f2, f3, f4, f5, g_35, f7, va_Ht ht hX9.1, hX9.2, (lf_X5_put_29 hfi hj hk e_1 c_2 e_3 c_4 e_21 hu_35)⟩⟩, hS.F ht⟩) hS.2.2 dX5_put_45
      · skip
        have hl : lv_has ls 5 [(4, .int v_21), (0, .ref h), (1, .int 7), (2, .int (nI k)), (3, .int v)] := hl
        refine lv_aload_n hx hb dX5_put_33 rfl (lv_at hl 1 rfl) ?_
        refine va_get (D := (dC, dI)) (ci := 5) (v := .ref it) (C := RX5) (T := TX5) (N := 3) hx hb hts i_X5_put_X5 hown hK hP 0 rfl rfl 0 (by decide) (hts _ mx_X5_put_2) (fun _ h9 => h9) rfl dX5_put_34 ?_
        refine lv_iload_n hx hb dX5_put_37 rfl (lv_at hl 2 rfl) ?_
        refine nw_alk hx hb hK hP 2 3 rfl rfl 7 rfl (Nat.le_of_ble_eq_true rfl) (Nat.le_of_ble_eq_true rfl) hfi.2.2.2.2.2.2.2 dX5_put_38 ?_
        refine lv_iload_n hx hb dX5_put_39 rfl (lv_at hl 3 rfl) ?_
        refine lv_iload hx hb dX5_put_40 (lv_at hl 0 rfl) ?_
        refine va_iast hx hb hK hP hD hS 10 0 rfl rfl (vp_in_nI (by omega) (by omega)) dX5_put_42 (fun H locs hP hD hS => ?_)
        generalize hg_37 : upd f7 ((nI k) : Int32).toNatClampNeg v_21 = g_37 at hP hD
        have hu_37 : g_37 = upd f7 k v_21 := (by rw [← hg_37, nI_clamp (by omega)])
        have hP : va_P (dC, dI) vwCl [(xo_5_rrr h it la le), (xI la cI 8 fl), (xJ it cJ 8 fi), (xI y0 cI 40 f0), (xI y1 cI 40 f1), (xI y2 cI 40 f2), (xI y3 cI 40 f3), (xI y4 cI 40 f4), (xI y5 cI 40 f5), (xI y6 cI 40 f6), (xI y7 cI 40 g_37)] H := hP
        have hD := dto hP hD
        refine lv_iload hx hb dX5_put_43 (lv_at hl 0 rfl) ?_
        have hX9 := cut2 (wc := [(xo_5_rrr h it la le), (xI la cI 8 fl), (xJ it cJ 8 fi), (xI y0 cI 40 f0), (xI y1 cI 40 f1), (xI y2 cI 40 f2), (xI y3 cI 40 f3), (xI y4 cI 40 f4), (xI y5 cI 40 f5), (xI y6 cI 40 f6), (xI y7 cI 40 g_37)]) hP hD [0, 1, 2, 3, 4, 5, 6, 7, 8, 9, 10] (by decide +kernel) rfl
        exact W.iret (v := v_21) hx hb hr (fun t ht hW => ⟨⟨v_21, (), rfl, (lf_X5_put_32 hfi hj hk e_1 c_2 e_3 c_4 e_21 hu_37), ⟨f0, f1, f2, f3, f4, f5, f6, g_37, va_Ht ht hX9.1, hX9.2, (lf_X5_put_31 hfi hj hk e_1 c_2 e_3 c_4 e_21 hu_37)⟩⟩, hS.F ht⟩) hS.2.2 dX5_put_45
  · skip
    refine lv_iload_n hx hb dX5_put_12 rfl (lv_at hl 4 rfl) ?_
    refine lv_i2b hx hb dX5_put_13 rfl ?_
    refine lv_topi (fun v_38 e_38 => ?_)
    refine lv_istore (lv' := [(4, .int v_38), (0, .ref h), (1, .int (nI j)), (2, .int (nI k)), (3, .int v)]) hx hb dX5_put_14 hl (by decide) rfl (fun ls hl => ?_)
    refine lv_goto (tgt := 33) hx hb dX5_put_16 (by decide) ?_
    rcases (show j = 0 ∨ j = 1 ∨ j = 2 ∨ j = 3 ∨ j = 4 ∨ j = 5 ∨ j = 6 ∨ j = 7 by omega) with rfl | rfl | rfl | rfl | rfl | rfl | rfl | rfl
    · skip
      have hl : lv_has ls 5 [(4, .int v_38), (0, .ref h), (1, .int 0), (2, .int (nI k)), (3, .int v)] := hl
      refine lv_aload_n hx hb dX5_put_33 rfl (lv_at hl 1 rfl) ?_
      refine va_get (D := (dC, dI)) (ci := 5) (v := .ref it) (C := RX5) (T := TX5) (N := 3) hx hb hts i_X5_put_X5 hown hK hP 0 rfl rfl 0 (by decide) (hts _ mx_X5_put_2) (fun _ h9 => h9) rfl dX5_put_34 ?_
      refine lv_iload_n hx hb dX5_put_37 rfl (lv_at hl 2 rfl) ?_
      refine nw_alk hx hb hK hP 2 3 rfl rfl 0 rfl (Nat.le_of_ble_eq_true rfl) (Nat.le_of_ble_eq_true rfl) hfi.1 dX5_put_38 ?_
      refine lv_iload_n hx hb dX5_put_39 rfl (lv_at hl 3 rfl) ?_
      refine lv_iload hx hb dX5_put_40 (lv_at hl 0 rfl) ?_
      refine va_iast hx hb hK hP hD hS 3 0 rfl rfl (vp_in_nI (by omega) (by omega)) dX5_put_42 (fun H locs hP hD hS => ?_)
      generalize hg_40 : upd f0 ((nI k) : Int32).toNatClampNeg v_38 = g_40 at hP hD
      have hu_40 : g_40 = upd f0 k v_38 := (by rw [← hg_40, nI_clamp (by omega)])
      have hP : va_P (dC, dI) vwCl [(xo_5_rrr h it la le), (xI la cI 8 fl), (xJ it cJ 8 fi), (xI y0 cI 40 g_40), (xI y1 cI 40 f1), (xI y2 cI 40 f2), (xI y3 cI 40 f3), (xI y4 cI 40 f4), (xI y5 cI 40 f5), (xI y6 cI 40 f6), (xI y7 cI 40 f7)] H := hP
      have hD := dto hP hD
      refine lv_iload hx hb dX5_put_43 (lv_at hl 0 rfl) ?_
      have hX9 := cut2 (wc := [(xo_5_rrr h it la le), (xI la cI 8 fl), (xJ it cJ 8 fi), (xI y0 cI 40 g_40), (xI y1 cI 40 f1), (xI y2 cI 40 f2), (xI y3 cI 40 f3), (xI y4 cI 40 f4), (xI y5 cI 40 f5), (xI y6 cI 40 f6), (xI y7 cI 40 f7)]) hP hD [0, 1, 2, 3, 4, 5, 6, 7, 8, 9, 10] (by decide +kernel) rfl
      exact W.iret (v := v_38) hx hb hr (fun t ht hW => ⟨⟨v_38, (), rfl, (lf_X5_put_34 hfi hj hk e_1 c_2 e_38 hu_40), ⟨g_40, f1, f2, f3, f4, f5, f6, f7, va_Ht ht hX9.1, hX9.2, (lf_X5_put_33 hfi hj hk e_1 c_2 e_38 hu_40)⟩⟩, hS.F ht⟩) hS.2.2 dX5_put_45
    · skip
      have hl : lv_has ls 5 [(4, .int v_38), (0, .ref h), (1, .int 1), (2, .int (nI k)), (3, .int v)] := hl
      refine lv_aload_n hx hb dX5_put_33 rfl (lv_at hl 1 rfl) ?_
      refine va_get (D := (dC, dI)) (ci := 5) (v := .ref it) (C := RX5) (T := TX5) (N := 3) hx hb hts i_X5_put_X5 hown hK hP 0 rfl rfl 0 (by decide) (hts _ mx_X5_put_2) (fun _ h9 => h9) rfl dX5_put_34 ?_
      refine lv_iload_n hx hb dX5_put_37 rfl (lv_at hl 2 rfl) ?_
      refine nw_alk hx hb hK hP 2 3 rfl rfl 1 rfl (Nat.le_of_ble_eq_true rfl) (Nat.le_of_ble_eq_true rfl) hfi.2.1 dX5_put_38 ?_
      refine lv_iload_n hx hb dX5_put_39 rfl (lv_at hl 3 rfl) ?_
      refine lv_iload hx hb dX5_put_40 (lv_at hl 0 rfl) ?_
      refine va_iast hx hb hK hP hD hS 4 0 rfl rfl (vp_in_nI (by omega) (by omega)) dX5_put_42 (fun H locs hP hD hS => ?_)
      generalize hg_42 : upd f1 ((nI k) : Int32).toNatClampNeg v_38 = g_42 at hP hD
      have hu_42 : g_42 = upd f1 k v_38 := (by rw [← hg_42, nI_clamp (by omega)])
      have hP : va_P (dC, dI) vwCl [(xo_5_rrr h it la le), (xI la cI 8 fl), (xJ it cJ 8 fi), (xI y0 cI 40 f0), (xI y1 cI 40 g_42), (xI y2 cI 40 f2), (xI y3 cI 40 f3), (xI y4 cI 40 f4), (xI y5 cI 40 f5), (xI y6 cI 40 f6), (xI y7 cI 40 f7)] H := hP
      have hD := dto hP hD
      refine lv_iload hx hb dX5_put_43 (lv_at hl 0 rfl) ?_
      have hX9 := cut2 (wc := [(xo_5_rrr h it la le), (xI la cI 8 fl), (xJ it cJ 8 fi), (xI y0 cI 40 f0), (xI y1 cI 40 g_42), (xI y2 cI 40 f2), (xI y3 cI 40 f3), (xI y4 cI 40 f4), (xI y5 cI 40 f5), (xI y6 cI 40 f6), (xI y7 cI 40 f7)]) hP hD [0, 1, 2, 3, 4, 5, 6, 7, 8, 9, 10] (by decide +kernel) rfl
      exact W.iret (v := v_38) hx hb hr (fun t ht hW => ⟨⟨v_38, (), rfl, (lf_X5_put_36 hfi hj hk e_1 c_2 e_38 hu_42), ⟨f0, g_42, f2, f3, f4, f5, f6, f7, va_Ht ht hX9.1, hX9.2, (lf_X5_put_35 hfi hj hk e_1 c_2 e_38 hu_42)⟩⟩, hS.F ht⟩) hS.2.2 dX5_put_45
    · skip
      have hl : lv_has ls 5 [(4, .int v_38), (0, .ref h), (1, .int 2), (2, .int (nI k)), (3, .int v)] := hl
      refine lv_aload_n hx hb dX5_put_33 rfl (lv_at hl 1 rfl) ?_
      refine va_get (D := (dC, dI)) (ci := 5) (v := .ref it) (C := RX5) (T := TX5) (N := 3) hx hb hts i_X5_put_X5 hown hK hP 0 rfl rfl 0 (by decide) (hts _ mx_X5_put_2) (fun _ h9 => h9) rfl dX5_put_34 ?_
      refine lv_iload_n hx hb dX5_put_37 rfl (lv_at hl 2 rfl) ?_
      refine nw_alk hx hb hK hP 2 3 rfl rfl 2 rfl (Nat.le_of_ble_eq_true rfl) (Nat.le_of_ble_eq_true rfl) hfi.2.2.1 dX5_put_38 ?_
      refine lv_iload_n hx hb dX5_put_39 rfl (lv_at hl 3 rfl) ?_
      refine lv_iload hx hb dX5_put_40 (lv_at hl 0 rfl) ?_
      refine va_iast hx hb hK hP hD hS 5 0 rfl rfl (vp_in_nI (by omega) (by omega)) dX5_put_42 (fun H locs hP hD hS => ?_)
      generalize hg_44 : upd f2 ((nI k) : Int32).toNatClampNeg v_38 = g_44 at hP hD
      have hu_44 : g_44 = upd f2 k v_38 := (by rw [← hg_44, nI_clamp (by omega)])
      have hP : va_P (dC, dI) vwCl [(xo_5_rrr h it la le), (xI la cI 8 fl), (xJ it cJ 8 fi), (xI y0 cI 40 f0), (xI y1 cI 40 f1), (xI y2 cI 40 g_44), (xI y3 cI 40 f3), (xI y4 cI 40 f4), (xI y5 cI 40 f5), (xI y6 cI 40 f6), (xI y7 cI 40 f7)] H := hP
      have hD := dto hP hD
      refine lv_iload hx hb dX5_put_43 (lv_at hl 0 rfl) ?_
      have hX9 := cut2 (wc := [(xo_5_rrr h it la le), (xI la cI 8 fl), (xJ it cJ 8 fi), (xI y0 cI 40 f0), (xI y1 cI 40 f1), (xI y2 cI 40 g_44), (xI y3 cI 40 f3), (xI y4 cI 40 f4), (xI y5 cI 40 f5), (xI y6 cI 40 f6), (xI y7 cI 40 f7)]) hP hD [0, 1, 2, 3, 4, 5, 6, 7, 8, 9, 10] (by decide +kernel) rfl
      exact W.iret (v := v_38) hx hb hr (fun t ht hW => ⟨⟨v_38, (), rfl, (lf_X5_put_38 hfi hj hk e_1 c_2 e_38 hu_44), ⟨f0, f1, g_44, f3, f4, f5, f6, f7, va_Ht ht hX9.1, hX9.2, (lf_X5_put_37 hfi hj hk e_1 c_2 e_38 hu_44)⟩⟩, hS.F ht⟩) hS.2.2 dX5_put_45
    · skip
      have hl : lv_has ls 5 [(4, .int v_38), (0, .ref h), (1, .int 3), (2, .int (nI k)), (3, .int v)] := hl
      refine lv_aload_n hx hb dX5_put_33 rfl (lv_at hl 1 rfl) ?_
      refine va_get (D := (dC, dI)) (ci := 5) (v := .ref it) (C := RX5) (T := TX5) (N := 3) hx hb hts i_X5_put_X5 hown hK hP 0 rfl rfl 0 (by decide) (hts _ mx_X5_put_2) (fun _ h9 => h9) rfl dX5_put_34 ?_
      refine lv_iload_n hx hb dX5_put_37 rfl (lv_at hl 2 rfl) ?_
      refine nw_alk hx hb hK hP 2 3 rfl rfl 3 rfl (Nat.le_of_ble_eq_true rfl) (Nat.le_of_ble_eq_true rfl) hfi.2.2.2.1 dX5_put_38 ?_
      refine lv_iload_n hx hb dX5_put_39 rfl (lv_at hl 3 rfl) ?_
      refine lv_iload hx hb dX5_put_40 (lv_at hl 0 rfl) ?_
      refine va_iast hx hb hK hP hD hS 6 0 rfl rfl (vp_in_nI (by omega) (by omega)) dX5_put_42 (fun H locs hP hD hS => ?_)
      generalize hg_46 : upd f3 ((nI k) : Int32).toNatClampNeg v_38 = g_46 at hP hD
      have hu_46 : g_46 = upd f3 k v_38 := (by rw [← hg_46, nI_clamp (by omega)])
      have hP : va_P (dC, dI) vwCl [(xo_5_rrr h it la le), (xI la cI 8 fl), (xJ it cJ 8 fi), (xI y0 cI 40 f0), (xI y1 cI 40 f1), (xI y2 cI 40 f2), (xI y3 cI 40 g_46), (xI y4 cI 40 f4), (xI y5 cI 40 f5), (xI y6 cI 40 f6), (xI y7 cI 40 f7)] H := hP
      have hD := dto hP hD
      refine lv_iload hx hb dX5_put_43 (lv_at hl 0 rfl) ?_
      have hX9 := cut2 (wc := [(xo_5_rrr h it la le), (xI la cI 8 fl), (xJ it cJ 8 fi), (xI y0 cI 40 f0), (xI y1 cI 40 f1), (xI y2 cI 40 f2), (xI y3 cI 40 g_46), (xI y4 cI 40 f4), (xI y5 cI 40 f5), (xI y6 cI 40 f6), (xI y7 cI 40 f7)]) hP hD [0, 1, 2, 3, 4, 5, 6, 7, 8, 9, 10] (by decide +kernel) rfl
      exact W.iret (v := v_38) hx hb hr (fun t ht hW => ⟨⟨v_38, (), rfl, (lf_X5_put_40 hfi hj hk e_1 c_2 e_38 hu_46), ⟨f0, f1, f2, g_46, f4, f5, f6, f7, va_Ht ht hX9.1, hX9.2, (lf_X5_put_39 hfi hj hk e_1 c_2 e_38 hu_46)⟩⟩, hS.F ht⟩) hS.2.2 dX5_put_45
    · skip
      have hl : lv_has ls 5 [(4, .int v_38), (0, .ref h), (1, .int 4), (2, .int (nI k)), (3, .int v)] := hl
      refine lv_aload_n hx hb dX5_put_33 rfl (lv_at hl 1 rfl) ?_
      refine va_get (D := (dC, dI)) (ci := 5) (v := .ref it) (C := RX5) (T := TX5) (N := 3) hx hb hts i_X5_put_X5 hown hK hP 0 rfl rfl 0 (by decide) (hts _ mx_X5_put_2) (fun _ h9 => h9) rfl dX5_put_34 ?_
      refine lv_iload_n hx hb dX5_put_37 rfl (lv_at hl 2 rfl) ?_
      refine nw_alk hx hb hK hP 2 3 rfl rfl 4 rfl (Nat.le_of_ble_eq_true rfl) (Nat.le_of_ble_eq_true rfl) hfi.2.2.2.2.1 dX5_put_38 ?_
      refine lv_iload_n hx hb dX5_put_39 rfl (lv_at hl 3 rfl) ?_
      refine lv_iload hx hb dX5_put_40 (lv_at hl 0 rfl) ?_
      refine va_iast hx hb hK hP hD hS 7 0 rfl rfl (vp_in_nI (by omega) (by omega)) dX5_put_42 (fun H locs hP hD hS => ?_)
      generalize hg_48 : upd f4 ((nI k) : Int32).toNatClampNeg v_38 = g_48 at hP hD
      have hu_48 : g_48 = upd f4 k v_38 := (by rw [← hg_48, nI_clamp (by omega)])
      have hP : va_P (dC, dI) vwCl [(xo_5_rrr h it la le), (xI la cI 8 fl), (xJ it cJ 8 fi), (xI y0 cI 40 f0), (xI y1 cI 40 f1), (xI y2 cI 40 f2), (xI y3 cI 40 f3), (xI y4 cI 40 g_48), (xI y5 cI 40 f5), (xI y6 cI 40 f6), (xI y7 cI 40 f7)] H := hP
      have hD := dto hP hD
      refine lv_iload hx hb dX5_put_43 (lv_at hl 0 rfl) ?_
      have hX9 := cut2 (wc := [(xo_5_rrr h it la le), (xI la cI 8 fl), (xJ it cJ 8 fi), (xI y0 cI 40 f0), (xI y1 cI 40 f1), (xI y2 cI 40 f2), (xI y3 cI 40 f3), (xI y4 cI 40 g_48), (xI y5 cI 40 f5), (xI y6 cI 40 f6), (xI y7 cI 40 f7)]) hP hD [0, 1, 2, 3, 4, 5, 6, 7, 8, 9, 10] (by decide +kernel) rfl
      exact W.iret (v := v_38) hx hb hr (fun t ht hW => ⟨⟨v_38, (), rfl, (lf_X5_put_42 hfi hj hk e_1 c_2 e_38 hu_48), ⟨f0, f1, f2, f3, g_48, f5, f6, f7, va_Ht ht hX9.1, hX9.2, (lf_X5_put_41 hfi hj hk e_1 c_2 e_38 hu_48)⟩⟩, hS.F ht⟩) hS.2.2 dX5_put_45
    · skip
      have hl : lv_has ls 5 [(4, .int v_38), (0, .ref h), (1, .int 5), (2, .int (nI k)), (3, .int v)] := hl
      refine lv_aload_n hx hb dX5_put_33 rfl (lv_at hl 1 rfl) ?_
      refine va_get (D := (dC, dI)) (ci := 5) (v := .ref it) (C := RX5) (T := TX5) (N := 3) hx hb hts i_X5_put_X5 hown hK hP 0 rfl rfl 0 (by decide) (hts _ mx_X5_put_2) (fun _ h9 => h9) rfl dX5_put_34 ?_
      refine lv_iload_n hx hb dX5_put_37 rfl (lv_at hl 2 rfl) ?_
      refine nw_alk hx hb hK hP 2 3 rfl rfl 5 rfl (Nat.le_of_ble_eq_true rfl) (Nat.le_of_ble_eq_true rfl) hfi.2.2.2.2.2.1 dX5_put_38 ?_
      refine lv_iload_n hx hb dX5_put_39 rfl (lv_at hl 3 rfl) ?_
      refine lv_iload hx hb dX5_put_40 (lv_at hl 0 rfl) ?_
      refine va_iast hx hb hK hP hD hS 8 0 rfl rfl (vp_in_nI (by omega) (by omega)) dX5_put_42 (fun H locs hP hD hS => ?_)
      generalize hg_50 : upd f5 ((nI k) : Int32).toNatClampNeg v_38 = g_50 at hP hD
      have hu_50 : g_50 = upd f5 k v_38 := (by rw [← hg_50, nI_clamp (by omega)])
      have hP : va_P (dC, dI) vwCl [(xo_5_rrr h it la le), (xI la cI 8 fl), (xJ it cJ 8 fi), (xI y0 cI 40 f0), (xI y1 cI 40 f1), (xI y2 cI 40 f2), (xI y3 cI 40 f3), (xI y4 cI 40 f4), (xI y5 cI 40 g_50), (xI y6 cI 40 f6), (xI y7 cI 40 f7)] H := hP
      have hD := dto hP hD
      refine lv_iload hx hb dX5_put_43 (lv_at hl 0 rfl) ?_
      have hX9 := cut2 (wc := [(xo_5_rrr h it la le), (xI la cI 8 fl), (xJ it cJ 8 fi), (xI y0 cI 40 f0), (xI y1 cI 40 f1), (xI y2 cI 40 f2), (xI y3 cI 40 f3), (xI y4 cI 40 f4), (xI y5 cI 40 g_50), (xI y6 cI 40 f6), (xI y7 cI 40 f7)]) hP hD [0, 1, 2, 3, 4, 5, 6, 7, 8, 9, 10] (by decide +kernel) rfl
      exact W.iret (v := v_38) hx hb hr (fun t ht hW => ⟨⟨v_38, (), rfl, (lf_X5_put_44 hfi hj hk e_1 c_2 e_38 hu_50), ⟨f0, f1, f2, f3, f4, g_50, f6, f7, va_Ht ht hX9.1, hX9.2, (lf_X5_put_43 hfi hj hk e_1 c_2 e_38 hu_50)⟩⟩, hS.F ht⟩) hS.2.2 dX5_put_45
    · skip
      have hl : lv_has ls 5 [(4, .int v_38), (0, .ref h), (1, .int 6), (2, .int (nI k)), (3, .int v)] := hl
      refine lv_aload_n hx hb dX5_put_33 rfl (lv_at hl 1 rfl) ?_
      refine va_get (D := (dC, dI)) (ci := 5) (v := .ref it) (C := RX5) (T := TX5) (N := 3) hx hb hts i_X5_put_X5 hown hK hP 0 rfl rfl 0 (by decide) (hts _ mx_X5_put_2) (fun _ h9 => h9) rfl dX5_put_34 ?_
      refine lv_iload_n hx hb dX5_put_37 rfl (lv_at hl 2 rfl) ?_
      refine nw_alk hx hb hK hP 2 3 rfl rfl 6 rfl (Nat.le_of_ble_eq_true rfl) (Nat.le_of_ble_eq_true rfl) hfi.2.2.2.2.2.2.1 dX5_put_38 ?_
      refine lv_iload_n hx hb dX5_put_39 rfl (lv_at hl 3 rfl) ?_
      refine lv_iload hx hb dX5_put_40 (lv_at hl 0 rfl) ?_
      refine va_iast hx hb hK hP hD hS 9 0 rfl rfl (vp_in_nI (by omega) (by omega)) dX5_put_42 (fun H locs hP hD hS => ?_)
      generalize hg_52 : upd f6 ((nI k) : Int32).toNatClampNeg v_38 = g_52 at hP hD
      have hu_52 : g_52 = upd f6 k v_38 := (by rw [← hg_52, nI_clamp (by omega)])
      have hP : va_P (dC, dI) vwCl [(xo_5_rrr h it la le), (xI la cI 8 fl), (xJ it cJ 8 fi), (xI y0 cI 40 f0), (xI y1 cI 40 f1), (xI y2 cI 40 f2), (xI y3 cI 40 f3), (xI y4 cI 40 f4), (xI y5 cI 40 f5), (xI y6 cI 40 g_52), (xI y7 cI 40 f7)] H := hP
      have hD := dto hP hD
      refine lv_iload hx hb dX5_put_43 (lv_at hl 0 rfl) ?_
      have hX9 := cut2 (wc := [(xo_5_rrr h it la le), (xI la cI 8 fl), (xJ it cJ 8 fi), (xI y0 cI 40 f0), (xI y1 cI 40 f1), (xI y2 cI 40 f2), (xI y3 cI 40 f3), (xI y4 cI 40 f4), (xI y5 cI 40 f5), (xI y6 cI 40 g_52), (xI y7 cI 40 f7)]) hP hD [0, 1, 2, 3, 4, 5, 6, 7, 8, 9, 10] (by decide +kernel) rfl
      exact W.iret (v := v_38) hx hb hr (fun t ht hW => ⟨⟨v_38, (), rfl, (lf_X5_put_46 hfi hj hk e_1 c_2 e_38 hu_52), ⟨f0, f1, f2, f3, f4, f5, g_52, f7, va_Ht ht hX9.1, hX9.2, (lf_X5_put_45 hfi hj hk e_1 c_2 e_38 hu_52)⟩⟩, hS.F ht⟩) hS.2.2 dX5_put_45
    · skip
      have hl : lv_has ls 5 [(4, .int v_38), (0, .ref h), (1, .int 7), (2, .int (nI k)), (3, .int v)] := hl
      refine lv_aload_n hx hb dX5_put_33 rfl (lv_at hl 1 rfl) ?_
      refine va_get (D := (dC, dI)) (ci := 5) (v := .ref it) (C := RX5) (T := TX5) (N := 3) hx hb hts i_X5_put_X5 hown hK hP 0 rfl rfl 0 (by decide) (hts _ mx_X5_put_2) (fun _ h9 => h9) rfl dX5_put_34 ?_
      refine lv_iload_n hx hb dX5_put_37 rfl (lv_at hl 2 rfl) ?_
      refine nw_alk hx hb hK hP 2 3 rfl rfl 7 rfl (Nat.le_of_ble_eq_true rfl) (Nat.le_of_ble_eq_true rfl) hfi.2.2.2.2.2.2.2 dX5_put_38 ?_
      refine lv_iload_n hx hb dX5_put_39 rfl (lv_at hl 3 rfl) ?_
      refine lv_iload hx hb dX5_put_40 (lv_at hl 0 rfl) ?_
      refine va_iast hx hb hK hP hD hS 10 0 rfl rfl (vp_in_nI (by omega) (by omega)) dX5_put_42 (fun H locs hP hD hS => ?_)
      generalize hg_54 : upd f7 ((nI k) : Int32).toNatClampNeg v_38 = g_54 at hP hD
      have hu_54 : g_54 = upd f7 k v_38 := (by rw [← hg_54, nI_clamp (by omega)])
      have hP : va_P (dC, dI) vwCl [(xo_5_rrr h it la le), (xI la cI 8 fl), (xJ it cJ 8 fi), (xI y0 cI 40 f0), (xI y1 cI 40 f1), (xI y2 cI 40 f2), (xI y3 cI 40 f3), (xI y4 cI 40 f4), (xI y5 cI 40 f5), (xI y6 cI 40 f6), (xI y7 cI 40 g_54)] H := hP
      have hD := dto hP hD
      refine lv_iload hx hb dX5_put_43 (lv_at hl 0 rfl) ?_
      have hX9 := cut2 (wc := [(xo_5_rrr h it la le), (xI la cI 8 fl), (xJ it cJ 8 fi), (xI y0 cI 40 f0), (xI y1 cI 40 f1), (xI y2 cI 40 f2), (xI y3 cI 40 f3), (xI y4 cI 40 f4), (xI y5 cI 40 f5), (xI y6 cI 40 f6), (xI y7 cI 40 g_54)]) hP hD [0, 1, 2, 3, 4, 5, 6, 7, 8, 9, 10] (by decide +kernel) rfl
      exact W.iret (v := v_38) hx hb hr (fun t ht hW => ⟨⟨v_38, (), rfl, (lf_X5_put_48 hfi hj hk e_1 c_2 e_38 hu_54), ⟨f0, f1, f2, f3, f4, f5, f6, g_54, va_Ht ht hX9.1, hX9.2, (lf_X5_put_47 hfi hj hk e_1 c_2 e_38 hu_54)⟩⟩, hS.F ht⟩) hS.2.2 dX5_put_45
theorem lf_X5_move_1 {y0 : Nat} {y1 : Nat} {y2 : Nat} {y3 : Nat} {y4 : Nat} {y5 : Nat} {y6 : Nat} {y7 : Nat} {f0 : Nat → Int32} {f1 : Nat → Int32} {f2 : Nat → Int32} {f3 : Nat → Int32} {f4 : Nat → Int32} {f5 : Nat → Int32} {f6 : Nat → Int32} {f7 : Nat → Int32} {fi : Nat → Option Nat} {a : Nat} {b : Nat} {n : Nat} {g_3 : Nat → Int32} (hfi : fi 0 = some y0 ∧ fi 1 = some y1 ∧ fi 2 = some y2 ∧ fi 3 = some y3 ∧ fi 4 = some y4 ∧ fi 5 = some y5 ∧ fi 6 = some y6 ∧ fi 7 = some y7) (hj : 0 < 8) (hk : 0 < 8) (ha : a + n ≤ 40) (hb2 : b + n ≤ 40) (hu_3 : g_3 = va_cpy f0 f0 ((nI a) : Int32).toNatClampNeg ((nI b) : Int32).toNatClampNeg ((nI n) : Int32).toNatClampNeg) : (itX g_3 f1 f2 f3 f4 f5 f6 f7) = upI (itX f0 f1 f2 f3 f4 f5 f6 f7) 0 (cpI ((itX f0 f1 f2 f3 f4 f5 f6 f7) 0) ((itX f0 f1 f2 f3 f4 f5 f6 f7) 0) a b n) := by
  first
  | exact it_m0 ha hb2 (by assumption) (fun i hi => (if_pos hi).symm)
  | exact it_m1 ha hb2 (by assumption) (fun i hi => (if_pos hi).symm)
  | exact it_m2 ha hb2 (by assumption) (fun i hi => (if_pos hi).symm)
  | exact it_m3 ha hb2 (by assumption) (fun i hi => (if_pos hi).symm)
  | exact it_m4 ha hb2 (by assumption) (fun i hi => (if_pos hi).symm)
  | exact it_m5 ha hb2 (by assumption) (fun i hi => (if_pos hi).symm)
  | exact it_m6 ha hb2 (by assumption) (fun i hi => (if_pos hi).symm)
  | exact it_m7 ha hb2 (by assumption) (fun i hi => (if_pos hi).symm)
theorem lf_X5_move_2 {y0 : Nat} {y1 : Nat} {y2 : Nat} {y3 : Nat} {y4 : Nat} {y5 : Nat} {y6 : Nat} {y7 : Nat} {f0 : Nat → Int32} {f1 : Nat → Int32} {f2 : Nat → Int32} {f3 : Nat → Int32} {f4 : Nat → Int32} {f5 : Nat → Int32} {f6 : Nat → Int32} {f7 : Nat → Int32} {fi : Nat → Option Nat} {a : Nat} {b : Nat} {n : Nat} {g_5 : Nat → Int32} (hfi : fi 0 = some y0 ∧ fi 1 = some y1 ∧ fi 2 = some y2 ∧ fi 3 = some y3 ∧ fi 4 = some y4 ∧ fi 5 = some y5 ∧ fi 6 = some y6 ∧ fi 7 = some y7) (hj : 0 < 8) (hk : 1 < 8) (ha : a + n ≤ 40) (hb2 : b + n ≤ 40) (hu_5 : g_5 = va_cpy f0 f1 ((nI a) : Int32).toNatClampNeg ((nI b) : Int32).toNatClampNeg ((nI n) : Int32).toNatClampNeg) : (itX f0 g_5 f2 f3 f4 f5 f6 f7) = upI (itX f0 f1 f2 f3 f4 f5 f6 f7) 1 (cpI ((itX f0 f1 f2 f3 f4 f5 f6 f7) 0) ((itX f0 f1 f2 f3 f4 f5 f6 f7) 1) a b n) := by
  first
  | exact it_m0 ha hb2 (by assumption) (fun i hi => (if_pos hi).symm)
  | exact it_m1 ha hb2 (by assumption) (fun i hi => (if_pos hi).symm)
  | exact it_m2 ha hb2 (by assumption) (fun i hi => (if_pos hi).symm)
  | exact it_m3 ha hb2 (by assumption) (fun i hi => (if_pos hi).symm)
  | exact it_m4 ha hb2 (by assumption) (fun i hi => (if_pos hi).symm)
  | exact it_m5 ha hb2 (by assumption) (fun i hi => (if_pos hi).symm)
  | exact it_m6 ha hb2 (by assumption) (fun i hi => (if_pos hi).symm)
  | exact it_m7 ha hb2 (by assumption) (fun i hi => (if_pos hi).symm)
theorem lf_X5_move_3 {y0 : Nat} {y1 : Nat} {y2 : Nat} {y3 : Nat} {y4 : Nat} {y5 : Nat} {y6 : Nat} {y7 : Nat} {f0 : Nat → Int32} {f1 : Nat → Int32} {f2 : Nat → Int32} {f3 : Nat → Int32} {f4 : Nat → Int32} {f5 : Nat → Int32} {f6 : Nat → Int32} {f7 : Nat → Int32} {fi : Nat → Option Nat} {a : Nat} {b : Nat} {n : Nat} {g_7 : Nat → Int32} (hfi : fi 0 = some y0 ∧ fi 1 = some y1 ∧ fi 2 = some y2 ∧ fi 3 = some y3 ∧ fi 4 = some y4 ∧ fi 5 = some y5 ∧ fi 6 = some y6 ∧ fi 7 = some y7) (hj : 0 < 8) (hk : 2 < 8) (ha : a + n ≤ 40) (hb2 : b + n ≤ 40) (hu_7 : g_7 = va_cpy f0 f2 ((nI a) : Int32).toNatClampNeg ((nI b) : Int32).toNatClampNeg ((nI n) : Int32).toNatClampNeg) : (itX f0 f1 g_7 f3 f4 f5 f6 f7) = upI (itX f0 f1 f2 f3 f4 f5 f6 f7) 2 (cpI ((itX f0 f1 f2 f3 f4 f5 f6 f7) 0) ((itX f0 f1 f2 f3 f4 f5 f6 f7) 2) a b n) := by
  first
  | exact it_m0 ha hb2 (by assumption) (fun i hi => (if_pos hi).symm)
  | exact it_m1 ha hb2 (by assumption) (fun i hi => (if_pos hi).symm)
  | exact it_m2 ha hb2 (by assumption) (fun i hi => (if_pos hi).symm)
  | exact it_m3 ha hb2 (by assumption) (fun i hi => (if_pos hi).symm)
  | exact it_m4 ha hb2 (by assumption) (fun i hi => (if_pos hi).symm)
  | exact it_m5 ha hb2 (by assumption) (fun i hi => (if_pos hi).symm)
  | exact it_m6 ha hb2 (by assumption) (fun i hi => (if_pos hi).symm)
  | exact it_m7 ha hb2 (by assumption) (fun i hi => (if_pos hi).symm)
theorem lf_X5_move_4 {y0 : Nat} {y1 : Nat} {y2 : Nat} {y3 : Nat} {y4 : Nat} {y5 : Nat} {y6 : Nat} {y7 : Nat} {f0 : Nat → Int32} {f1 : Nat → Int32} {f2 : Nat → Int32} {f3 : Nat → Int32} {f4 : Nat → Int32} {f5 : Nat → Int32} {f6 : Nat → Int32} {f7 : Nat → Int32} {fi : Nat → Option Nat} {a : Nat} {b : Nat} {n : Nat} {g_9 : Nat → Int32} (hfi : fi 0 = some y0 ∧ fi 1 = some y1 ∧ fi 2 = some y2 ∧ fi 3 = some y3 ∧ fi 4 = some y4 ∧ fi 5 = some y5 ∧ fi 6 = some y6 ∧ fi 7 = some y7) (hj : 0 < 8) (hk : 3 < 8) (ha : a + n ≤ 40) (hb2 : b + n ≤ 40) (hu_9 : g_9 = va_cpy f0 f3 ((nI a) : Int32).toNatClampNeg ((nI b) : Int32).toNatClampNeg ((nI n) : Int32).toNatClampNeg) : (itX f0 f1 f2 g_9 f4 f5 f6 f7) = upI (itX f0 f1 f2 f3 f4 f5 f6 f7) 3 (cpI ((itX f0 f1 f2 f3 f4 f5 f6 f7) 0) ((itX f0 f1 f2 f3 f4 f5 f6 f7) 3) a b n) := by
  first
  | exact it_m0 ha hb2 (by assumption) (fun i hi => (if_pos hi).symm)
  | exact it_m1 ha hb2 (by assumption) (fun i hi => (if_pos hi).symm)
  | exact it_m2 ha hb2 (by assumption) (fun i hi => (if_pos hi).symm)
  | exact it_m3 ha hb2 (by assumption) (fun i hi => (if_pos hi).symm)
  | exact it_m4 ha hb2 (by assumption) (fun i hi => (if_pos hi).symm)
  | exact it_m5 ha hb2 (by assumption) (fun i hi => (if_pos hi).symm)
  | exact it_m6 ha hb2 (by assumption) (fun i hi => (if_pos hi).symm)
  | exact it_m7 ha hb2 (by assumption) (fun i hi => (if_pos hi).symm)
theorem lf_X5_move_5 {y0 : Nat} {y1 : Nat} {y2 : Nat} {y3 : Nat} {y4 : Nat} {y5 : Nat} {y6 : Nat} {y7 : Nat} {f0 : Nat → Int32} {f1 : Nat → Int32} {f2 : Nat → Int32} {f3 : Nat → Int32} {f4 : Nat → Int32} {f5 : Nat → Int32} {f6 : Nat → Int32} {f7 : Nat → Int32} {fi : Nat → Option Nat} {a : Nat} {b : Nat} {n : Nat} {g_11 : Nat → Int32} (hfi : fi 0 = some y0 ∧ fi 1 = some y1 ∧ fi 2 = some y2 ∧ fi 3 = some y3 ∧ fi 4 = some y4 ∧ fi 5 = some y5 ∧ fi 6 = some y6 ∧ fi 7 = some y7) (hj : 0 < 8) (hk : 4 < 8) (ha : a + n ≤ 40) (hb2 : b + n ≤ 40) (hu_11 : g_11 = va_cpy f0 f4 ((nI a) : Int32).toNatClampNeg ((nI b) : Int32).toNatClampNeg ((nI n) : Int32).toNatClampNeg) : (itX f0 f1 f2 f3 g_11 f5 f6 f7) = upI (itX f0 f1 f2 f3 f4 f5 f6 f7) 4 (cpI ((itX f0 f1 f2 f3 f4 f5 f6 f7) 0) ((itX f0 f1 f2 f3 f4 f5 f6 f7) 4) a b n) := by
  first
  | exact it_m0 ha hb2 (by assumption) (fun i hi => (if_pos hi).symm)
  | exact it_m1 ha hb2 (by assumption) (fun i hi => (if_pos hi).symm)
  | exact it_m2 ha hb2 (by assumption) (fun i hi => (if_pos hi).symm)
  | exact it_m3 ha hb2 (by assumption) (fun i hi => (if_pos hi).symm)
  | exact it_m4 ha hb2 (by assumption) (fun i hi => (if_pos hi).symm)
  | exact it_m5 ha hb2 (by assumption) (fun i hi => (if_pos hi).symm)
  | exact it_m6 ha hb2 (by assumption) (fun i hi => (if_pos hi).symm)
  | exact it_m7 ha hb2 (by assumption) (fun i hi => (if_pos hi).symm)
theorem lf_X5_move_6 {y0 : Nat} {y1 : Nat} {y2 : Nat} {y3 : Nat} {y4 : Nat} {y5 : Nat} {y6 : Nat} {y7 : Nat} {f0 : Nat → Int32} {f1 : Nat → Int32} {f2 : Nat → Int32} {f3 : Nat → Int32} {f4 : Nat → Int32} {f5 : Nat → Int32} {f6 : Nat → Int32} {f7 : Nat → Int32} {fi : Nat → Option Nat} {a : Nat} {b : Nat} {n : Nat} {g_13 : Nat → Int32} (hfi : fi 0 = some y0 ∧ fi 1 = some y1 ∧ fi 2 = some y2 ∧ fi 3 = some y3 ∧ fi 4 = some y4 ∧ fi 5 = some y5 ∧ fi 6 = some y6 ∧ fi 7 = some y7) (hj : 0 < 8) (hk : 5 < 8) (ha : a + n ≤ 40) (hb2 : b + n ≤ 40) (hu_13 : g_13 = va_cpy f0 f5 ((nI a) : Int32).toNatClampNeg ((nI b) : Int32).toNatClampNeg ((nI n) : Int32).toNatClampNeg) : (itX f0 f1 f2 f3 f4 g_13 f6 f7) = upI (itX f0 f1 f2 f3 f4 f5 f6 f7) 5 (cpI ((itX f0 f1 f2 f3 f4 f5 f6 f7) 0) ((itX f0 f1 f2 f3 f4 f5 f6 f7) 5) a b n) := by
  first
  | exact it_m0 ha hb2 (by assumption) (fun i hi => (if_pos hi).symm)
  | exact it_m1 ha hb2 (by assumption) (fun i hi => (if_pos hi).symm)
  | exact it_m2 ha hb2 (by assumption) (fun i hi => (if_pos hi).symm)
  | exact it_m3 ha hb2 (by assumption) (fun i hi => (if_pos hi).symm)
  | exact it_m4 ha hb2 (by assumption) (fun i hi => (if_pos hi).symm)
  | exact it_m5 ha hb2 (by assumption) (fun i hi => (if_pos hi).symm)
  | exact it_m6 ha hb2 (by assumption) (fun i hi => (if_pos hi).symm)
  | exact it_m7 ha hb2 (by assumption) (fun i hi => (if_pos hi).symm)
theorem lf_X5_move_7 {y0 : Nat} {y1 : Nat} {y2 : Nat} {y3 : Nat} {y4 : Nat} {y5 : Nat} {y6 : Nat} {y7 : Nat} {f0 : Nat → Int32} {f1 : Nat → Int32} {f2 : Nat → Int32} {f3 : Nat → Int32} {f4 : Nat → Int32} {f5 : Nat → Int32} {f6 : Nat → Int32} {f7 : Nat → Int32} {fi : Nat → Option Nat} {a : Nat} {b : Nat} {n : Nat} {g_15 : Nat → Int32} (hfi : fi 0 = some y0 ∧ fi 1 = some y1 ∧ fi 2 = some y2 ∧ fi 3 = some y3 ∧ fi 4 = some y4 ∧ fi 5 = some y5 ∧ fi 6 = some y6 ∧ fi 7 = some y7) (hj : 0 < 8) (hk : 6 < 8) (ha : a + n ≤ 40) (hb2 : b + n ≤ 40) (hu_15 : g_15 = va_cpy f0 f6 ((nI a) : Int32).toNatClampNeg ((nI b) : Int32).toNatClampNeg ((nI n) : Int32).toNatClampNeg) : (itX f0 f1 f2 f3 f4 f5 g_15 f7) = upI (itX f0 f1 f2 f3 f4 f5 f6 f7) 6 (cpI ((itX f0 f1 f2 f3 f4 f5 f6 f7) 0) ((itX f0 f1 f2 f3 f4 f5 f6 f7) 6) a b n) := by
  first
  | exact it_m0 ha hb2 (by assumption) (fun i hi => (if_pos hi).symm)
  | exact it_m1 ha hb2 (by assumption) (fun i hi => (if_pos hi).symm)
  | exact it_m2 ha hb2 (by assumption) (fun i hi => (if_pos hi).symm)
  | exact it_m3 ha hb2 (by assumption) (fun i hi => (if_pos hi).symm)
  | exact it_m4 ha hb2 (by assumption) (fun i hi => (if_pos hi).symm)
  | exact it_m5 ha hb2 (by assumption) (fun i hi => (if_pos hi).symm)
  | exact it_m6 ha hb2 (by assumption) (fun i hi => (if_pos hi).symm)
  | exact it_m7 ha hb2 (by assumption) (fun i hi => (if_pos hi).symm)
theorem lf_X5_move_8 {y0 : Nat} {y1 : Nat} {y2 : Nat} {y3 : Nat} {y4 : Nat} {y5 : Nat} {y6 : Nat} {y7 : Nat} {f0 : Nat → Int32} {f1 : Nat → Int32} {f2 : Nat → Int32} {f3 : Nat → Int32} {f4 : Nat → Int32} {f5 : Nat → Int32} {f6 : Nat → Int32} {f7 : Nat → Int32} {fi : Nat → Option Nat} {a : Nat} {b : Nat} {n : Nat} {g_17 : Nat → Int32} (hfi : fi 0 = some y0 ∧ fi 1 = some y1 ∧ fi 2 = some y2 ∧ fi 3 = some y3 ∧ fi 4 = some y4 ∧ fi 5 = some y5 ∧ fi 6 = some y6 ∧ fi 7 = some y7) (hj : 0 < 8) (hk : 7 < 8) (ha : a + n ≤ 40) (hb2 : b + n ≤ 40) (hu_17 : g_17 = va_cpy f0 f7 ((nI a) : Int32).toNatClampNeg ((nI b) : Int32).toNatClampNeg ((nI n) : Int32).toNatClampNeg) : (itX f0 f1 f2 f3 f4 f5 f6 g_17) = upI (itX f0 f1 f2 f3 f4 f5 f6 f7) 7 (cpI ((itX f0 f1 f2 f3 f4 f5 f6 f7) 0) ((itX f0 f1 f2 f3 f4 f5 f6 f7) 7) a b n) := by
  first
  | exact it_m0 ha hb2 (by assumption) (fun i hi => (if_pos hi).symm)
  | exact it_m1 ha hb2 (by assumption) (fun i hi => (if_pos hi).symm)
  | exact it_m2 ha hb2 (by assumption) (fun i hi => (if_pos hi).symm)
  | exact it_m3 ha hb2 (by assumption) (fun i hi => (if_pos hi).symm)
  | exact it_m4 ha hb2 (by assumption) (fun i hi => (if_pos hi).symm)
  | exact it_m5 ha hb2 (by assumption) (fun i hi => (if_pos hi).symm)
  | exact it_m6 ha hb2 (by assumption) (fun i hi => (if_pos hi).symm)
  | exact it_m7 ha hb2 (by assumption) (fun i hi => (if_pos hi).symm)
theorem lf_X5_move_9 {y0 : Nat} {y1 : Nat} {y2 : Nat} {y3 : Nat} {y4 : Nat} {y5 : Nat} {y6 : Nat} {y7 : Nat} {f0 : Nat → Int32} {f1 : Nat → Int32} {f2 : Nat → Int32} {f3 : Nat → Int32} {f4 : Nat → Int32} {f5 : Nat → Int32} {f6 : Nat → Int32} {f7 : Nat → Int32} {fi : Nat → Option Nat} {a : Nat} {b : Nat} {n : Nat} {g_20 : Nat → Int32} (hfi : fi 0 = some y0 ∧ fi 1 = some y1 ∧ fi 2 = some y2 ∧ fi 3 = some y3 ∧ fi 4 = some y4 ∧ fi 5 = some y5 ∧ fi 6 = some y6 ∧ fi 7 = some y7) (hj : 1 < 8) (hk : 0 < 8) (ha : a + n ≤ 40) (hb2 : b + n ≤ 40) (hu_20 : g_20 = va_cpy f1 f0 ((nI a) : Int32).toNatClampNeg ((nI b) : Int32).toNatClampNeg ((nI n) : Int32).toNatClampNeg) : (itX g_20 f1 f2 f3 f4 f5 f6 f7) = upI (itX f0 f1 f2 f3 f4 f5 f6 f7) 0 (cpI ((itX f0 f1 f2 f3 f4 f5 f6 f7) 1) ((itX f0 f1 f2 f3 f4 f5 f6 f7) 0) a b n) := by
  first
  | exact it_m0 ha hb2 (by assumption) (fun i hi => (if_pos hi).symm)
  | exact it_m1 ha hb2 (by assumption) (fun i hi => (if_pos hi).symm)
  | exact it_m2 ha hb2 (by assumption) (fun i hi => (if_pos hi).symm)
  | exact it_m3 ha hb2 (by assumption) (fun i hi => (if_pos hi).symm)
  | exact it_m4 ha hb2 (by assumption) (fun i hi => (if_pos hi).symm)
  | exact it_m5 ha hb2 (by assumption) (fun i hi => (if_pos hi).symm)
  | exact it_m6 ha hb2 (by assumption) (fun i hi => (if_pos hi).symm)
  | exact it_m7 ha hb2 (by assumption) (fun i hi => (if_pos hi).symm)
theorem lf_X5_move_10 {y0 : Nat} {y1 : Nat} {y2 : Nat} {y3 : Nat} {y4 : Nat} {y5 : Nat} {y6 : Nat} {y7 : Nat} {f0 : Nat → Int32} {f1 : Nat → Int32} {f2 : Nat → Int32} {f3 : Nat → Int32} {f4 : Nat → Int32} {f5 : Nat → Int32} {f6 : Nat → Int32} {f7 : Nat → Int32} {fi : Nat → Option Nat} {a : Nat} {b : Nat} {n : Nat} {g_22 : Nat → Int32} (hfi : fi 0 = some y0 ∧ fi 1 = some y1 ∧ fi 2 = some y2 ∧ fi 3 = some y3 ∧ fi 4 = some y4 ∧ fi 5 = some y5 ∧ fi 6 = some y6 ∧ fi 7 = some y7) (hj : 1 < 8) (hk : 1 < 8) (ha : a + n ≤ 40) (hb2 : b + n ≤ 40) (hu_22 : g_22 = va_cpy f1 f1 ((nI a) : Int32).toNatClampNeg ((nI b) : Int32).toNatClampNeg ((nI n) : Int32).toNatClampNeg) : (itX f0 g_22 f2 f3 f4 f5 f6 f7) = upI (itX f0 f1 f2 f3 f4 f5 f6 f7) 1 (cpI ((itX f0 f1 f2 f3 f4 f5 f6 f7) 1) ((itX f0 f1 f2 f3 f4 f5 f6 f7) 1) a b n) := by
  first
  | exact it_m0 ha hb2 (by assumption) (fun i hi => (if_pos hi).symm)
  | exact it_m1 ha hb2 (by assumption) (fun i hi => (if_pos hi).symm)
  | exact it_m2 ha hb2 (by assumption) (fun i hi => (if_pos hi).symm)
  | exact it_m3 ha hb2 (by assumption) (fun i hi => (if_pos hi).symm)
  | exact it_m4 ha hb2 (by assumption) (fun i hi => (if_pos hi).symm)
  | exact it_m5 ha hb2 (by assumption) (fun i hi => (if_pos hi).symm)
  | exact it_m6 ha hb2 (by assumption) (fun i hi => (if_pos hi).symm)
  | exact it_m7 ha hb2 (by assumption) (fun i hi => (if_pos hi).symm)
theorem lf_X5_move_11 {y0 : Nat} {y1 : Nat} {y2 : Nat} {y3 : Nat} {y4 : Nat} {y5 : Nat} {y6 : Nat} {y7 : Nat} {f0 : Nat → Int32} {f1 : Nat → Int32} {f2 : Nat → Int32} {f3 : Nat → Int32} {f4 : Nat → Int32} {f5 : Nat → Int32} {f6 : Nat → Int32} {f7 : Nat → Int32} {fi : Nat → Option Nat} {a : Nat} {b : Nat} {n : Nat} {g_24 : Nat → Int32} (hfi : fi 0 = some y0 ∧ fi 1 = some y1 ∧ fi 2 = some y2 ∧ fi 3 = some y3 ∧ fi 4 = some y4 ∧ fi 5 = some y5 ∧ fi 6 = some y6 ∧ fi 7 = some y7) (hj : 1 < 8) (hk : 2 < 8) (ha : a + n ≤ 40) (hb2 : b + n ≤ 40) (hu_24 : g_24 = va_cpy f1 f2 ((nI a) : Int32).toNatClampNeg ((nI b) : Int32).toNatClampNeg ((nI n) : Int32).toNatClampNeg) : (itX f0 f1 g_24 f3 f4 f5 f6 f7) = upI (itX f0 f1 f2 f3 f4 f5 f6 f7) 2 (cpI ((itX f0 f1 f2 f3 f4 f5 f6 f7) 1) ((itX f0 f1 f2 f3 f4 f5 f6 f7) 2) a b n) := by
  first
  | exact it_m0 ha hb2 (by assumption) (fun i hi => (if_pos hi).symm)
  | exact it_m1 ha hb2 (by assumption) (fun i hi => (if_pos hi).symm)
  | exact it_m2 ha hb2 (by assumption) (fun i hi => (if_pos hi).symm)
  | exact it_m3 ha hb2 (by assumption) (fun i hi => (if_pos hi).symm)
  | exact it_m4 ha hb2 (by assumption) (fun i hi => (if_pos hi).symm)
  | exact it_m5 ha hb2 (by assumption) (fun i hi => (if_pos hi).symm)
  | exact it_m6 ha hb2 (by assumption) (fun i hi => (if_pos hi).symm)
  | exact it_m7 ha hb2 (by assumption) (fun i hi => (if_pos hi).symm)
theorem lf_X5_move_12 {y0 : Nat} {y1 : Nat} {y2 : Nat} {y3 : Nat} {y4 : Nat} {y5 : Nat} {y6 : Nat} {y7 : Nat} {f0 : Nat → Int32} {f1 : Nat → Int32} {f2 : Nat → Int32} {f3 : Nat → Int32} {f4 : Nat → Int32} {f5 : Nat → Int32} {f6 : Nat → Int32} {f7 : Nat → Int32} {fi : Nat → Option Nat} {a : Nat} {b : Nat} {n : Nat} {g_26 : Nat → Int32} (hfi : fi 0 = some y0 ∧ fi 1 = some y1 ∧ fi 2 = some y2 ∧ fi 3 = some y3 ∧ fi 4 = some y4 ∧ fi 5 = some y5 ∧ fi 6 = some y6 ∧ fi 7 = some y7) (hj : 1 < 8) (hk : 3 < 8) (ha : a + n ≤ 40) (hb2 : b + n ≤ 40) (hu_26 : g_26 = va_cpy f1 f3 ((nI a) : Int32).toNatClampNeg ((nI b) : Int32).toNatClampNeg ((nI n) : Int32).toNatClampNeg) : (itX f0 f1 f2 g_26 f4 f5 f6 f7) = upI (itX f0 f1 f2 f3 f4 f5 f6 f7) 3 (cpI ((itX f0 f1 f2 f3 f4 f5 f6 f7) 1) ((itX f0 f1 f2 f3 f4 f5 f6 f7) 3) a b n) := by
  first
  | exact it_m0 ha hb2 (by assumption) (fun i hi => (if_pos hi).symm)
  | exact it_m1 ha hb2 (by assumption) (fun i hi => (if_pos hi).symm)
  | exact it_m2 ha hb2 (by assumption) (fun i hi => (if_pos hi).symm)
  | exact it_m3 ha hb2 (by assumption) (fun i hi => (if_pos hi).symm)
  | exact it_m4 ha hb2 (by assumption) (fun i hi => (if_pos hi).symm)
  | exact it_m5 ha hb2 (by assumption) (fun i hi => (if_pos hi).symm)
  | exact it_m6 ha hb2 (by assumption) (fun i hi => (if_pos hi).symm)
  | exact it_m7 ha hb2 (by assumption) (fun i hi => (if_pos hi).symm)
theorem lf_X5_move_13 {y0 : Nat} {y1 : Nat} {y2 : Nat} {y3 : Nat} {y4 : Nat} {y5 : Nat} {y6 : Nat} {y7 : Nat} {f0 : Nat → Int32} {f1 : Nat → Int32} {f2 : Nat → Int32} {f3 : Nat → Int32} {f4 : Nat → Int32} {f5 : Nat → Int32} {f6 : Nat → Int32} {f7 : Nat → Int32} {fi : Nat → Option Nat} {a : Nat} {b : Nat} {n : Nat} {g_28 : Nat → Int32} (hfi : fi 0 = some y0 ∧ fi 1 = some y1 ∧ fi 2 = some y2 ∧ fi 3 = some y3 ∧ fi 4 = some y4 ∧ fi 5 = some y5 ∧ fi 6 = some y6 ∧ fi 7 = some y7) (hj : 1 < 8) (hk : 4 < 8) (ha : a + n ≤ 40) (hb2 : b + n ≤ 40) (hu_28 : g_28 = va_cpy f1 f4 ((nI a) : Int32).toNatClampNeg ((nI b) : Int32).toNatClampNeg ((nI n) : Int32).toNatClampNeg) : (itX f0 f1 f2 f3 g_28 f5 f6 f7) = upI (itX f0 f1 f2 f3 f4 f5 f6 f7) 4 (cpI ((itX f0 f1 f2 f3 f4 f5 f6 f7) 1) ((itX f0 f1 f2 f3 f4 f5 f6 f7) 4) a b n) := by
  first
  | exact it_m0 ha hb2 (by assumption) (fun i hi => (if_pos hi).symm)
  | exact it_m1 ha hb2 (by assumption) (fun i hi => (if_pos hi).symm)
  | exact it_m2 ha hb2 (by assumption) (fun i hi => (if_pos hi).symm)
  | exact it_m3 ha hb2 (by assumption) (fun i hi => (if_pos hi).symm)
  | exact it_m4 ha hb2 (by assumption) (fun i hi => (if_pos hi).symm)
  | exact it_m5 ha hb2 (by assumption) (fun i hi => (if_pos hi).symm)
  | exact it_m6 ha hb2 (by assumption) (fun i hi => (if_pos hi).symm)
  | exact it_m7 ha hb2 (by assumption) (fun i hi => (if_pos hi).symm)
theorem lf_X5_move_14 {y0 : Nat} {y1 : Nat} {y2 : Nat} {y3 : Nat} {y4 : Nat} {y5 : Nat} {y6 : Nat} {y7 : Nat} {f0 : Nat → Int32} {f1 : Nat → Int32} {f2 : Nat → Int32} {f3 : Nat → Int32} {f4 : Nat → Int32} {f5 : Nat → Int32} {f6 : Nat → Int32} {f7 : Nat → Int32} {fi : Nat → Option Nat} {a : Nat} {b : Nat} {n : Nat} {g_30 : Nat → Int32} (hfi : fi 0 = some y0 ∧ fi 1 = some y1 ∧ fi 2 = some y2 ∧ fi 3 = some y3 ∧ fi 4 = some y4 ∧ fi 5 = some y5 ∧ fi 6 = some y6 ∧ fi 7 = some y7) (hj : 1 < 8) (hk : 5 < 8) (ha : a + n ≤ 40) (hb2 : b + n ≤ 40) (hu_30 : g_30 = va_cpy f1 f5 ((nI a) : Int32).toNatClampNeg ((nI b) : Int32).toNatClampNeg ((nI n) : Int32).toNatClampNeg) : (itX f0 f1 f2 f3 f4 g_30 f6 f7) = upI (itX f0 f1 f2 f3 f4 f5 f6 f7) 5 (cpI ((itX f0 f1 f2 f3 f4 f5 f6 f7) 1) ((itX f0 f1 f2 f3 f4 f5 f6 f7) 5) a b n) := by
  first
  | exact it_m0 ha hb2 (by assumption) (fun i hi => (if_pos hi).symm)
  | exact it_m1 ha hb2 (by assumption) (fun i hi => (if_pos hi).symm)
  | exact it_m2 ha hb2 (by assumption) (fun i hi => (if_pos hi).symm)
  | exact it_m3 ha hb2 (by assumption) (fun i hi => (if_pos hi).symm)
  | exact it_m4 ha hb2 (by assumption) (fun i hi => (if_pos hi).symm)
  | exact it_m5 ha hb2 (by assumption) (fun i hi => (if_pos hi).symm)
  | exact it_m6 ha hb2 (by assumption) (fun i hi => (if_pos hi).symm)
  | exact it_m7 ha hb2 (by assumption) (fun i hi => (if_pos hi).symm)
theorem lf_X5_move_15 {y0 : Nat} {y1 : Nat} {y2 : Nat} {y3 : Nat} {y4 : Nat} {y5 : Nat} {y6 : Nat} {y7 : Nat} {f0 : Nat → Int32} {f1 : Nat → Int32} {f2 : Nat → Int32} {f3 : Nat → Int32} {f4 : Nat → Int32} {f5 : Nat → Int32} {f6 : Nat → Int32} {f7 : Nat → Int32} {fi : Nat → Option Nat} {a : Nat} {b : Nat} {n : Nat} {g_32 : Nat → Int32} (hfi : fi 0 = some y0 ∧ fi 1 = some y1 ∧ fi 2 = some y2 ∧ fi 3 = some y3 ∧ fi 4 = some y4 ∧ fi 5 = some y5 ∧ fi 6 = some y6 ∧ fi 7 = some y7) (hj : 1 < 8) (hk : 6 < 8) (ha : a + n ≤ 40) (hb2 : b + n ≤ 40) (hu_32 : g_32 = va_cpy f1 f6 ((nI a) : Int32).toNatClampNeg ((nI b) : Int32).toNatClampNeg ((nI n) : Int32).toNatClampNeg) : (itX f0 f1 f2 f3 f4 f5 g_32 f7) = upI (itX f0 f1 f2 f3 f4 f5 f6 f7) 6 (cpI ((itX f0 f1 f2 f3 f4 f5 f6 f7) 1) ((itX f0 f1 f2 f3 f4 f5 f6 f7) 6) a b n) := by
  first
  | exact it_m0 ha hb2 (by assumption) (fun i hi => (if_pos hi).symm)
  | exact it_m1 ha hb2 (by assumption) (fun i hi => (if_pos hi).symm)
  | exact it_m2 ha hb2 (by assumption) (fun i hi => (if_pos hi).symm)
  | exact it_m3 ha hb2 (by assumption) (fun i hi => (if_pos hi).symm)
  | exact it_m4 ha hb2 (by assumption) (fun i hi => (if_pos hi).symm)
  | exact it_m5 ha hb2 (by assumption) (fun i hi => (if_pos hi).symm)
  | exact it_m6 ha hb2 (by assumption) (fun i hi => (if_pos hi).symm)
  | exact it_m7 ha hb2 (by assumption) (fun i hi => (if_pos hi).symm)
theorem lf_X5_move_16 {y0 : Nat} {y1 : Nat} {y2 : Nat} {y3 : Nat} {y4 : Nat} {y5 : Nat} {y6 : Nat} {y7 : Nat} {f0 : Nat → Int32} {f1 : Nat → Int32} {f2 : Nat → Int32} {f3 : Nat → Int32} {f4 : Nat → Int32} {f5 : Nat → Int32} {f6 : Nat → Int32} {f7 : Nat → Int32} {fi : Nat → Option Nat} {a : Nat} {b : Nat} {n : Nat} {g_34 : Nat → Int32} (hfi : fi 0 = some y0 ∧ fi 1 = some y1 ∧ fi 2 = some y2 ∧ fi 3 = some y3 ∧ fi 4 = some y4 ∧ fi 5 = some y5 ∧ fi 6 = some y6 ∧ fi 7 = some y7) (hj : 1 < 8) (hk : 7 < 8) (ha : a + n ≤ 40) (hb2 : b + n ≤ 40) (hu_34 : g_34 = va_cpy f1 f7 ((nI a) : Int32).toNatClampNeg ((nI b) : Int32).toNatClampNeg ((nI n) : Int32).toNatClampNeg) : (itX f0 f1 f2 f3 f4 f5 f6 g_34) = upI (itX f0 f1 f2 f3 f4 f5 f6 f7) 7 (cpI ((itX f0 f1 f2 f3 f4 f5 f6 f7) 1) ((itX f0 f1 f2 f3 f4 f5 f6 f7) 7) a b n) := by
  first
  | exact it_m0 ha hb2 (by assumption) (fun i hi => (if_pos hi).symm)
  | exact it_m1 ha hb2 (by assumption) (fun i hi => (if_pos hi).symm)
  | exact it_m2 ha hb2 (by assumption) (fun i hi => (if_pos hi).symm)
  | exact it_m3 ha hb2 (by assumption) (fun i hi => (if_pos hi).symm)
  | exact it_m4 ha hb2 (by assumption) (fun i hi => (if_pos hi).symm)
  | exact it_m5 ha hb2 (by assumption) (fun i hi => (if_pos hi).symm)
  | exact it_m6 ha hb2 (by assumption) (fun i hi => (if_pos hi).symm)
  | exact it_m7 ha hb2 (by assumption) (fun i hi => (if_pos hi).symm)
theorem lf_X5_move_17 {y0 : Nat} {y1 : Nat} {y2 : Nat} {y3 : Nat} {y4 : Nat} {y5 : Nat} {y6 : Nat} {y7 : Nat} {f0 : Nat → Int32} {f1 : Nat → Int32} {f2 : Nat → Int32} {f3 : Nat → Int32} {f4 : Nat → Int32} {f5 : Nat → Int32} {f6 : Nat → Int32} {f7 : Nat → Int32} {fi : Nat → Option Nat} {a : Nat} {b : Nat} {n : Nat} {g_37 : Nat → Int32} (hfi : fi 0 = some y0 ∧ fi 1 = some y1 ∧ fi 2 = some y2 ∧ fi 3 = some y3 ∧ fi 4 = some y4 ∧ fi 5 = some y5 ∧ fi 6 = some y6 ∧ fi 7 = some y7) (hj : 2 < 8) (hk : 0 < 8) (ha : a + n ≤ 40) (hb2 : b + n ≤ 40) (hu_37 : g_37 = va_cpy f2 f0 ((nI a) : Int32).toNatClampNeg ((nI b) : Int32).toNatClampNeg ((nI n) : Int32).toNatClampNeg) : (itX g_37 f1 f2 f3 f4 f5 f6 f7) = upI (itX f0 f1 f2 f3 f4 f5 f6 f7) 0 (cpI ((itX f0 f1 f2 f3 f4 f5 f6 f7) 2) ((itX f0 f1 f2 f3 f4 f5 f6 f7) 0) a b n) := by
  first
  | exact it_m0 ha hb2 (by assumption) (fun i hi => (if_pos hi).symm)
  | exact it_m1 ha hb2 (by assumption) (fun i hi => (if_pos hi).symm)
  | exact it_m2 ha hb2 (by assumption) (fun i hi => (if_pos hi).symm)
  | exact it_m3 ha hb2 (by assumption) (fun i hi => (if_pos hi).symm)
  | exact it_m4 ha hb2 (by assumption) (fun i hi => (if_pos hi).symm)
  | exact it_m5 ha hb2 (by assumption) (fun i hi => (if_pos hi).symm)
  | exact it_m6 ha hb2 (by assumption) (fun i hi => (if_pos hi).symm)
  | exact it_m7 ha hb2 (by assumption) (fun i hi => (if_pos hi).symm)
theorem lf_X5_move_18 {y0 : Nat} {y1 : Nat} {y2 : Nat} {y3 : Nat} {y4 : Nat} {y5 : Nat} {y6 : Nat} {y7 : Nat} {f0 : Nat → Int32} {f1 : Nat → Int32} {f2 : Nat → Int32} {f3 : Nat → Int32} {f4 : Nat → Int32} {f5 : Nat → Int32} {f6 : Nat → Int32} {f7 : Nat → Int32} {fi : Nat → Option Nat} {a : Nat} {b : Nat} {n : Nat} {g_39 : Nat → Int32} (hfi : fi 0 = some y0 ∧ fi 1 = some y1 ∧ fi 2 = some y2 ∧ fi 3 = some y3 ∧ fi 4 = some y4 ∧ fi 5 = some y5 ∧ fi 6 = some y6 ∧ fi 7 = some y7) (hj : 2 < 8) (hk : 1 < 8) (ha : a + n ≤ 40) (hb2 : b + n ≤ 40) (hu_39 : g_39 = va_cpy f2 f1 ((nI a) : Int32).toNatClampNeg ((nI b) : Int32).toNatClampNeg ((nI n) : Int32).toNatClampNeg) : (itX f0 g_39 f2 f3 f4 f5 f6 f7) = upI (itX f0 f1 f2 f3 f4 f5 f6 f7) 1 (cpI ((itX f0 f1 f2 f3 f4 f5 f6 f7) 2) ((itX f0 f1 f2 f3 f4 f5 f6 f7) 1) a b n) := by
  first
  | exact it_m0 ha hb2 (by assumption) (fun i hi => (if_pos hi).symm)
  | exact it_m1 ha hb2 (by assumption) (fun i hi => (if_pos hi).symm)
  | exact it_m2 ha hb2 (by assumption) (fun i hi => (if_pos hi).symm)
  | exact it_m3 ha hb2 (by assumption) (fun i hi => (if_pos hi).symm)
  | exact it_m4 ha hb2 (by assumption) (fun i hi => (if_pos hi).symm)
  | exact it_m5 ha hb2 (by assumption) (fun i hi => (if_pos hi).symm)
  | exact it_m6 ha hb2 (by assumption) (fun i hi => (if_pos hi).symm)
  | exact it_m7 ha hb2 (by assumption) (fun i hi => (if_pos hi).symm)
theorem lf_X5_move_19 {y0 : Nat} {y1 : Nat} {y2 : Nat} {y3 : Nat} {y4 : Nat} {y5 : Nat} {y6 : Nat} {y7 : Nat} {f0 : Nat → Int32} {f1 : Nat → Int32} {f2 : Nat → Int32} {f3 : Nat → Int32} {f4 : Nat → Int32} {f5 : Nat → Int32} {f6 : Nat → Int32} {f7 : Nat → Int32} {fi : Nat → Option Nat} {a : Nat} {b : Nat} {n : Nat} {g_41 : Nat → Int32} (hfi : fi 0 = some y0 ∧ fi 1 = some y1 ∧ fi 2 = some y2 ∧ fi 3 = some y3 ∧ fi 4 = some y4 ∧ fi 5 = some y5 ∧ fi 6 = some y6 ∧ fi 7 = some y7) (hj : 2 < 8) (hk : 2 < 8) (ha : a + n ≤ 40) (hb2 : b + n ≤ 40) (hu_41 : g_41 = va_cpy f2 f2 ((nI a) : Int32).toNatClampNeg ((nI b) : Int32).toNatClampNeg ((nI n) : Int32).toNatClampNeg) : (itX f0 f1 g_41 f3 f4 f5 f6 f7) = upI (itX f0 f1 f2 f3 f4 f5 f6 f7) 2 (cpI ((itX f0 f1 f2 f3 f4 f5 f6 f7) 2) ((itX f0 f1 f2 f3 f4 f5 f6 f7) 2) a b n) := by
  first
  | exact it_m0 ha hb2 (by assumption) (fun i hi => (if_pos hi).symm)
  | exact it_m1 ha hb2 (by assumption) (fun i hi => (if_pos hi).symm)
  | exact it_m2 ha hb2 (by assumption) (fun i hi => (if_pos hi).symm)
  | exact it_m3 ha hb2 (by assumption) (fun i hi => (if_pos hi).symm)
  | exact it_m4 ha hb2 (by assumption) (fun i hi => (if_pos hi).symm)
  | exact it_m5 ha hb2 (by assumption) (fun i hi => (if_pos hi).symm)
  | exact it_m6 ha hb2 (by assumption) (fun i hi => (if_pos hi).symm)
  | exact it_m7 ha hb2 (by assumption) (fun i hi => (if_pos hi).symm)
theorem lf_X5_move_20 {y0 : Nat} {y1 : Nat} {y2 : Nat} {y3 : Nat} {y4 : Nat} {y5 : Nat} {y6 : Nat} {y7 : Nat} {f0 : Nat → Int32} {f1 : Nat → Int32} {f2 : Nat → Int32} {f3 : Nat → Int32} {f4 : Nat → Int32} {f5 : Nat → Int32} {f6 : Nat → Int32} {f7 : Nat → Int32} {fi : Nat → Option Nat} {a : Nat} {b : Nat} {n : Nat} {g_43 : Nat → Int32} (hfi : fi 0 = some y0 ∧ fi 1 = some y1 ∧ fi 2 = some y2 ∧ fi 3 = some y3 ∧ fi 4 = some y4 ∧ fi 5 = some y5 ∧ fi 6 = some y6 ∧ fi 7 = some y7) (hj : 2 < 8) (hk : 3 < 8) (ha : a + n ≤ 40) (hb2 : b + n ≤ 40) (hu_43 : g_43 = va_cpy f2 f3 ((nI a) : Int32).toNatClampNeg ((nI b) : Int32).toNatClampNeg ((nI n) : Int32).toNatClampNeg) : (itX f0 f1 f2 g_43 f4 f5 f6 f7) = upI (itX f0 f1 f2 f3 f4 f5 f6 f7) 3 (cpI ((itX f0 f1 f2 f3 f4 f5 f6 f7) 2) ((itX f0 f1 f2 f3 f4 f5 f6 f7) 3) a b n) := by
  first
  | exact it_m0 ha hb2 (by assumption) (fun i hi => (if_pos hi).symm)
  | exact it_m1 ha hb2 (by assumption) (fun i hi => (if_pos hi).symm)
  | exact it_m2 ha hb2 (by assumption) (fun i hi => (if_pos hi).symm)
  | exact it_m3 ha hb2 (by assumption) (fun i hi => (if_pos hi).symm)
  | exact it_m4 ha hb2 (by assumption) (fun i hi => (if_pos hi).symm)
  | exact it_m5 ha hb2 (by assumption) (fun i hi => (if_pos hi).symm)
  | exact it_m6 ha hb2 (by assumption) (fun i hi => (if_pos hi).symm)
  | exact it_m7 ha hb2 (by assumption) (fun i hi => (if_pos hi).symm)
theorem lf_X5_move_21 {y0 : Nat} {y1 : Nat} {y2 : Nat} {y3 : Nat} {y4 : Nat} {y5 : Nat} {y6 : Nat} {y7 : Nat} {f0 : Nat → Int32} {f1 : Nat → Int32} {f2 : Nat → Int32} {f3 : Nat → Int32} {f4 : Nat → Int32} {f5 : Nat → Int32} {f6 : Nat → Int32} {f7 : Nat → Int32} {fi : Nat → Option Nat} {a : Nat} {b : Nat} {n : Nat} {g_45 : Nat → Int32} (hfi : fi 0 = some y0 ∧ fi 1 = some y1 ∧ fi 2 = some y2 ∧ fi 3 = some y3 ∧ fi 4 = some y4 ∧ fi 5 = some y5 ∧ fi 6 = some y6 ∧ fi 7 = some y7) (hj : 2 < 8) (hk : 4 < 8) (ha : a + n ≤ 40) (hb2 : b + n ≤ 40) (hu_45 : g_45 = va_cpy f2 f4 ((nI a) : Int32).toNatClampNeg ((nI b) : Int32).toNatClampNeg ((nI n) : Int32).toNatClampNeg) : (itX f0 f1 f2 f3 g_45 f5 f6 f7) = upI (itX f0 f1 f2 f3 f4 f5 f6 f7) 4 (cpI ((itX f0 f1 f2 f3 f4 f5 f6 f7) 2) ((itX f0 f1 f2 f3 f4 f5 f6 f7) 4) a b n) := by
  first
  | exact it_m0 ha hb2 (by assumption) (fun i hi => (if_pos hi).symm)
  | exact it_m1 ha hb2 (by assumption) (fun i hi => (if_pos hi).symm)
  | exact it_m2 ha hb2 (by assumption) (fun i hi => (if_pos hi).symm)
  | exact it_m3 ha hb2 (by assumption) (fun i hi => (if_pos hi).symm)
  | exact it_m4 ha hb2 (by assumption) (fun i hi => (if_pos hi).symm)
  | exact it_m5 ha hb2 (by assumption) (fun i hi => (if_pos hi).symm)
  | exact it_m6 ha hb2 (by assumption) (fun i hi => (if_pos hi).symm)
  | exact it_m7 ha hb2 (by assumption) (fun i hi => (if_pos hi).symm)
theorem lf_X5_move_22 {y0 : Nat} {y1 : Nat} {y2 : Nat} {y3 : Nat} {y4 : Nat} {y5 : Nat} {y6 : Nat} {y7 : Nat} {f0 : Nat → Int32} {f1 : Nat → Int32} {f2 : Nat → Int32} {f3 : Nat → Int32} {f4 : Nat → Int32} {f5 : Nat → Int32} {f6 : Nat → Int32} {f7 : Nat → Int32} {fi : Nat → Option Nat} {a : Nat} {b : Nat} {n : Nat} {g_47 : Nat → Int32} (hfi : fi 0 = some y0 ∧ fi 1 = some y1 ∧ fi 2 = some y2 ∧ fi 3 = some y3 ∧ fi 4 = some y4 ∧ fi 5 = some y5 ∧ fi 6 = some y6 ∧ fi 7 = some y7) (hj : 2 < 8) (hk : 5 < 8) (ha : a + n ≤ 40) (hb2 : b + n ≤ 40) (hu_47 : g_47 = va_cpy f2 f5 ((nI a) : Int32).toNatClampNeg ((nI b) : Int32).toNatClampNeg ((nI n) : Int32).toNatClampNeg) : (itX f0 f1 f2 f3 f4 g_47 f6 f7) = upI (itX f0 f1 f2 f3 f4 f5 f6 f7) 5 (cpI ((itX f0 f1 f2 f3 f4 f5 f6 f7) 2) ((itX f0 f1 f2 f3 f4 f5 f6 f7) 5) a b n) := by
  first
  | exact it_m0 ha hb2 (by assumption) (fun i hi => (if_pos hi).symm)
  | exact it_m1 ha hb2 (by assumption) (fun i hi => (if_pos hi).symm)
  | exact it_m2 ha hb2 (by assumption) (fun i hi => (if_pos hi).symm)
  | exact it_m3 ha hb2 (by assumption) (fun i hi => (if_pos hi).symm)
  | exact it_m4 ha hb2 (by assumption) (fun i hi => (if_pos hi).symm)
  | exact it_m5 ha hb2 (by assumption) (fun i hi => (if_pos hi).symm)
  | exact it_m6 ha hb2 (by assumption) (fun i hi => (if_pos hi).symm)
  | exact it_m7 ha hb2 (by assumption) (fun i hi => (if_pos hi).symm)
theorem lf_X5_move_23 {y0 : Nat} {y1 : Nat} {y2 : Nat} {y3 : Nat} {y4 : Nat} {y5 : Nat} {y6 : Nat} {y7 : Nat} {f0 : Nat → Int32} {f1 : Nat → Int32} {f2 : Nat → Int32} {f3 : Nat → Int32} {f4 : Nat → Int32} {f5 : Nat → Int32} {f6 : Nat → Int32} {f7 : Nat → Int32} {fi : Nat → Option Nat} {a : Nat} {b : Nat} {n : Nat} {g_49 : Nat → Int32} (hfi : fi 0 = some y0 ∧ fi 1 = some y1 ∧ fi 2 = some y2 ∧ fi 3 = some y3 ∧ fi 4 = some y4 ∧ fi 5 = some y5 ∧ fi 6 = some y6 ∧ fi 7 = some y7) (hj : 2 < 8) (hk : 6 < 8) (ha : a + n ≤ 40) (hb2 : b + n ≤ 40) (hu_49 : g_49 = va_cpy f2 f6 ((nI a) : Int32).toNatClampNeg ((nI b) : Int32).toNatClampNeg ((nI n) : Int32).toNatClampNeg) : (itX f0 f1 f2 f3 f4 f5 g_49 f7) = upI (itX f0 f1 f2 f3 f4 f5 f6 f7) 6 (cpI ((itX f0 f1 f2 f3 f4 f5 f6 f7) 2) ((itX f0 f1 f2 f3 f4 f5 f6 f7) 6) a b n) := by
  first
  | exact it_m0 ha hb2 (by assumption) (fun i hi => (if_pos hi).symm)
  | exact it_m1 ha hb2 (by assumption) (fun i hi => (if_pos hi).symm)
  | exact it_m2 ha hb2 (by assumption) (fun i hi => (if_pos hi).symm)
  | exact it_m3 ha hb2 (by assumption) (fun i hi => (if_pos hi).symm)
  | exact it_m4 ha hb2 (by assumption) (fun i hi => (if_pos hi).symm)
  | exact it_m5 ha hb2 (by assumption) (fun i hi => (if_pos hi).symm)
  | exact it_m6 ha hb2 (by assumption) (fun i hi => (if_pos hi).symm)
  | exact it_m7 ha hb2 (by assumption) (fun i hi => (if_pos hi).symm)
theorem lf_X5_move_24 {y0 : Nat} {y1 : Nat} {y2 : Nat} {y3 : Nat} {y4 : Nat} {y5 : Nat} {y6 : Nat} {y7 : Nat} {f0 : Nat → Int32} {f1 : Nat → Int32} {f2 : Nat → Int32} {f3 : Nat → Int32} {f4 : Nat → Int32} {f5 : Nat → Int32} {f6 : Nat → Int32} {f7 : Nat → Int32} {fi : Nat → Option Nat} {a : Nat} {b : Nat} {n : Nat} {g_51 : Nat → Int32} (hfi : fi 0 = some y0 ∧ fi 1 = some y1 ∧ fi 2 = some y2 ∧ fi 3 = some y3 ∧ fi 4 = some y4 ∧ fi 5 = some y5 ∧ fi 6 = some y6 ∧ fi 7 = some y7) (hj : 2 < 8) (hk : 7 < 8) (ha : a + n ≤ 40) (hb2 : b + n ≤ 40) (hu_51 : g_51 = va_cpy f2 f7 ((nI a) : Int32).toNatClampNeg ((nI b) : Int32).toNatClampNeg ((nI n) : Int32).toNatClampNeg) : (itX f0 f1 f2 f3 f4 f5 f6 g_51) = upI (itX f0 f1 f2 f3 f4 f5 f6 f7) 7 (cpI ((itX f0 f1 f2 f3 f4 f5 f6 f7) 2) ((itX f0 f1 f2 f3 f4 f5 f6 f7) 7) a b n) := by
  first
  | exact it_m0 ha hb2 (by assumption) (fun i hi => (if_pos hi).symm)
  | exact it_m1 ha hb2 (by assumption) (fun i hi => (if_pos hi).symm)
  | exact it_m2 ha hb2 (by assumption) (fun i hi => (if_pos hi).symm)
  | exact it_m3 ha hb2 (by assumption) (fun i hi => (if_pos hi).symm)
  | exact it_m4 ha hb2 (by assumption) (fun i hi => (if_pos hi).symm)
  | exact it_m5 ha hb2 (by assumption) (fun i hi => (if_pos hi).symm)
  | exact it_m6 ha hb2 (by assumption) (fun i hi => (if_pos hi).symm)
  | exact it_m7 ha hb2 (by assumption) (fun i hi => (if_pos hi).symm)
theorem lf_X5_move_25 {y0 : Nat} {y1 : Nat} {y2 : Nat} {y3 : Nat} {y4 : Nat} {y5 : Nat} {y6 : Nat} {y7 : Nat} {f0 : Nat → Int32} {f1 : Nat → Int32} {f2 : Nat → Int32} {f3 : Nat → Int32} {f4 : Nat → Int32} {f5 : Nat → Int32} {f6 : Nat → Int32} {f7 : Nat → Int32} {fi : Nat → Option Nat} {a : Nat} {b : Nat} {n : Nat} {g_54 : Nat → Int32} (hfi : fi 0 = some y0 ∧ fi 1 = some y1 ∧ fi 2 = some y2 ∧ fi 3 = some y3 ∧ fi 4 = some y4 ∧ fi 5 = some y5 ∧ fi 6 = some y6 ∧ fi 7 = some y7) (hj : 3 < 8) (hk : 0 < 8) (ha : a + n ≤ 40) (hb2 : b + n ≤ 40) (hu_54 : g_54 = va_cpy f3 f0 ((nI a) : Int32).toNatClampNeg ((nI b) : Int32).toNatClampNeg ((nI n) : Int32).toNatClampNeg) : (itX g_54 f1 f2 f3 f4 f5 f6 f7) = upI (itX f0 f1 f2 f3 f4 f5 f6 f7) 0 (cpI ((itX f0 f1 f2 f3 f4 f5 f6 f7) 3) ((itX f0 f1 f2 f3 f4 f5 f6 f7) 0) a b n) := by
  first
  | exact it_m0 ha hb2 (by assumption) (fun i hi => (if_pos hi).symm)
  | exact it_m1 ha hb2 (by assumption) (fun i hi => (if_pos hi).symm)
  | exact it_m2 ha hb2 (by assumption) (fun i hi => (if_pos hi).symm)
  | exact it_m3 ha hb2 (by assumption) (fun i hi => (if_pos hi).symm)
  | exact it_m4 ha hb2 (by assumption) (fun i hi => (if_pos hi).symm)
  | exact it_m5 ha hb2 (by assumption) (fun i hi => (if_pos hi).symm)
  | exact it_m6 ha hb2 (by assumption) (fun i hi => (if_pos hi).symm)
  | exact it_m7 ha hb2 (by assumption) (fun i hi => (if_pos hi).symm)
theorem lf_X5_move_26 {y0 : Nat} {y1 : Nat} {y2 : Nat} {y3 : Nat} {y4 : Nat} {y5 : Nat} {y6 : Nat} {y7 : Nat} {f0 : Nat → Int32} {f1 : Nat → Int32} {f2 : Nat → Int32} {f3 : Nat → Int32} {f4 : Nat → Int32} {f5 : Nat → Int32} {f6 : Nat → Int32} {f7 : Nat → Int32} {fi : Nat → Option Nat} {a : Nat} {b : Nat} {n : Nat} {g_56 : Nat → Int32} (hfi : fi 0 = some y0 ∧ fi 1 = some y1 ∧ fi 2 = some y2 ∧ fi 3 = some y3 ∧ fi 4 = some y4 ∧ fi 5 = some y5 ∧ fi 6 = some y6 ∧ fi 7 = some y7) (hj : 3 < 8) (hk : 1 < 8) (ha : a + n ≤ 40) (hb2 : b + n ≤ 40) (hu_56 : g_56 = va_cpy f3 f1 ((nI a) : Int32).toNatClampNeg ((nI b) : Int32).toNatClampNeg ((nI n) : Int32).toNatClampNeg) : (itX f0 g_56 f2 f3 f4 f5 f6 f7) = upI (itX f0 f1 f2 f3 f4 f5 f6 f7) 1 (cpI ((itX f0 f1 f2 f3 f4 f5 f6 f7) 3) ((itX f0 f1 f2 f3 f4 f5 f6 f7) 1) a b n) := by
  first
  | exact it_m0 ha hb2 (by assumption) (fun i hi => (if_pos hi).symm)
  | exact it_m1 ha hb2 (by assumption) (fun i hi => (if_pos hi).symm)
  | exact it_m2 ha hb2 (by assumption) (fun i hi => (if_pos hi).symm)
  | exact it_m3 ha hb2 (by assumption) (fun i hi => (if_pos hi).symm)
  | exact it_m4 ha hb2 (by assumption) (fun i hi => (if_pos hi).symm)
  | exact it_m5 ha hb2 (by assumption) (fun i hi => (if_pos hi).symm)
  | exact it_m6 ha hb2 (by assumption) (fun i hi => (if_pos hi).symm)
  | exact it_m7 ha hb2 (by assumption) (fun i hi => (if_pos hi).symm)
theorem lf_X5_move_27 {y0 : Nat} {y1 : Nat} {y2 : Nat} {y3 : Nat} {y4 : Nat} {y5 : Nat} {y6 : Nat} {y7 : Nat} {f0 : Nat → Int32} {f1 : Nat → Int32} {f2 : Nat → Int32} {f3 : Nat → Int32} {f4 : Nat → Int32} {f5 : Nat → Int32} {f6 : Nat → Int32} {f7 : Nat → Int32} {fi : Nat → Option Nat} {a : Nat} {b : Nat} {n : Nat} {g_58 : Nat → Int32} (hfi : fi 0 = some y0 ∧ fi 1 = some y1 ∧ fi 2 = some y2 ∧ fi 3 = some y3 ∧ fi 4 = some y4 ∧ fi 5 = some y5 ∧ fi 6 = some y6 ∧ fi 7 = some y7) (hj : 3 < 8) (hk : 2 < 8) (ha : a + n ≤ 40) (hb2 : b + n ≤ 40) (hu_58 : g_58 = va_cpy f3 f2 ((nI a) : Int32).toNatClampNeg ((nI b) : Int32).toNatClampNeg ((nI n) : Int32).toNatClampNeg) : (itX f0 f1 g_58 f3 f4 f5 f6 f7) = upI (itX f0 f1 f2 f3 f4 f5 f6 f7) 2 (cpI ((itX f0 f1 f2 f3 f4 f5 f6 f7) 3) ((itX f0 f1 f2 f3 f4 f5 f6 f7) 2) a b n) := by
  first
  | exact it_m0 ha hb2 (by assumption) (fun i hi => (if_pos hi).symm)
  | exact it_m1 ha hb2 (by assumption) (fun i hi => (if_pos hi).symm)
  | exact it_m2 ha hb2 (by assumption) (fun i hi => (if_pos hi).symm)
  | exact it_m3 ha hb2 (by assumption) (fun i hi => (if_pos hi).symm)
  | exact it_m4 ha hb2 (by assumption) (fun i hi => (if_pos hi).symm)
  | exact it_m5 ha hb2 (by assumption) (fun i hi => (if_pos hi).symm)
  | exact it_m6 ha hb2 (by assumption) (fun i hi => (if_pos hi).symm)
  | exact it_m7 ha hb2 (by assumption) (fun i hi => (if_pos hi).symm)
theorem lf_X5_move_28 {y0 : Nat} {y1 : Nat} {y2 : Nat} {y3 : Nat} {y4 : Nat} {y5 : Nat} {y6 : Nat} {y7 : Nat} {f0 : Nat → Int32} {f1 : Nat → Int32} {f2 : Nat → Int32} {f3 : Nat → Int32} {f4 : Nat → Int32} {f5 : Nat → Int32} {f6 : Nat → Int32} {f7 : Nat → Int32} {fi : Nat → Option Nat} {a : Nat} {b : Nat} {n : Nat} {g_60 : Nat → Int32} (hfi : fi 0 = some y0 ∧ fi 1 = some y1 ∧ fi 2 = some y2 ∧ fi 3 = some y3 ∧ fi 4 = some y4 ∧ fi 5 = some y5 ∧ fi 6 = some y6 ∧ fi 7 = some y7) (hj : 3 < 8) (hk : 3 < 8) (ha : a + n ≤ 40) (hb2 : b + n ≤ 40) (hu_60 : g_60 = va_cpy f3 f3 ((nI a) : Int32).toNatClampNeg ((nI b) : Int32).toNatClampNeg ((nI n) : Int32).toNatClampNeg) : (itX f0 f1 f2 g_60 f4 f5 f6 f7) = upI (itX f0 f1 f2 f3 f4 f5 f6 f7) 3 (cpI ((itX f0 f1 f2 f3 f4 f5 f6 f7) 3) ((itX f0 f1 f2 f3 f4 f5 f6 f7) 3) a b n) := by
  first
  | exact it_m0 ha hb2 (by assumption) (fun i hi => (if_pos hi).symm)
  | exact it_m1 ha hb2 (by assumption) (fun i hi => (if_pos hi).symm)
  | exact it_m2 ha hb2 (by assumption) (fun i hi => (if_pos hi).symm)
  | exact it_m3 ha hb2 (by assumption) (fun i hi => (if_pos hi).symm)
  | exact it_m4 ha hb2 (by assumption) (fun i hi => (if_pos hi).symm)
  | exact it_m5 ha hb2 (by assumption) (fun i hi => (if_pos hi).symm)
  | exact it_m6 ha hb2 (by assumption) (fun i hi => (if_pos hi).symm)
  | exact it_m7 ha hb2 (by assumption) (fun i hi => (if_pos hi).symm)
theorem lf_X5_move_29 {y0 : Nat} {y1 : Nat} {y2 : Nat} {y3 : Nat} {y4 : Nat} {y5 : Nat} {y6 : Nat} {y7 : Nat} {f0 : Nat → Int32} {f1 : Nat → Int32} {f2 : Nat → Int32} {f3 : Nat → Int32} {f4 : Nat → Int32} {f5 : Nat → Int32} {f6 : Nat → Int32} {f7 : Nat → Int32} {fi : Nat → Option Nat} {a : Nat} {b : Nat} {n : Nat} {g_62 : Nat → Int32} (hfi : fi 0 = some y0 ∧ fi 1 = some y1 ∧ fi 2 = some y2 ∧ fi 3 = some y3 ∧ fi 4 = some y4 ∧ fi 5 = some y5 ∧ fi 6 = some y6 ∧ fi 7 = some y7) (hj : 3 < 8) (hk : 4 < 8) (ha : a + n ≤ 40) (hb2 : b + n ≤ 40) (hu_62 : g_62 = va_cpy f3 f4 ((nI a) : Int32).toNatClampNeg ((nI b) : Int32).toNatClampNeg ((nI n) : Int32).toNatClampNeg) : (itX f0 f1 f2 f3 g_62 f5 f6 f7) = upI (itX f0 f1 f2 f3 f4 f5 f6 f7) 4 (cpI ((itX f0 f1 f2 f3 f4 f5 f6 f7) 3) ((itX f0 f1 f2 f3 f4 f5 f6 f7) 4) a b n) := by
  first
  | exact it_m0 ha hb2 (by assumption) (fun i hi => (if_pos hi).symm)
  | exact it_m1 ha hb2 (by assumption) (fun i hi => (if_pos hi).symm)
  | exact it_m2 ha hb2 (by assumption) (fun i hi => (if_pos hi).symm)
  | exact it_m3 ha hb2 (by assumption) (fun i hi => (if_pos hi).symm)
  | exact it_m4 ha hb2 (by assumption) (fun i hi => (if_pos hi).symm)
  | exact it_m5 ha hb2 (by assumption) (fun i hi => (if_pos hi).symm)
  | exact it_m6 ha hb2 (by assumption) (fun i hi => (if_pos hi).symm)
  | exact it_m7 ha hb2 (by assumption) (fun i hi => (if_pos hi).symm)
theorem lf_X5_move_30 {y0 : Nat} {y1 : Nat} {y2 : Nat} {y3 : Nat} {y4 : Nat} {y5 : Nat} {y6 : Nat} {y7 : Nat} {f0 : Nat → Int32} {f1 : Nat → Int32} {f2 : Nat → Int32} {f3 : Nat → Int32} {f4 : Nat → Int32} {f5 : Nat → Int32} {f6 : Nat → Int32} {f7 : Nat → Int32} {fi : Nat → Option Nat} {a : Nat} {b : Nat} {n : Nat} {g_64 : Nat → Int32} (hfi : fi 0 = some y0 ∧ fi 1 = some y1 ∧ fi 2 = some y2 ∧ fi 3 = some y3 ∧ fi 4 = some y4 ∧ fi 5 = some y5 ∧ fi 6 = some y6 ∧ fi 7 = some y7) (hj : 3 < 8) (hk : 5 < 8) (ha : a + n ≤ 40) (hb2 : b + n ≤ 40) (hu_64 : g_64 = va_cpy f3 f5 ((nI a) : Int32).toNatClampNeg ((nI b) : Int32).toNatClampNeg ((nI n) : Int32).toNatClampNeg) : (itX f0 f1 f2 f3 f4 g_64 f6 f7) = upI (itX f0 f1 f2 f3 f4 f5 f6 f7) 5 (cpI ((itX f0 f1 f2 f3 f4 f5 f6 f7) 3) ((itX f0 f1 f2 f3 f4 f5 f6 f7) 5) a b n) := by
  first
  | exact it_m0 ha hb2 (by assumption) (fun i hi => (if_pos hi).symm)
  | exact it_m1 ha hb2 (by assumption) (fun i hi => (if_pos hi).symm)
  | exact it_m2 ha hb2 (by assumption) (fun i hi => (if_pos hi).symm)
  | exact it_m3 ha hb2 (by assumption) (fun i hi => (if_pos hi).symm)
  | exact it_m4 ha hb2 (by assumption) (fun i hi => (if_pos hi).symm)
  | exact it_m5 ha hb2 (by assumption) (fun i hi => (if_pos hi).symm)
  | exact it_m6 ha hb2 (by assumption) (fun i hi => (if_pos hi).symm)
  | exact it_m7 ha hb2 (by assumption) (fun i hi => (if_pos hi).symm)
theorem lf_X5_move_31 {y0 : Nat} {y1 : Nat} {y2 : Nat} {y3 : Nat} {y4 : Nat} {y5 : Nat} {y6 : Nat} {y7 : Nat} {f0 : Nat → Int32} {f1 : Nat → Int32} {f2 : Nat → Int32} {f3 : Nat → Int32} {f4 : Nat → Int32} {f5 : Nat → Int32} {f6 : Nat → Int32} {f7 : Nat → Int32} {fi : Nat → Option Nat} {a : Nat} {b : Nat} {n : Nat} {g_66 : Nat → Int32} (hfi : fi 0 = some y0 ∧ fi 1 = some y1 ∧ fi 2 = some y2 ∧ fi 3 = some y3 ∧ fi 4 = some y4 ∧ fi 5 = some y5 ∧ fi 6 = some y6 ∧ fi 7 = some y7) (hj : 3 < 8) (hk : 6 < 8) (ha : a + n ≤ 40) (hb2 : b + n ≤ 40) (hu_66 : g_66 = va_cpy f3 f6 ((nI a) : Int32).toNatClampNeg ((nI b) : Int32).toNatClampNeg ((nI n) : Int32).toNatClampNeg) : (itX f0 f1 f2 f3 f4 f5 g_66 f7) = upI (itX f0 f1 f2 f3 f4 f5 f6 f7) 6 (cpI ((itX f0 f1 f2 f3 f4 f5 f6 f7) 3) ((itX f0 f1 f2 f3 f4 f5 f6 f7) 6) a b n) := by
  first
  | exact it_m0 ha hb2 (by assumption) (fun i hi => (if_pos hi).symm)
  | exact it_m1 ha hb2 (by assumption) (fun i hi => (if_pos hi).symm)
  | exact it_m2 ha hb2 (by assumption) (fun i hi => (if_pos hi).symm)
  | exact it_m3 ha hb2 (by assumption) (fun i hi => (if_pos hi).symm)
  | exact it_m4 ha hb2 (by assumption) (fun i hi => (if_pos hi).symm)
  | exact it_m5 ha hb2 (by assumption) (fun i hi => (if_pos hi).symm)
  | exact it_m6 ha hb2 (by assumption) (fun i hi => (if_pos hi).symm)
  | exact it_m7 ha hb2 (by assumption) (fun i hi => (if_pos hi).symm)
theorem lf_X5_move_32 {y0 : Nat} {y1 : Nat} {y2 : Nat} {y3 : Nat} {y4 : Nat} {y5 : Nat} {y6 : Nat} {y7 : Nat} {f0 : Nat → Int32} {f1 : Nat → Int32} {f2 : Nat → Int32} {f3 : Nat → Int32} {f4 : Nat → Int32} {f5 : Nat → Int32} {f6 : Nat → Int32} {f7 : Nat → Int32} {fi : Nat → Option Nat} {a : Nat} {b : Nat} {n : Nat} {g_68 : Nat → Int32} (hfi : fi 0 = some y0 ∧ fi 1 = some y1 ∧ fi 2 = some y2 ∧ fi 3 = some y3 ∧ fi 4 = some y4 ∧ fi 5 = some y5 ∧ fi 6 = some y6 ∧ fi 7 = some y7) (hj : 3 < 8) (hk : 7 < 8) (ha : a + n ≤ 40) (hb2 : b + n ≤ 40) (hu_68 : g_68 = va_cpy f3 f7 ((nI a) : Int32).toNatClampNeg ((nI b) : Int32).toNatClampNeg ((nI n) : Int32).toNatClampNeg) : (itX f0 f1 f2 f3 f4 f5 f6 g_68) = upI (itX f0 f1 f2 f3 f4 f5 f6 f7) 7 (cpI ((itX f0 f1 f2 f3 f4 f5 f6 f7) 3) ((itX f0 f1 f2 f3 f4 f5 f6 f7) 7) a b n) := by
  first
  | exact it_m0 ha hb2 (by assumption) (fun i hi => (if_pos hi).symm)
  | exact it_m1 ha hb2 (by assumption) (fun i hi => (if_pos hi).symm)
  | exact it_m2 ha hb2 (by assumption) (fun i hi => (if_pos hi).symm)
  | exact it_m3 ha hb2 (by assumption) (fun i hi => (if_pos hi).symm)
  | exact it_m4 ha hb2 (by assumption) (fun i hi => (if_pos hi).symm)
  | exact it_m5 ha hb2 (by assumption) (fun i hi => (if_pos hi).symm)
  | exact it_m6 ha hb2 (by assumption) (fun i hi => (if_pos hi).symm)
  | exact it_m7 ha hb2 (by assumption) (fun i hi => (if_pos hi).symm)
theorem lf_X5_move_33 {y0 : Nat} {y1 : Nat} {y2 : Nat} {y3 : Nat} {y4 : Nat} {y5 : Nat} {y6 : Nat} {y7 : Nat} {f0 : Nat → Int32} {f1 : Nat → Int32} {f2 : Nat → Int32} {f3 : Nat → Int32} {f4 : Nat → Int32} {f5 : Nat → Int32} {f6 : Nat → Int32} {f7 : Nat → Int32} {fi : Nat → Option Nat} {a : Nat} {b : Nat} {n : Nat} {g_71 : Nat → Int32} (hfi : fi 0 = some y0 ∧ fi 1 = some y1 ∧ fi 2 = some y2 ∧ fi 3 = some y3 ∧ fi 4 = some y4 ∧ fi 5 = some y5 ∧ fi 6 = some y6 ∧ fi 7 = some y7) (hj : 4 < 8) (hk : 0 < 8) (ha : a + n ≤ 40) (hb2 : b + n ≤ 40) (hu_71 : g_71 = va_cpy f4 f0 ((nI a) : Int32).toNatClampNeg ((nI b) : Int32).toNatClampNeg ((nI n) : Int32).toNatClampNeg) : (itX g_71 f1 f2 f3 f4 f5 f6 f7) = upI (itX f0 f1 f2 f3 f4 f5 f6 f7) 0 (cpI ((itX f0 f1 f2 f3 f4 f5 f6 f7) 4) ((itX f0 f1 f2 f3 f4 f5 f6 f7) 0) a b n) := by
  first
  | exact it_m0 ha hb2 (by assumption) (fun i hi => (if_pos hi).symm)
  | exact it_m1 ha hb2 (by assumption) (fun i hi => (if_pos hi).symm)
  | exact it_m2 ha hb2 (by assumption) (fun i hi => (if_pos hi).symm)
  | exact it_m3 ha hb2 (by assumption) (fun i hi => (if_pos hi).symm)
  | exact it_m4 ha hb2 (by assumption) (fun i hi => (if_pos hi).symm)
  | exact it_m5 ha hb2 (by assumption) (fun i hi => (if_pos hi).symm)
  | exact it_m6 ha hb2 (by assumption) (fun i hi => (if_pos hi).symm)
  | exact it_m7 ha hb2 (by assumption) (fun i hi => (if_pos hi).symm)
theorem lf_X5_move_34 {y0 : Nat} {y1 : Nat} {y2 : Nat} {y3 : Nat} {y4 : Nat} {y5 : Nat} {y6 : Nat} {y7 : Nat} {f0 : Nat → Int32} {f1 : Nat → Int32} {f2 : Nat → Int32} {f3 : Nat → Int32} {f4 : Nat → Int32} {f5 : Nat → Int32} {f6 : Nat → Int32} {f7 : Nat → Int32} {fi : Nat → Option Nat} {a : Nat} {b : Nat} {n : Nat} {g_73 : Nat → Int32} (hfi : fi 0 = some y0 ∧ fi 1 = some y1 ∧ fi 2 = some y2 ∧ fi 3 = some y3 ∧ fi 4 = some y4 ∧ fi 5 = some y5 ∧ fi 6 = some y6 ∧ fi 7 = some y7) (hj : 4 < 8) (hk : 1 < 8) (ha : a + n ≤ 40) (hb2 : b + n ≤ 40) (hu_73 : g_73 = va_cpy f4 f1 ((nI a) : Int32).toNatClampNeg ((nI b) : Int32).toNatClampNeg ((nI n) : Int32).toNatClampNeg) : (itX f0 g_73 f2 f3 f4 f5 f6 f7) = upI (itX f0 f1 f2 f3 f4 f5 f6 f7) 1 (cpI ((itX f0 f1 f2 f3 f4 f5 f6 f7) 4) ((itX f0 f1 f2 f3 f4 f5 f6 f7) 1) a b n) := by
  first
  | exact it_m0 ha hb2 (by assumption) (fun i hi => (if_pos hi).symm)
  | exact it_m1 ha hb2 (by assumption) (fun i hi => (if_pos hi).symm)
  | exact it_m2 ha hb2 (by assumption) (fun i hi => (if_pos hi).symm)
  | exact it_m3 ha hb2 (by assumption) (fun i hi => (if_pos hi).symm)
  | exact it_m4 ha hb2 (by assumption) (fun i hi => (if_pos hi).symm)
  | exact it_m5 ha hb2 (by assumption) (fun i hi => (if_pos hi).symm)
  | exact it_m6 ha hb2 (by assumption) (fun i hi => (if_pos hi).symm)
  | exact it_m7 ha hb2 (by assumption) (fun i hi => (if_pos hi).symm)
theorem lf_X5_move_35 {y0 : Nat} {y1 : Nat} {y2 : Nat} {y3 : Nat} {y4 : Nat} {y5 : Nat} {y6 : Nat} {y7 : Nat} {f0 : Nat → Int32} {f1 : Nat → Int32} {f2 : Nat → Int32} {f3 : Nat → Int32} {f4 : Nat → Int32} {f5 : Nat → Int32} {f6 : Nat → Int32} {f7 : Nat → Int32} {fi : Nat → Option Nat} {a : Nat} {b : Nat} {n : Nat} {g_75 : Nat → Int32} (hfi : fi 0 = some y0 ∧ fi 1 = some y1 ∧ fi 2 = some y2 ∧ fi 3 = some y3 ∧ fi 4 = some y4 ∧ fi 5 = some y5 ∧ fi 6 = some y6 ∧ fi 7 = some y7) (hj : 4 < 8) (hk : 2 < 8) (ha : a + n ≤ 40) (hb2 : b + n ≤ 40) (hu_75 : g_75 = va_cpy f4 f2 ((nI a) : Int32).toNatClampNeg ((nI b) : Int32).toNatClampNeg ((nI n) : Int32).toNatClampNeg) : (itX f0 f1 g_75 f3 f4 f5 f6 f7) = upI (itX f0 f1 f2 f3 f4 f5 f6 f7) 2 (cpI ((itX f0 f1 f2 f3 f4 f5 f6 f7) 4) ((itX f0 f1 f2 f3 f4 f5 f6 f7) 2) a b n) := by
  first
  | exact it_m0 ha hb2 (by assumption) (fun i hi => (if_pos hi).symm)
  | exact it_m1 ha hb2 (by assumption) (fun i hi => (if_pos hi).symm)
  | exact it_m2 ha hb2 (by assumption) (fun i hi => (if_pos hi).symm)
  | exact it_m3 ha hb2 (by assumption) (fun i hi => (if_pos hi).symm)
  | exact it_m4 ha hb2 (by assumption) (fun i hi => (if_pos hi).symm)
  | exact it_m5 ha hb2 (by assumption) (fun i hi => (if_pos hi).symm)
  | exact it_m6 ha hb2 (by assumption) (fun i hi => (if_pos hi).symm)
  | exact it_m7 ha hb2 (by assumption) (fun i hi => (if_pos hi).symm)
theorem lf_X5_move_36 {y0 : Nat} {y1 : Nat} {y2 : Nat} {y3 : Nat} {y4 : Nat} {y5 : Nat} {y6 : Nat} {y7 : Nat} {f0 : Nat → Int32} {f1 : Nat → Int32} {f2 : Nat → Int32} {f3 : Nat → Int32} {f4 : Nat → Int32} {f5 : Nat → Int32} {f6 : Nat → Int32} {f7 : Nat → Int32} {fi : Nat → Option Nat} {a : Nat} {b : Nat} {n : Nat} {g_77 : Nat → Int32} (hfi : fi 0 = some y0 ∧ fi 1 = some y1 ∧ fi 2 = some y2 ∧ fi 3 = some y3 ∧ fi 4 = some y4 ∧ fi 5 = some y5 ∧ fi 6 = some y6 ∧ fi 7 = some y7) (hj : 4 < 8) (hk : 3 < 8) (ha : a + n ≤ 40) (hb2 : b + n ≤ 40) (hu_77 : g_77 = va_cpy f4 f3 ((nI a) : Int32).toNatClampNeg ((nI b) : Int32).toNatClampNeg ((nI n) : Int32).toNatClampNeg) : (itX f0 f1 f2 g_77 f4 f5 f6 f7) = upI (itX f0 f1 f2 f3 f4 f5 f6 f7) 3 (cpI ((itX f0 f1 f2 f3 f4 f5 f6 f7) 4) ((itX f0 f1 f2 f3 f4 f5 f6 f7) 3) a b n) := by
  first
  | exact it_m0 ha hb2 (by assumption) (fun i hi => (if_pos hi).symm)
  | exact it_m1 ha hb2 (by assumption) (fun i hi => (if_pos hi).symm)
  | exact it_m2 ha hb2 (by assumption) (fun i hi => (if_pos hi).symm)
  | exact it_m3 ha hb2 (by assumption) (fun i hi => (if_pos hi).symm)
  | exact it_m4 ha hb2 (by assumption) (fun i hi => (if_pos hi).symm)
  | exact it_m5 ha hb2 (by assumption) (fun i hi => (if_pos hi).symm)
  | exact it_m6 ha hb2 (by assumption) (fun i hi => (if_pos hi).symm)
  | exact it_m7 ha hb2 (by assumption) (fun i hi => (if_pos hi).symm)
theorem lf_X5_move_37 {y0 : Nat} {y1 : Nat} {y2 : Nat} {y3 : Nat} {y4 : Nat} {y5 : Nat} {y6 : Nat} {y7 : Nat} {f0 : Nat → Int32} {f1 : Nat → Int32} {f2 : Nat → Int32} {f3 : Nat → Int32} {f4 : Nat → Int32} {f5 : Nat → Int32} {f6 : Nat → Int32} {f7 : Nat → Int32} {fi : Nat → Option Nat} {a : Nat} {b : Nat} {n : Nat} {g_79 : Nat → Int32} (hfi : fi 0 = some y0 ∧ fi 1 = some y1 ∧ fi 2 = some y2 ∧ fi 3 = some y3 ∧ fi 4 = some y4 ∧ fi 5 = some y5 ∧ fi 6 = some y6 ∧ fi 7 = some y7) (hj : 4 < 8) (hk : 4 < 8) (ha : a + n ≤ 40) (hb2 : b + n ≤ 40) (hu_79 : g_79 = va_cpy f4 f4 ((nI a) : Int32).toNatClampNeg ((nI b) : Int32).toNatClampNeg ((nI n) : Int32).toNatClampNeg) : (itX f0 f1 f2 f3 g_79 f5 f6 f7) = upI (itX f0 f1 f2 f3 f4 f5 f6 f7) 4 (cpI ((itX f0 f1 f2 f3 f4 f5 f6 f7) 4) ((itX f0 f1 f2 f3 f4 f5 f6 f7) 4) a b n) := by
  first
  | exact it_m0 ha hb2 (by assumption) (fun i hi => (if_pos hi).symm)
  | exact it_m1 ha hb2 (by assumption) (fun i hi => (if_pos hi).symm)
  | exact it_m2 ha hb2 (by assumption) (fun i hi => (if_pos hi).symm)
  | exact it_m3 ha hb2 (by assumption) (fun i hi => (if_pos hi).symm)
  | exact it_m4 ha hb2 (by assumption) (fun i hi => (if_pos hi).symm)
  | exact it_m5 ha hb2 (by assumption) (fun i hi => (if_pos hi).symm)
  | exact it_m6 ha hb2 (by assumption) (fun i hi => (if_pos hi).symm)
  | exact it_m7 ha hb2 (by assumption) (fun i hi => (if_pos hi).symm)
theorem lf_X5_move_38 {y0 : Nat} {y1 : Nat} {y2 : Nat} {y3 : Nat} {y4 : Nat} {y5 : Nat} {y6 : Nat} {y7 : Nat} {f0 : Nat → Int32} {f1 : Nat → Int32} {f2 : Nat → Int32} {f3 : Nat → Int32} {f4 : Nat → Int32} {f5 : Nat → Int32} {f6 : Nat → Int32} {f7 : Nat → Int32} {fi : Nat → Option Nat} {a : Nat} {b : Nat} {n : Nat} {g_81 : Nat → Int32} (hfi : fi 0 = some y0 ∧ fi 1 = some y1 ∧ fi 2 = some y2 ∧ fi 3 = some y3 ∧ fi 4 = some y4 ∧ fi 5 = some y5 ∧ fi 6 = some y6 ∧ fi 7 = some y7) (hj : 4 < 8) (hk : 5 < 8) (ha : a + n ≤ 40) (hb2 : b + n ≤ 40) (hu_81 : g_81 = va_cpy f4 f5 ((nI a) : Int32).toNatClampNeg ((nI b) : Int32).toNatClampNeg ((nI n) : Int32).toNatClampNeg) : (itX f0 f1 f2 f3 f4 g_81 f6 f7) = upI (itX f0 f1 f2 f3 f4 f5 f6 f7) 5 (cpI ((itX f0 f1 f2 f3 f4 f5 f6 f7) 4) ((itX f0 f1 f2 f3 f4 f5 f6 f7) 5) a b n) := by
  first
  | exact it_m0 ha hb2 (by assumption) (fun i hi => (if_pos hi).symm)
  | exact it_m1 ha hb2 (by assumption) (fun i hi => (if_pos hi).symm)
  | exact it_m2 ha hb2 (by assumption) (fun i hi => (if_pos hi).symm)
  | exact it_m3 ha hb2 (by assumption) (fun i hi => (if_pos hi).symm)
  | exact it_m4 ha hb2 (by assumption) (fun i hi => (if_pos hi).symm)
  | exact it_m5 ha hb2 (by assumption) (fun i hi => (if_pos hi).symm)
  | exact it_m6 ha hb2 (by assumption) (fun i hi => (if_pos hi).symm)
  | exact it_m7 ha hb2 (by assumption) (fun i hi => (if_pos hi).symm)
theorem lf_X5_move_39 {y0 : Nat} {y1 : Nat} {y2 : Nat} {y3 : Nat} {y4 : Nat} {y5 : Nat} {y6 : Nat} {y7 : Nat} {f0 : Nat → Int32} {f1 : Nat → Int32} {f2 : Nat → Int32} {f3 : Nat → Int32} {f4 : Nat → Int32} {f5 : Nat → Int32} {f6 : Nat → Int32} {f7 : Nat → Int32} {fi : Nat → Option Nat} {a : Nat} {b : Nat} {n : Nat} {g_83 : Nat → Int32} (hfi : fi 0 = some y0 ∧ fi 1 = some y1 ∧ fi 2 = some y2 ∧ fi 3 = some y3 ∧ fi 4 = some y4 ∧ fi 5 = some y5 ∧ fi 6 = some y6 ∧ fi 7 = some y7) (hj : 4 < 8) (hk : 6 < 8) (ha : a + n ≤ 40) (hb2 : b + n ≤ 40) (hu_83 : g_83 = va_cpy f4 f6 ((nI a) : Int32).toNatClampNeg ((nI b) : Int32).toNatClampNeg ((nI n) : Int32).toNatClampNeg) : (itX f0 f1 f2 f3 f4 f5 g_83 f7) = upI (itX f0 f1 f2 f3 f4 f5 f6 f7) 6 (cpI ((itX f0 f1 f2 f3 f4 f5 f6 f7) 4) ((itX f0 f1 f2 f3 f4 f5 f6 f7) 6) a b n) := by
  first
  | exact it_m0 ha hb2 (by assumption) (fun i hi => (if_pos hi).symm)
  | exact it_m1 ha hb2 (by assumption) (fun i hi => (if_pos hi).symm)
  | exact it_m2 ha hb2 (by assumption) (fun i hi => (if_pos hi).symm)
  | exact it_m3 ha hb2 (by assumption) (fun i hi => (if_pos hi).symm)
  | exact it_m4 ha hb2 (by assumption) (fun i hi => (if_pos hi).symm)
  | exact it_m5 ha hb2 (by assumption) (fun i hi => (if_pos hi).symm)
  | exact it_m6 ha hb2 (by assumption) (fun i hi => (if_pos hi).symm)
  | exact it_m7 ha hb2 (by assumption) (fun i hi => (if_pos hi).symm)
theorem lf_X5_move_40 {y0 : Nat} {y1 : Nat} {y2 : Nat} {y3 : Nat} {y4 : Nat} {y5 : Nat} {y6 : Nat} {y7 : Nat} {f0 : Nat → Int32} {f1 : Nat → Int32} {f2 : Nat → Int32} {f3 : Nat → Int32} {f4 : Nat → Int32} {f5 : Nat → Int32} {f6 : Nat → Int32} {f7 : Nat → Int32} {fi : Nat → Option Nat} {a : Nat} {b : Nat} {n : Nat} {g_85 : Nat → Int32} (hfi : fi 0 = some y0 ∧ fi 1 = some y1 ∧ fi 2 = some y2 ∧ fi 3 = some y3 ∧ fi 4 = some y4 ∧ fi 5 = some y5 ∧ fi 6 = some y6 ∧ fi 7 = some y7) (hj : 4 < 8) (hk : 7 < 8) (ha : a + n ≤ 40) (hb2 : b + n ≤ 40) (hu_85 : g_85 = va_cpy f4 f7 ((nI a) : Int32).toNatClampNeg ((nI b) : Int32).toNatClampNeg ((nI n) : Int32).toNatClampNeg) : (itX f0 f1 f2 f3 f4 f5 f6 g_85) = upI (itX f0 f1 f2 f3 f4 f5 f6 f7) 7 (cpI ((itX f0 f1 f2 f3 f4 f5 f6 f7) 4) ((itX f0 f1 f2 f3 f4 f5 f6 f7) 7) a b n) := by
  first
  | exact it_m0 ha hb2 (by assumption) (fun i hi => (if_pos hi).symm)
  | exact it_m1 ha hb2 (by assumption) (fun i hi => (if_pos hi).symm)
  | exact it_m2 ha hb2 (by assumption) (fun i hi => (if_pos hi).symm)
  | exact it_m3 ha hb2 (by assumption) (fun i hi => (if_pos hi).symm)
  | exact it_m4 ha hb2 (by assumption) (fun i hi => (if_pos hi).symm)
  | exact it_m5 ha hb2 (by assumption) (fun i hi => (if_pos hi).symm)
  | exact it_m6 ha hb2 (by assumption) (fun i hi => (if_pos hi).symm)
  | exact it_m7 ha hb2 (by assumption) (fun i hi => (if_pos hi).symm)
theorem lf_X5_move_41 {y0 : Nat} {y1 : Nat} {y2 : Nat} {y3 : Nat} {y4 : Nat} {y5 : Nat} {y6 : Nat} {y7 : Nat} {f0 : Nat → Int32} {f1 : Nat → Int32} {f2 : Nat → Int32} {f3 : Nat → Int32} {f4 : Nat → Int32} {f5 : Nat → Int32} {f6 : Nat → Int32} {f7 : Nat → Int32} {fi : Nat → Option Nat} {a : Nat} {b : Nat} {n : Nat} {g_88 : Nat → Int32} (hfi : fi 0 = some y0 ∧ fi 1 = some y1 ∧ fi 2 = some y2 ∧ fi 3 = some y3 ∧ fi 4 = some y4 ∧ fi 5 = some y5 ∧ fi 6 = some y6 ∧ fi 7 = some y7) (hj : 5 < 8) (hk : 0 < 8) (ha : a + n ≤ 40) (hb2 : b + n ≤ 40) (hu_88 : g_88 = va_cpy f5 f0 ((nI a) : Int32).toNatClampNeg ((nI b) : Int32).toNatClampNeg ((nI n) : Int32).toNatClampNeg) : (itX g_88 f1 f2 f3 f4 f5 f6 f7) = upI (itX f0 f1 f2 f3 f4 f5 f6 f7) 0 (cpI ((itX f0 f1 f2 f3 f4 f5 f6 f7) 5) ((itX f0 f1 f2 f3 f4 f5 f6 f7) 0) a b n) := by
  first
  | exact it_m0 ha hb2 (by assumption) (fun i hi => (if_pos hi).symm)
  | exact it_m1 ha hb2 (by assumption) (fun i hi => (if_pos hi).symm)
  | exact it_m2 ha hb2 (by assumption) (fun i hi => (if_pos hi).symm)
  | exact it_m3 ha hb2 (by assumption) (fun i hi => (if_pos hi).symm)
  | exact it_m4 ha hb2 (by assumption) (fun i hi => (if_pos hi).symm)
  | exact it_m5 ha hb2 (by assumption) (fun i hi => (if_pos hi).symm)
  | exact it_m6 ha hb2 (by assumption) (fun i hi => (if_pos hi).symm)
  | exact it_m7 ha hb2 (by assumption) (fun i hi => (if_pos hi).symm)
theorem lf_X5_move_42 {y0 : Nat} {y1 : Nat} {y2 : Nat} {y3 : Nat} {y4 : Nat} {y5 : Nat} {y6 : Nat} {y7 : Nat} {f0 : Nat → Int32} {f1 : Nat → Int32} {f2 : Nat → Int32} {f3 : Nat → Int32} {f4 : Nat → Int32} {f5 : Nat → Int32} {f6 : Nat → Int32} {f7 : Nat → Int32} {fi : Nat → Option Nat} {a : Nat} {b : Nat} {n : Nat} {g_90 : Nat → Int32} (hfi : fi 0 = some y0 ∧ fi 1 = some y1 ∧ fi 2 = some y2 ∧ fi 3 = some y3 ∧ fi 4 = some y4 ∧ fi 5 = some y5 ∧ fi 6 = some y6 ∧ fi 7 = some y7) (hj : 5 < 8) (hk : 1 < 8) (ha : a + n ≤ 40) (hb2 : b + n ≤ 40) (hu_90 : g_90 = va_cpy f5 f1 ((nI a) : Int32).toNatClampNeg ((nI b) : Int32).toNatClampNeg ((nI n) : Int32).toNatClampNeg) : (itX f0 g_90 f2 f3 f4 f5 f6 f7) = upI (itX f0 f1 f2 f3 f4 f5 f6 f7) 1 (cpI ((itX f0 f1 f2 f3 f4 f5 f6 f7) 5) ((itX f0 f1 f2 f3 f4 f5 f6 f7) 1) a b n) := by
  first
  | exact it_m0 ha hb2 (by assumption) (fun i hi => (if_pos hi).symm)
  | exact it_m1 ha hb2 (by assumption) (fun i hi => (if_pos hi).symm)
  | exact it_m2 ha hb2 (by assumption) (fun i hi => (if_pos hi).symm)
  | exact it_m3 ha hb2 (by assumption) (fun i hi => (if_pos hi).symm)
  | exact it_m4 ha hb2 (by assumption) (fun i hi => (if_pos hi).symm)
  | exact it_m5 ha hb2 (by assumption) (fun i hi => (if_pos hi).symm)
  | exact it_m6 ha hb2 (by assumption) (fun i hi => (if_pos hi).symm)
  | exact it_m7 ha hb2 (by assumption) (fun i hi => (if_pos hi).symm)
theorem lf_X5_move_43 {y0 : Nat} {y1 : Nat} {y2 : Nat} {y3 : Nat} {y4 : Nat} {y5 : Nat} {y6 : Nat} {y7 : Nat} {f0 : Nat → Int32} {f1 : Nat → Int32} {f2 : Nat → Int32} {f3 : Nat → Int32} {f4 : Nat → Int32} {f5 : Nat → Int32} {f6 : Nat → Int32} {f7 : Nat → Int32} {fi : Nat → Option Nat} {a : Nat} {b : Nat} {n : Nat} {g_92 : Nat → Int32} (hfi : fi 0 = some y0 ∧ fi 1 = some y1 ∧ fi 2 = some y2 ∧ fi 3 = some y3 ∧ fi 4 = some y4 ∧ fi 5 = some y5 ∧ fi 6 = some y6 ∧ fi 7 = some y7) (hj : 5 < 8) (hk : 2 < 8) (ha : a + n ≤ 40) (hb2 : b + n ≤ 40) (hu_92 : g_92 = va_cpy f5 f2 ((nI a) : Int32).toNatClampNeg ((nI b) : Int32).toNatClampNeg ((nI n) : Int32).toNatClampNeg) : (itX f0 f1 g_92 f3 f4 f5 f6 f7) = upI (itX f0 f1 f2 f3 f4 f5 f6 f7) 2 (cpI ((itX f0 f1 f2 f3 f4 f5 f6 f7) 5) ((itX f0 f1 f2 f3 f4 f5 f6 f7) 2) a b n) := by
  first
  | exact it_m0 ha hb2 (by assumption) (fun i hi => (if_pos hi).symm)
  | exact it_m1 ha hb2 (by assumption) (fun i hi => (if_pos hi).symm)
  | exact it_m2 ha hb2 (by assumption) (fun i hi => (if_pos hi).symm)
  | exact it_m3 ha hb2 (by assumption) (fun i hi => (if_pos hi).symm)
  | exact it_m4 ha hb2 (by assumption) (fun i hi => (if_pos hi).symm)
  | exact it_m5 ha hb2 (by assumption) (fun i hi => (if_pos hi).symm)
  | exact it_m6 ha hb2 (by assumption) (fun i hi => (if_pos hi).symm)
  | exact it_m7 ha hb2 (by assumption) (fun i hi => (if_pos hi).symm)
theorem lf_X5_move_44 {y0 : Nat} {y1 : Nat} {y2 : Nat} {y3 : Nat} {y4 : Nat} {y5 : Nat} {y6 : Nat} {y7 : Nat} {f0 : Nat → Int32} {f1 : Nat → Int32} {f2 : Nat → Int32} {f3 : Nat → Int32} {f4 : Nat → Int32} {f5 : Nat → Int32} {f6 : Nat → Int32} {f7 : Nat → Int32} {fi : Nat → Option Nat} {a : Nat} {b : Nat} {n : Nat} {g_94 : Nat → Int32} (hfi : fi 0 = some y0 ∧ fi 1 = some y1 ∧ fi 2 = some y2 ∧ fi 3 = some y3 ∧ fi 4 = some y4 ∧ fi 5 = some y5 ∧ fi 6 = some y6 ∧ fi 7 = some y7) (hj : 5 < 8) (hk : 3 < 8) (ha : a + n ≤ 40) (hb2 : b + n ≤ 40) (hu_94 : g_94 = va_cpy f5 f3 ((nI a) : Int32).toNatClampNeg ((nI b) : Int32).toNatClampNeg ((nI n) : Int32).toNatClampNeg) : (itX f0 f1 f2 g_94 f4 f5 f6 f7) = upI (itX f0 f1 f2 f3 f4 f5 f6 f7) 3 (cpI ((itX f0 f1 f2 f3 f4 f5 f6 f7) 5) ((itX f0 f1 f2 f3 f4 f5 f6 f7) 3) a b n) := by
  first
  | exact it_m0 ha hb2 (by assumption) (fun i hi => (if_pos hi).symm)
  | exact it_m1 ha hb2 (by assumption) (fun i hi => (if_pos hi).symm)
  | exact it_m2 ha hb2 (by assumption) (fun i hi => (if_pos hi).symm)
  | exact it_m3 ha hb2 (by assumption) (fun i hi => (if_pos hi).symm)
  | exact it_m4 ha hb2 (by assumption) (fun i hi => (if_pos hi).symm)
  | exact it_m5 ha hb2 (by assumption) (fun i hi => (if_pos hi).symm)
  | exact it_m6 ha hb2 (by assumption) (fun i hi => (if_pos hi).symm)
  | exact it_m7 ha hb2 (by assumption) (fun i hi => (if_pos hi).symm)
theorem lf_X5_move_45 {y0 : Nat} {y1 : Nat} {y2 : Nat} {y3 : Nat} {y4 : Nat} {y5 : Nat} {y6 : Nat} {y7 : Nat} {f0 : Nat → Int32} {f1 : Nat → Int32} {f2 : Nat → Int32} {f3 : Nat → Int32} {f4 : Nat → Int32} {f5 : Nat → Int32} {f6 : Nat → Int32} {f7 : Nat → Int32} {fi : Nat → Option Nat} {a : Nat} {b : Nat} {n : Nat} {g_96 : Nat → Int32} (hfi : fi 0 = some y0 ∧ fi 1 = some y1 ∧ fi 2 = some y2 ∧ fi 3 = some y3 ∧ fi 4 = some y4 ∧ fi 5 = some y5 ∧ fi 6 = some y6 ∧ fi 7 = some y7) (hj : 5 < 8) (hk : 4 < 8) (ha : a + n ≤ 40) (hb2 : b + n ≤ 40) (hu_96 : g_96 = va_cpy f5 f4 ((nI a) : Int32).toNatClampNeg ((nI b) : Int32).toNatClampNeg ((nI n) : Int32).toNatClampNeg) : (itX f0 f1 f2 f3 g_96 f5 f6 f7) = upI (itX f0 f1 f2 f3 f4 f5 f6 f7) 4 (cpI ((itX f0 f1 f2 f3 f4 f5 f6 f7) 5) ((itX f0 f1 f2 f3 f4 f5 f6 f7) 4) a b n) := by
  first
  | exact it_m0 ha hb2 (by assumption) (fun i hi => (if_pos hi).symm)
  | exact it_m1 ha hb2 (by assumption) (fun i hi => (if_pos hi).symm)
  | exact it_m2 ha hb2 (by assumption) (fun i hi => (if_pos hi).symm)
  | exact it_m3 ha hb2 (by assumption) (fun i hi => (if_pos hi).symm)
  | exact it_m4 ha hb2 (by assumption) (fun i hi => (if_pos hi).symm)
  | exact it_m5 ha hb2 (by assumption) (fun i hi => (if_pos hi).symm)
  | exact it_m6 ha hb2 (by assumption) (fun i hi => (if_pos hi).symm)
  | exact it_m7 ha hb2 (by assumption) (fun i hi => (if_pos hi).symm)
theorem lf_X5_move_46 {y0 : Nat} {y1 : Nat} {y2 : Nat} {y3 : Nat} {y4 : Nat} {y5 : Nat} {y6 : Nat} {y7 : Nat} {f0 : Nat → Int32} {f1 : Nat → Int32} {f2 : Nat → Int32} {f3 : Nat → Int32} {f4 : Nat → Int32} {f5 : Nat → Int32} {f6 : Nat → Int32} {f7 : Nat → Int32} {fi : Nat → Option Nat} {a : Nat} {b : Nat} {n : Nat} {g_98 : Nat → Int32} (hfi : fi 0 = some y0 ∧ fi 1 = some y1 ∧ fi 2 = some y2 ∧ fi 3 = some y3 ∧ fi 4 = some y4 ∧ fi 5 = some y5 ∧ fi 6 = some y6 ∧ fi 7 = some y7) (hj : 5 < 8) (hk : 5 < 8) (ha : a + n ≤ 40) (hb2 : b + n ≤ 40) (hu_98 : g_98 = va_cpy f5 f5 ((nI a) : Int32).toNatClampNeg ((nI b) : Int32).toNatClampNeg ((nI n) : Int32).toNatClampNeg) : (itX f0 f1 f2 f3 f4 g_98 f6 f7) = upI (itX f0 f1 f2 f3 f4 f5 f6 f7) 5 (cpI ((itX f0 f1 f2 f3 f4 f5 f6 f7) 5) ((itX f0 f1 f2 f3 f4 f5 f6 f7) 5) a b n) := by
  first
  | exact it_m0 ha hb2 (by assumption) (fun i hi => (if_pos hi).symm)
  | exact it_m1 ha hb2 (by assumption) (fun i hi => (if_pos hi).symm)
  | exact it_m2 ha hb2 (by assumption) (fun i hi => (if_pos hi).symm)
  | exact it_m3 ha hb2 (by assumption) (fun i hi => (if_pos hi).symm)
  | exact it_m4 ha hb2 (by assumption) (fun i hi => (if_pos hi).symm)
  | exact it_m5 ha hb2 (by assumption) (fun i hi => (if_pos hi).symm)
  | exact it_m6 ha hb2 (by assumption) (fun i hi => (if_pos hi).symm)
  | exact it_m7 ha hb2 (by assumption) (fun i hi => (if_pos hi).symm)
theorem lf_X5_move_47 {y0 : Nat} {y1 : Nat} {y2 : Nat} {y3 : Nat} {y4 : Nat} {y5 : Nat} {y6 : Nat} {y7 : Nat} {f0 : Nat → Int32} {f1 : Nat → Int32} {f2 : Nat → Int32} {f3 : Nat → Int32} {f4 : Nat → Int32} {f5 : Nat → Int32} {f6 : Nat → Int32} {f7 : Nat → Int32} {fi : Nat → Option Nat} {a : Nat} {b : Nat} {n : Nat} {g_100 : Nat → Int32} (hfi : fi 0 = some y0 ∧ fi 1 = some y1 ∧ fi 2 = some y2 ∧ fi 3 = some y3 ∧ fi 4 = some y4 ∧ fi 5 = some y5 ∧ fi 6 = some y6 ∧ fi 7 = some y7) (hj : 5 < 8) (hk : 6 < 8) (ha : a + n ≤ 40) (hb2 : b + n ≤ 40) (hu_100 : g_100 = va_cpy f5 f6 ((nI a) : Int32).toNatClampNeg ((nI b) : Int32).toNatClampNeg ((nI n) : Int32).toNatClampNeg) : (itX f0 f1 f2 f3 f4 f5 g_100 f7) = upI (itX f0 f1 f2 f3 f4 f5 f6 f7) 6 (cpI ((itX f0 f1 f2 f3 f4 f5 f6 f7) 5) ((itX f0 f1 f2 f3 f4 f5 f6 f7) 6) a b n) := by
  first
  | exact it_m0 ha hb2 (by assumption) (fun i hi => (if_pos hi).symm)
  | exact it_m1 ha hb2 (by assumption) (fun i hi => (if_pos hi).symm)
  | exact it_m2 ha hb2 (by assumption) (fun i hi => (if_pos hi).symm)
  | exact it_m3 ha hb2 (by assumption) (fun i hi => (if_pos hi).symm)
  | exact it_m4 ha hb2 (by assumption) (fun i hi => (if_pos hi).symm)
  | exact it_m5 ha hb2 (by assumption) (fun i hi => (if_pos hi).symm)
  | exact it_m6 ha hb2 (by assumption) (fun i hi => (if_pos hi).symm)
  | exact it_m7 ha hb2 (by assumption) (fun i hi => (if_pos hi).symm)
theorem lf_X5_move_48 {y0 : Nat} {y1 : Nat} {y2 : Nat} {y3 : Nat} {y4 : Nat} {y5 : Nat} {y6 : Nat} {y7 : Nat} {f0 : Nat → Int32} {f1 : Nat → Int32} {f2 : Nat → Int32} {f3 : Nat → Int32} {f4 : Nat → Int32} {f5 : Nat → Int32} {f6 : Nat → Int32} {f7 : Nat → Int32} {fi : Nat → Option Nat} {a : Nat} {b : Nat} {n : Nat} {g_102 : Nat → Int32} (hfi : fi 0 = some y0 ∧ fi 1 = some y1 ∧ fi 2 = some y2 ∧ fi 3 = some y3 ∧ fi 4 = some y4 ∧ fi 5 = some y5 ∧ fi 6 = some y6 ∧ fi 7 = some y7) (hj : 5 < 8) (hk : 7 < 8) (ha : a + n ≤ 40) (hb2 : b + n ≤ 40) (hu_102 : g_102 = va_cpy f5 f7 ((nI a) : Int32).toNatClampNeg ((nI b) : Int32).toNatClampNeg ((nI n) : Int32).toNatClampNeg) : (itX f0 f1 f2 f3 f4 f5 f6 g_102) = upI (itX f0 f1 f2 f3 f4 f5 f6 f7) 7 (cpI ((itX f0 f1 f2 f3 f4 f5 f6 f7) 5) ((itX f0 f1 f2 f3 f4 f5 f6 f7) 7) a b n) := by
  first
  | exact it_m0 ha hb2 (by assumption) (fun i hi => (if_pos hi).symm)
  | exact it_m1 ha hb2 (by assumption) (fun i hi => (if_pos hi).symm)
  | exact it_m2 ha hb2 (by assumption) (fun i hi => (if_pos hi).symm)
  | exact it_m3 ha hb2 (by assumption) (fun i hi => (if_pos hi).symm)
  | exact it_m4 ha hb2 (by assumption) (fun i hi => (if_pos hi).symm)
  | exact it_m5 ha hb2 (by assumption) (fun i hi => (if_pos hi).symm)
  | exact it_m6 ha hb2 (by assumption) (fun i hi => (if_pos hi).symm)
  | exact it_m7 ha hb2 (by assumption) (fun i hi => (if_pos hi).symm)
theorem lf_X5_move_49 {y0 : Nat} {y1 : Nat} {y2 : Nat} {y3 : Nat} {y4 : Nat} {y5 : Nat} {y6 : Nat} {y7 : Nat} {f0 : Nat → Int32} {f1 : Nat → Int32} {f2 : Nat → Int32} {f3 : Nat → Int32} {f4 : Nat → Int32} {f5 : Nat → Int32} {f6 : Nat → Int32} {f7 : Nat → Int32} {fi : Nat → Option Nat} {a : Nat} {b : Nat} {n : Nat} {g_105 : Nat → Int32} (hfi : fi 0 = some y0 ∧ fi 1 = some y1 ∧ fi 2 = some y2 ∧ fi 3 = some y3 ∧ fi 4 = some y4 ∧ fi 5 = some y5 ∧ fi 6 = some y6 ∧ fi 7 = some y7) (hj : 6 < 8) (hk : 0 < 8) (ha : a + n ≤ 40) (hb2 : b + n ≤ 40) (hu_105 : g_105 = va_cpy f6 f0 ((nI a) : Int32).toNatClampNeg ((nI b) : Int32).toNatClampNeg ((nI n) : Int32).toNatClampNeg) : (itX g_105 f1 f2 f3 f4 f5 f6 f7) = upI (itX f0 f1 f2 f3 f4 f5 f6 f7) 0 (cpI ((itX f0 f1 f2 f3 f4 f5 f6 f7) 6) ((itX f0 f1 f2 f3 f4 f5 f6 f7) 0) a b n) := by
  first
  | exact it_m0 ha hb2 (by assumption) (fun i hi => (if_pos hi).symm)
  | exact it_m1 ha hb2 (by assumption) (fun i hi => (if_pos hi).symm)
  | exact it_m2 ha hb2 (by assumption) (fun i hi => (if_pos hi).symm)
  | exact it_m3 ha hb2 (by assumption) (fun i hi => (if_pos hi).symm)
  | exact it_m4 ha hb2 (by assumption) (fun i hi => (if_pos hi).symm)
  | exact it_m5 ha hb2 (by assumption) (fun i hi => (if_pos hi).symm)
  | exact it_m6 ha hb2 (by assumption) (fun i hi => (if_pos hi).symm)
  | exact it_m7 ha hb2 (by assumption) (fun i hi => (if_pos hi).symm)
theorem lf_X5_move_50 {y0 : Nat} {y1 : Nat} {y2 : Nat} {y3 : Nat} {y4 : Nat} {y5 : Nat} {y6 : Nat} {y7 : Nat} {f0 : Nat → Int32} {f1 : Nat → Int32} {f2 : Nat → Int32} {f3 : Nat → Int32} {f4 : Nat → Int32} {f5 : Nat → Int32} {f6 : Nat → Int32} {f7 : Nat → Int32} {fi : Nat → Option Nat} {a : Nat} {b : Nat} {n : Nat} {g_107 : Nat → Int32} (hfi : fi 0 = some y0 ∧ fi 1 = some y1 ∧ fi 2 = some y2 ∧ fi 3 = some y3 ∧ fi 4 = some y4 ∧ fi 5 = some y5 ∧ fi 6 = some y6 ∧ fi 7 = some y7) (hj : 6 < 8) (hk : 1 < 8) (ha : a + n ≤ 40) (hb2 : b + n ≤ 40) (hu_107 : g_107 = va_cpy f6 f1 ((nI a) : Int32).toNatClampNeg ((nI b) : Int32).toNatClampNeg ((nI n) : Int32).toNatClampNeg) : (itX f0 g_107 f2 f3 f4 f5 f6 f7) = upI (itX f0 f1 f2 f3 f4 f5 f6 f7) 1 (cpI ((itX f0 f1 f2 f3 f4 f5 f6 f7) 6) ((itX f0 f1 f2 f3 f4 f5 f6 f7) 1) a b n) := by
  first
  | exact it_m0 ha hb2 (by assumption) (fun i hi => (if_pos hi).symm)
  | exact it_m1 ha hb2 (by assumption) (fun i hi => (if_pos hi).symm)
  | exact it_m2 ha hb2 (by assumption) (fun i hi => (if_pos hi).symm)
  | exact it_m3 ha hb2 (by assumption) (fun i hi => (if_pos hi).symm)
  | exact it_m4 ha hb2 (by assumption) (fun i hi => (if_pos hi).symm)
  | exact it_m5 ha hb2 (by assumption) (fun i hi => (if_pos hi).symm)
  | exact it_m6 ha hb2 (by assumption) (fun i hi => (if_pos hi).symm)
  | exact it_m7 ha hb2 (by assumption) (fun i hi => (if_pos hi).symm)
theorem lf_X5_move_51 {y0 : Nat} {y1 : Nat} {y2 : Nat} {y3 : Nat} {y4 : Nat} {y5 : Nat} {y6 : Nat} {y7 : Nat} {f0 : Nat → Int32} {f1 : Nat → Int32} {f2 : Nat → Int32} {f3 : Nat → Int32} {f4 : Nat → Int32} {f5 : Nat → Int32} {f6 : Nat → Int32} {f7 : Nat → Int32} {fi : Nat → Option Nat} {a : Nat} {b : Nat} {n : Nat} {g_109 : Nat → Int32} (hfi : fi 0 = some y0 ∧ fi 1 = some y1 ∧ fi 2 = some y2 ∧ fi 3 = some y3 ∧ fi 4 = some y4 ∧ fi 5 = some y5 ∧ fi 6 = some y6 ∧ fi 7 = some y7) (hj : 6 < 8) (hk : 2 < 8) (ha : a + n ≤ 40) (hb2 : b + n ≤ 40) (hu_109 : g_109 = va_cpy f6 f2 ((nI a) : Int32).toNatClampNeg ((nI b) : Int32).toNatClampNeg ((nI n) : Int32).toNatClampNeg) : (itX f0 f1 g_109 f3 f4 f5 f6 f7) = upI (itX f0 f1 f2 f3 f4 f5 f6 f7) 2 (cpI ((itX f0 f1 f2 f3 f4 f5 f6 f7) 6) ((itX f0 f1 f2 f3 f4 f5 f6 f7) 2) a b n) := by
  first
  | exact it_m0 ha hb2 (by assumption) (fun i hi => (if_pos hi).symm)
  | exact it_m1 ha hb2 (by assumption) (fun i hi => (if_pos hi).symm)
  | exact it_m2 ha hb2 (by assumption) (fun i hi => (if_pos hi).symm)
  | exact it_m3 ha hb2 (by assumption) (fun i hi => (if_pos hi).symm)
  | exact it_m4 ha hb2 (by assumption) (fun i hi => (if_pos hi).symm)
  | exact it_m5 ha hb2 (by assumption) (fun i hi => (if_pos hi).symm)
  | exact it_m6 ha hb2 (by assumption) (fun i hi => (if_pos hi).symm)
  | exact it_m7 ha hb2 (by assumption) (fun i hi => (if_pos hi).symm)
theorem lf_X5_move_52 {y0 : Nat} {y1 : Nat} {y2 : Nat} {y3 : Nat} {y4 : Nat} {y5 : Nat} {y6 : Nat} {y7 : Nat} {f0 : Nat → Int32} {f1 : Nat → Int32} {f2 : Nat → Int32} {f3 : Nat → Int32} {f4 : Nat → Int32} {f5 : Nat → Int32} {f6 : Nat → Int32} {f7 : Nat → Int32} {fi : Nat → Option Nat} {a : Nat} {b : Nat} {n : Nat} {g_111 : Nat → Int32} (hfi : fi 0 = some y0 ∧ fi 1 = some y1 ∧ fi 2 = some y2 ∧ fi 3 = some y3 ∧ fi 4 = some y4 ∧ fi 5 = some y5 ∧ fi 6 = some y6 ∧ fi 7 = some y7) (hj : 6 < 8) (hk : 3 < 8) (ha : a + n ≤ 40) (hb2 : b + n ≤ 40) (hu_111 : g_111 = va_cpy f6 f3 ((nI a) : Int32).toNatClampNeg ((nI b) : Int32).toNatClampNeg ((nI n) : Int32).toNatClampNeg) : (itX f0 f1 f2 g_111 f4 f5 f6 f7) = upI (itX f0 f1 f2 f3 f4 f5 f6 f7) 3 (cpI ((itX f0 f1 f2 f3 f4 f5 f6 f7) 6) ((itX f0 f1 f2 f3 f4 f5 f6 f7) 3) a b n) := by
  first
  | exact it_m0 ha hb2 (by assumption) (fun i hi => (if_pos hi).symm)
  | exact it_m1 ha hb2 (by assumption) (fun i hi => (if_pos hi).symm)
  | exact it_m2 ha hb2 (by assumption) (fun i hi => (if_pos hi).symm)
  | exact it_m3 ha hb2 (by assumption) (fun i hi => (if_pos hi).symm)
  | exact it_m4 ha hb2 (by assumption) (fun i hi => (if_pos hi).symm)
  | exact it_m5 ha hb2 (by assumption) (fun i hi => (if_pos hi).symm)
  | exact it_m6 ha hb2 (by assumption) (fun i hi => (if_pos hi).symm)
  | exact it_m7 ha hb2 (by assumption) (fun i hi => (if_pos hi).symm)
theorem lf_X5_move_53 {y0 : Nat} {y1 : Nat} {y2 : Nat} {y3 : Nat} {y4 : Nat} {y5 : Nat} {y6 : Nat} {y7 : Nat} {f0 : Nat → Int32} {f1 : Nat → Int32} {f2 : Nat → Int32} {f3 : Nat → Int32} {f4 : Nat → Int32} {f5 : Nat → Int32} {f6 : Nat → Int32} {f7 : Nat → Int32} {fi : Nat → Option Nat} {a : Nat} {b : Nat} {n : Nat} {g_113 : Nat → Int32} (hfi : fi 0 = some y0 ∧ fi 1 = some y1 ∧ fi 2 = some y2 ∧ fi 3 = some y3 ∧ fi 4 = some y4 ∧ fi 5 = some y5 ∧ fi 6 = some y6 ∧ fi 7 = some y7) (hj : 6 < 8) (hk : 4 < 8) (ha : a + n ≤ 40) (hb2 : b + n ≤ 40) (hu_113 : g_113 = va_cpy f6 f4 ((nI a) : Int32).toNatClampNeg ((nI b) : Int32).toNatClampNeg ((nI n) : Int32).toNatClampNeg) : (itX f0 f1 f2 f3 g_113 f5 f6 f7) = upI (itX f0 f1 f2 f3 f4 f5 f6 f7) 4 (cpI ((itX f0 f1 f2 f3 f4 f5 f6 f7) 6) ((itX f0 f1 f2 f3 f4 f5 f6 f7) 4) a b n) := by
  first
  | exact it_m0 ha hb2 (by assumption) (fun i hi => (if_pos hi).symm)
  | exact it_m1 ha hb2 (by assumption) (fun i hi => (if_pos hi).symm)
  | exact it_m2 ha hb2 (by assumption) (fun i hi => (if_pos hi).symm)
  | exact it_m3 ha hb2 (by assumption) (fun i hi => (if_pos hi).symm)
  | exact it_m4 ha hb2 (by assumption) (fun i hi => (if_pos hi).symm)
  | exact it_m5 ha hb2 (by assumption) (fun i hi => (if_pos hi).symm)
  | exact it_m6 ha hb2 (by assumption) (fun i hi => (if_pos hi).symm)
  | exact it_m7 ha hb2 (by assumption) (fun i hi => (if_pos hi).symm)
theorem lf_X5_move_54 {y0 : Nat} {y1 : Nat} {y2 : Nat} {y3 : Nat} {y4 : Nat} {y5 : Nat} {y6 : Nat} {y7 : Nat} {f0 : Nat → Int32} {f1 : Nat → Int32} {f2 : Nat → Int32} {f3 : Nat → Int32} {f4 : Nat → Int32} {f5 : Nat → Int32} {f6 : Nat → Int32} {f7 : Nat → Int32} {fi : Nat → Option Nat} {a : Nat} {b : Nat} {n : Nat} {g_115 : Nat → Int32} (hfi : fi 0 = some y0 ∧ fi 1 = some y1 ∧ fi 2 = some y2 ∧ fi 3 = some y3 ∧ fi 4 = some y4 ∧ fi 5 = some y5 ∧ fi 6 = some y6 ∧ fi 7 = some y7) (hj : 6 < 8) (hk : 5 < 8) (ha : a + n ≤ 40) (hb2 : b + n ≤ 40) (hu_115 : g_115 = va_cpy f6 f5 ((nI a) : Int32).toNatClampNeg ((nI b) : Int32).toNatClampNeg ((nI n) : Int32).toNatClampNeg) : (itX f0 f1 f2 f3 f4 g_115 f6 f7) = upI (itX f0 f1 f2 f3 f4 f5 f6 f7) 5 (cpI ((itX f0 f1 f2 f3 f4 f5 f6 f7) 6) ((itX f0 f1 f2 f3 f4 f5 f6 f7) 5) a b n) := by
  first
  | exact it_m0 ha hb2 (by assumption) (fun i hi => (if_pos hi).symm)
  | exact it_m1 ha hb2 (by assumption) (fun i hi => (if_pos hi).symm)
  | exact it_m2 ha hb2 (by assumption) (fun i hi => (if_pos hi).symm)
  | exact it_m3 ha hb2 (by assumption) (fun i hi => (if_pos hi).symm)
  | exact it_m4 ha hb2 (by assumption) (fun i hi => (if_pos hi).symm)
  | exact it_m5 ha hb2 (by assumption) (fun i hi => (if_pos hi).symm)
  | exact it_m6 ha hb2 (by assumption) (fun i hi => (if_pos hi).symm)
  | exact it_m7 ha hb2 (by assumption) (fun i hi => (if_pos hi).symm)
theorem lf_X5_move_55 {y0 : Nat} {y1 : Nat} {y2 : Nat} {y3 : Nat} {y4 : Nat} {y5 : Nat} {y6 : Nat} {y7 : Nat} {f0 : Nat → Int32} {f1 : Nat → Int32} {f2 : Nat → Int32} {f3 : Nat → Int32} {f4 : Nat → Int32} {f5 : Nat → Int32} {f6 : Nat → Int32} {f7 : Nat → Int32} {fi : Nat → Option Nat} {a : Nat} {b : Nat} {n : Nat} {g_117 : Nat → Int32} (hfi : fi 0 = some y0 ∧ fi 1 = some y1 ∧ fi 2 = some y2 ∧ fi 3 = some y3 ∧ fi 4 = some y4 ∧ fi 5 = some y5 ∧ fi 6 = some y6 ∧ fi 7 = some y7) (hj : 6 < 8) (hk : 6 < 8) (ha : a + n ≤ 40) (hb2 : b + n ≤ 40) (hu_117 : g_117 = va_cpy f6 f6 ((nI a) : Int32).toNatClampNeg ((nI b) : Int32).toNatClampNeg ((nI n) : Int32).toNatClampNeg) : (itX f0 f1 f2 f3 f4 f5 g_117 f7) = upI (itX f0 f1 f2 f3 f4 f5 f6 f7) 6 (cpI ((itX f0 f1 f2 f3 f4 f5 f6 f7) 6) ((itX f0 f1 f2 f3 f4 f5 f6 f7) 6) a b n) := by
  first
  | exact it_m0 ha hb2 (by assumption) (fun i hi => (if_pos hi).symm)
  | exact it_m1 ha hb2 (by assumption) (fun i hi => (if_pos hi).symm)
  | exact it_m2 ha hb2 (by assumption) (fun i hi => (if_pos hi).symm)
  | exact it_m3 ha hb2 (by assumption) (fun i hi => (if_pos hi).symm)
  | exact it_m4 ha hb2 (by assumption) (fun i hi => (if_pos hi).symm)
  | exact it_m5 ha hb2 (by assumption) (fun i hi => (if_pos hi).symm)
  | exact it_m6 ha hb2 (by assumption) (fun i hi => (if_pos hi).symm)
  | exact it_m7 ha hb2 (by assumption) (fun i hi => (if_pos hi).symm)
theorem lf_X5_move_56 {y0 : Nat} {y1 : Nat} {y2 : Nat} {y3 : Nat} {y4 : Nat} {y5 : Nat} {y6 : Nat} {y7 : Nat} {f0 : Nat → Int32} {f1 : Nat → Int32} {f2 : Nat → Int32} {f3 : Nat → Int32} {f4 : Nat → Int32} {f5 : Nat → Int32} {f6 : Nat → Int32} {f7 : Nat → Int32} {fi : Nat → Option Nat} {a : Nat} {b : Nat} {n : Nat} {g_119 : Nat → Int32} (hfi : fi 0 = some y0 ∧ fi 1 = some y1 ∧ fi 2 = some y2 ∧ fi 3 = some y3 ∧ fi 4 = some y4 ∧ fi 5 = some y5 ∧ fi 6 = some y6 ∧ fi 7 = some y7) (hj : 6 < 8) (hk : 7 < 8) (ha : a + n ≤ 40) (hb2 : b + n ≤ 40) (hu_119 : g_119 = va_cpy f6 f7 ((nI a) : Int32).toNatClampNeg ((nI b) : Int32).toNatClampNeg ((nI n) : Int32).toNatClampNeg) : (itX f0 f1 f2 f3 f4 f5 f6 g_119) = upI (itX f0 f1 f2 f3 f4 f5 f6 f7) 7 (cpI ((itX f0 f1 f2 f3 f4 f5 f6 f7) 6) ((itX f0 f1 f2 f3 f4 f5 f6 f7) 7) a b n) := by
  first
  | exact it_m0 ha hb2 (by assumption) (fun i hi => (if_pos hi).symm)
  | exact it_m1 ha hb2 (by assumption) (fun i hi => (if_pos hi).symm)
  | exact it_m2 ha hb2 (by assumption) (fun i hi => (if_pos hi).symm)
  | exact it_m3 ha hb2 (by assumption) (fun i hi => (if_pos hi).symm)
  | exact it_m4 ha hb2 (by assumption) (fun i hi => (if_pos hi).symm)
  | exact it_m5 ha hb2 (by assumption) (fun i hi => (if_pos hi).symm)
  | exact it_m6 ha hb2 (by assumption) (fun i hi => (if_pos hi).symm)
  | exact it_m7 ha hb2 (by assumption) (fun i hi => (if_pos hi).symm)
theorem lf_X5_move_57 {y0 : Nat} {y1 : Nat} {y2 : Nat} {y3 : Nat} {y4 : Nat} {y5 : Nat} {y6 : Nat} {y7 : Nat} {f0 : Nat → Int32} {f1 : Nat → Int32} {f2 : Nat → Int32} {f3 : Nat → Int32} {f4 : Nat → Int32} {f5 : Nat → Int32} {f6 : Nat → Int32} {f7 : Nat → Int32} {fi : Nat → Option Nat} {a : Nat} {b : Nat} {n : Nat} {g_122 : Nat → Int32} (hfi : fi 0 = some y0 ∧ fi 1 = some y1 ∧ fi 2 = some y2 ∧ fi 3 = some y3 ∧ fi 4 = some y4 ∧ fi 5 = some y5 ∧ fi 6 = some y6 ∧ fi 7 = some y7) (hj : 7 < 8) (hk : 0 < 8) (ha : a + n ≤ 40) (hb2 : b + n ≤ 40) (hu_122 : g_122 = va_cpy f7 f0 ((nI a) : Int32).toNatClampNeg ((nI b) : Int32).toNatClampNeg ((nI n) : Int32).toNatClampNeg) : (itX g_122 f1 f2 f3 f4 f5 f6 f7) = upI (itX f0 f1 f2 f3 f4 f5 f6 f7) 0 (cpI ((itX f0 f1 f2 f3 f4 f5 f6 f7) 7) ((itX f0 f1 f2 f3 f4 f5 f6 f7) 0) a b n) := by
  first
  | exact it_m0 ha hb2 (by assumption) (fun i hi => (if_pos hi).symm)
  | exact it_m1 ha hb2 (by assumption) (fun i hi => (if_pos hi).symm)
  | exact it_m2 ha hb2 (by assumption) (fun i hi => (if_pos hi).symm)
  | exact it_m3 ha hb2 (by assumption) (fun i hi => (if_pos hi).symm)
  | exact it_m4 ha hb2 (by assumption) (fun i hi => (if_pos hi).symm)
  | exact it_m5 ha hb2 (by assumption) (fun i hi => (if_pos hi).symm)
  | exact it_m6 ha hb2 (by assumption) (fun i hi => (if_pos hi).symm)
  | exact it_m7 ha hb2 (by assumption) (fun i hi => (if_pos hi).symm)
theorem lf_X5_move_58 {y0 : Nat} {y1 : Nat} {y2 : Nat} {y3 : Nat} {y4 : Nat} {y5 : Nat} {y6 : Nat} {y7 : Nat} {f0 : Nat → Int32} {f1 : Nat → Int32} {f2 : Nat → Int32} {f3 : Nat → Int32} {f4 : Nat → Int32} {f5 : Nat → Int32} {f6 : Nat → Int32} {f7 : Nat → Int32} {fi : Nat → Option Nat} {a : Nat} {b : Nat} {n : Nat} {g_124 : Nat → Int32} (hfi : fi 0 = some y0 ∧ fi 1 = some y1 ∧ fi 2 = some y2 ∧ fi 3 = some y3 ∧ fi 4 = some y4 ∧ fi 5 = some y5 ∧ fi 6 = some y6 ∧ fi 7 = some y7) (hj : 7 < 8) (hk : 1 < 8) (ha : a + n ≤ 40) (hb2 : b + n ≤ 40) (hu_124 : g_124 = va_cpy f7 f1 ((nI a) : Int32).toNatClampNeg ((nI b) : Int32).toNatClampNeg ((nI n) : Int32).toNatClampNeg) : (itX f0 g_124 f2 f3 f4 f5 f6 f7) = upI (itX f0 f1 f2 f3 f4 f5 f6 f7) 1 (cpI ((itX f0 f1 f2 f3 f4 f5 f6 f7) 7) ((itX f0 f1 f2 f3 f4 f5 f6 f7) 1) a b n) := by
  first
  | exact it_m0 ha hb2 (by assumption) (fun i hi => (if_pos hi).symm)
  | exact it_m1 ha hb2 (by assumption) (fun i hi => (if_pos hi).symm)
  | exact it_m2 ha hb2 (by assumption) (fun i hi => (if_pos hi).symm)
  | exact it_m3 ha hb2 (by assumption) (fun i hi => (if_pos hi).symm)
  | exact it_m4 ha hb2 (by assumption) (fun i hi => (if_pos hi).symm)
  | exact it_m5 ha hb2 (by assumption) (fun i hi => (if_pos hi).symm)
  | exact it_m6 ha hb2 (by assumption) (fun i hi => (if_pos hi).symm)
  | exact it_m7 ha hb2 (by assumption) (fun i hi => (if_pos hi).symm)
theorem lf_X5_move_59 {y0 : Nat} {y1 : Nat} {y2 : Nat} {y3 : Nat} {y4 : Nat} {y5 : Nat} {y6 : Nat} {y7 : Nat} {f0 : Nat → Int32} {f1 : Nat → Int32} {f2 : Nat → Int32} {f3 : Nat → Int32} {f4 : Nat → Int32} {f5 : Nat → Int32} {f6 : Nat → Int32} {f7 : Nat → Int32} {fi : Nat → Option Nat} {a : Nat} {b : Nat} {n : Nat} {g_126 : Nat → Int32} (hfi : fi 0 = some y0 ∧ fi 1 = some y1 ∧ fi 2 = some y2 ∧ fi 3 = some y3 ∧ fi 4 = some y4 ∧ fi 5 = some y5 ∧ fi 6 = some y6 ∧ fi 7 = some y7) (hj : 7 < 8) (hk : 2 < 8) (ha : a + n ≤ 40) (hb2 : b + n ≤ 40) (hu_126 : g_126 = va_cpy f7 f2 ((nI a) : Int32).toNatClampNeg ((nI b) : Int32).toNatClampNeg ((nI n) : Int32).toNatClampNeg) : (itX f0 f1 g_126 f3 f4 f5 f6 f7) = upI (itX f0 f1 f2 f3 f4 f5 f6 f7) 2 (cpI ((itX f0 f1 f2 f3 f4 f5 f6 f7) 7) ((itX f0 f1 f2 f3 f4 f5 f6 f7) 2) a b n) := by
  first
  | exact it_m0 ha hb2 (by assumption) (fun i hi => (if_pos hi).symm)
  | exact it_m1 ha hb2 (by assumption) (fun i hi => (if_pos hi).symm)
  | exact it_m2 ha hb2 (by assumption) (fun i hi => (if_pos hi).symm)
  | exact it_m3 ha hb2 (by assumption) (fun i hi => (if_pos hi).symm)
  | exact it_m4 ha hb2 (by assumption) (fun i hi => (if_pos hi).symm)
  | exact it_m5 ha hb2 (by assumption) (fun i hi => (if_pos hi).symm)
  | exact it_m6 ha hb2 (by assumption) (fun i hi => (if_pos hi).symm)
  | exact it_m7 ha hb2 (by assumption) (fun i hi => (if_pos hi).symm)
theorem lf_X5_move_60 {y0 : Nat} {y1 : Nat} {y2 : Nat} {y3 : Nat} {y4 : Nat} {y5 : Nat} {y6 : Nat} {y7 : Nat} {f0 : Nat → Int32} {f1 : Nat → Int32} {f2 : Nat → Int32} {f3 : Nat → Int32} {f4 : Nat → Int32} {f5 : Nat → Int32} {f6 : Nat → Int32} {f7 : Nat → Int32} {fi : Nat → Option Nat} {a : Nat} {b : Nat} {n : Nat} {g_128 : Nat → Int32} (hfi : fi 0 = some y0 ∧ fi 1 = some y1 ∧ fi 2 = some y2 ∧ fi 3 = some y3 ∧ fi 4 = some y4 ∧ fi 5 = some y5 ∧ fi 6 = some y6 ∧ fi 7 = some y7) (hj : 7 < 8) (hk : 3 < 8) (ha : a + n ≤ 40) (hb2 : b + n ≤ 40) (hu_128 : g_128 = va_cpy f7 f3 ((nI a) : Int32).toNatClampNeg ((nI b) : Int32).toNatClampNeg ((nI n) : Int32).toNatClampNeg) : (itX f0 f1 f2 g_128 f4 f5 f6 f7) = upI (itX f0 f1 f2 f3 f4 f5 f6 f7) 3 (cpI ((itX f0 f1 f2 f3 f4 f5 f6 f7) 7) ((itX f0 f1 f2 f3 f4 f5 f6 f7) 3) a b n) := by
  first
  | exact it_m0 ha hb2 (by assumption) (fun i hi => (if_pos hi).symm)
  | exact it_m1 ha hb2 (by assumption) (fun i hi => (if_pos hi).symm)
  | exact it_m2 ha hb2 (by assumption) (fun i hi => (if_pos hi).symm)
  | exact it_m3 ha hb2 (by assumption) (fun i hi => (if_pos hi).symm)
  | exact it_m4 ha hb2 (by assumption) (fun i hi => (if_pos hi).symm)
  | exact it_m5 ha hb2 (by assumption) (fun i hi => (if_pos hi).symm)
  | exact it_m6 ha hb2 (by assumption) (fun i hi => (if_pos hi).symm)
  | exact it_m7 ha hb2 (by assumption) (fun i hi => (if_pos hi).symm)
theorem lf_X5_move_61 {y0 : Nat} {y1 : Nat} {y2 : Nat} {y3 : Nat} {y4 : Nat} {y5 : Nat} {y6 : Nat} {y7 : Nat} {f0 : Nat → Int32} {f1 : Nat → Int32} {f2 : Nat → Int32} {f3 : Nat → Int32} {f4 : Nat → Int32} {f5 : Nat → Int32} {f6 : Nat → Int32} {f7 : Nat → Int32} {fi : Nat → Option Nat} {a : Nat} {b : Nat} {n : Nat} {g_130 : Nat → Int32} (hfi : fi 0 = some y0 ∧ fi 1 = some y1 ∧ fi 2 = some y2 ∧ fi 3 = some y3 ∧ fi 4 = some y4 ∧ fi 5 = some y5 ∧ fi 6 = some y6 ∧ fi 7 = some y7) (hj : 7 < 8) (hk : 4 < 8) (ha : a + n ≤ 40) (hb2 : b + n ≤ 40) (hu_130 : g_130 = va_cpy f7 f4 ((nI a) : Int32).toNatClampNeg ((nI b) : Int32).toNatClampNeg ((nI n) : Int32).toNatClampNeg) : (itX f0 f1 f2 f3 g_130 f5 f6 f7) = upI (itX f0 f1 f2 f3 f4 f5 f6 f7) 4 (cpI ((itX f0 f1 f2 f3 f4 f5 f6 f7) 7) ((itX f0 f1 f2 f3 f4 f5 f6 f7) 4) a b n) := by
  first
  | exact it_m0 ha hb2 (by assumption) (fun i hi => (if_pos hi).symm)
  | exact it_m1 ha hb2 (by assumption) (fun i hi => (if_pos hi).symm)
  | exact it_m2 ha hb2 (by assumption) (fun i hi => (if_pos hi).symm)
  | exact it_m3 ha hb2 (by assumption) (fun i hi => (if_pos hi).symm)
  | exact it_m4 ha hb2 (by assumption) (fun i hi => (if_pos hi).symm)
  | exact it_m5 ha hb2 (by assumption) (fun i hi => (if_pos hi).symm)
  | exact it_m6 ha hb2 (by assumption) (fun i hi => (if_pos hi).symm)
  | exact it_m7 ha hb2 (by assumption) (fun i hi => (if_pos hi).symm)
theorem lf_X5_move_62 {y0 : Nat} {y1 : Nat} {y2 : Nat} {y3 : Nat} {y4 : Nat} {y5 : Nat} {y6 : Nat} {y7 : Nat} {f0 : Nat → Int32} {f1 : Nat → Int32} {f2 : Nat → Int32} {f3 : Nat → Int32} {f4 : Nat → Int32} {f5 : Nat → Int32} {f6 : Nat → Int32} {f7 : Nat → Int32} {fi : Nat → Option Nat} {a : Nat} {b : Nat} {n : Nat} {g_132 : Nat → Int32} (hfi : fi 0 = some y0 ∧ fi 1 = some y1 ∧ fi 2 = some y2 ∧ fi 3 = some y3 ∧ fi 4 = some y4 ∧ fi 5 = some y5 ∧ fi 6 = some y6 ∧ fi 7 = some y7) (hj : 7 < 8) (hk : 5 < 8) (ha : a + n ≤ 40) (hb2 : b + n ≤ 40) (hu_132 : g_132 = va_cpy f7 f5 ((nI a) : Int32).toNatClampNeg ((nI b) : Int32).toNatClampNeg ((nI n) : Int32).toNatClampNeg) : (itX f0 f1 f2 f3 f4 g_132 f6 f7) = upI (itX f0 f1 f2 f3 f4 f5 f6 f7) 5 (cpI ((itX f0 f1 f2 f3 f4 f5 f6 f7) 7) ((itX f0 f1 f2 f3 f4 f5 f6 f7) 5) a b n) := by
  first
  | exact it_m0 ha hb2 (by assumption) (fun i hi => (if_pos hi).symm)
  | exact it_m1 ha hb2 (by assumption) (fun i hi => (if_pos hi).symm)
  | exact it_m2 ha hb2 (by assumption) (fun i hi => (if_pos hi).symm)
  | exact it_m3 ha hb2 (by assumption) (fun i hi => (if_pos hi).symm)
  | exact it_m4 ha hb2 (by assumption) (fun i hi => (if_pos hi).symm)
  | exact it_m5 ha hb2 (by assumption) (fun i hi => (if_pos hi).symm)
  | exact it_m6 ha hb2 (by assumption) (fun i hi => (if_pos hi).symm)
  | exact it_m7 ha hb2 (by assumption) (fun i hi => (if_pos hi).symm)
theorem lf_X5_move_63 {y0 : Nat} {y1 : Nat} {y2 : Nat} {y3 : Nat} {y4 : Nat} {y5 : Nat} {y6 : Nat} {y7 : Nat} {f0 : Nat → Int32} {f1 : Nat → Int32} {f2 : Nat → Int32} {f3 : Nat → Int32} {f4 : Nat → Int32} {f5 : Nat → Int32} {f6 : Nat → Int32} {f7 : Nat → Int32} {fi : Nat → Option Nat} {a : Nat} {b : Nat} {n : Nat} {g_134 : Nat → Int32} (hfi : fi 0 = some y0 ∧ fi 1 = some y1 ∧ fi 2 = some y2 ∧ fi 3 = some y3 ∧ fi 4 = some y4 ∧ fi 5 = some y5 ∧ fi 6 = some y6 ∧ fi 7 = some y7) (hj : 7 < 8) (hk : 6 < 8) (ha : a + n ≤ 40) (hb2 : b + n ≤ 40) (hu_134 : g_134 = va_cpy f7 f6 ((nI a) : Int32).toNatClampNeg ((nI b) : Int32).toNatClampNeg ((nI n) : Int32).toNatClampNeg) : (itX f0 f1 f2 f3 f4 f5 g_134 f7) = upI (itX f0 f1 f2 f3 f4 f5 f6 f7) 6 (cpI ((itX f0 f1 f2 f3 f4 f5 f6 f7) 7) ((itX f0 f1 f2 f3 f4 f5 f6 f7) 6) a b n) := by
  first
  | exact it_m0 ha hb2 (by assumption) (fun i hi => (if_pos hi).symm)
  | exact it_m1 ha hb2 (by assumption) (fun i hi => (if_pos hi).symm)
  | exact it_m2 ha hb2 (by assumption) (fun i hi => (if_pos hi).symm)
  | exact it_m3 ha hb2 (by assumption) (fun i hi => (if_pos hi).symm)
  | exact it_m4 ha hb2 (by assumption) (fun i hi => (if_pos hi).symm)
  | exact it_m5 ha hb2 (by assumption) (fun i hi => (if_pos hi).symm)
  | exact it_m6 ha hb2 (by assumption) (fun i hi => (if_pos hi).symm)
  | exact it_m7 ha hb2 (by assumption) (fun i hi => (if_pos hi).symm)
theorem lf_X5_move_64 {y0 : Nat} {y1 : Nat} {y2 : Nat} {y3 : Nat} {y4 : Nat} {y5 : Nat} {y6 : Nat} {y7 : Nat} {f0 : Nat → Int32} {f1 : Nat → Int32} {f2 : Nat → Int32} {f3 : Nat → Int32} {f4 : Nat → Int32} {f5 : Nat → Int32} {f6 : Nat → Int32} {f7 : Nat → Int32} {fi : Nat → Option Nat} {a : Nat} {b : Nat} {n : Nat} {g_136 : Nat → Int32} (hfi : fi 0 = some y0 ∧ fi 1 = some y1 ∧ fi 2 = some y2 ∧ fi 3 = some y3 ∧ fi 4 = some y4 ∧ fi 5 = some y5 ∧ fi 6 = some y6 ∧ fi 7 = some y7) (hj : 7 < 8) (hk : 7 < 8) (ha : a + n ≤ 40) (hb2 : b + n ≤ 40) (hu_136 : g_136 = va_cpy f7 f7 ((nI a) : Int32).toNatClampNeg ((nI b) : Int32).toNatClampNeg ((nI n) : Int32).toNatClampNeg) : (itX f0 f1 f2 f3 f4 f5 f6 g_136) = upI (itX f0 f1 f2 f3 f4 f5 f6 f7) 7 (cpI ((itX f0 f1 f2 f3 f4 f5 f6 f7) 7) ((itX f0 f1 f2 f3 f4 f5 f6 f7) 7) a b n) := by
  first
  | exact it_m0 ha hb2 (by assumption) (fun i hi => (if_pos hi).symm)
  | exact it_m1 ha hb2 (by assumption) (fun i hi => (if_pos hi).symm)
  | exact it_m2 ha hb2 (by assumption) (fun i hi => (if_pos hi).symm)
  | exact it_m3 ha hb2 (by assumption) (fun i hi => (if_pos hi).symm)
  | exact it_m4 ha hb2 (by assumption) (fun i hi => (if_pos hi).symm)
  | exact it_m5 ha hb2 (by assumption) (fun i hi => (if_pos hi).symm)
  | exact it_m6 ha hb2 (by assumption) (fun i hi => (if_pos hi).symm)
  | exact it_m7 ha hb2 (by assumption) (fun i hi => (if_pos hi).symm)
set_option maxHeartbeats 4000000 in
set_option maxRecDepth 100000 in
theorem r_X5_move (l : Launch) (dC : Nat → ClassId) (dI : Nat → Nat → Nat) (cI cZ cL cJ : ClassId) (sz : Nat) (h : Nat) (it : Nat) (la : Nat) (le : Nat) (fl : Nat → Int32) (fe : Nat → Int32) (y0 : Nat) (y1 : Nat) (y2 : Nat) (y3 : Nat) (y4 : Nat) (y5 : Nat) (y6 : Nat) (y7 : Nat) (f0 : Nat → Int32) (f1 : Nat → Int32) (f2 : Nat → Int32) (f3 : Nat → Int32) (f4 : Nat → Int32) (f5 : Nat → Int32) (f6 : Nat → Int32) (f7 : Nat → Int32) (fi : Nat → Option Nat) (j : Nat) (a : Nat) (k : Nat) (b : Nat) (n : Nat) (hfi : fi 0 = some y0 ∧ fi 1 = some y1 ∧ fi 2 = some y2 ∧ fi 3 = some y3 ∧ fi 4 = some y4 ∧ fi 5 = some y5 ∧ fi 6 = some y6 ∧ fi 7 = some y7) (hj : j < 8) (hk : k < 8) (ha : a + n ≤ 40) (hb2 : b + n ≤ 40) : Met l yX5_move wsX5_move ({ frames := 1, cells := 0, slots := 0, locals := 80 }) (va_Pc [.ref h, .int (nI j), .int (nI a), .int (nI k), .int (nI b), .int (nI n)] (fun U => U.heap.size = sz ∧ va_P (dC, dI) vwCl [(xo_5_rrr h it la le), (xJ it cJ 8 fi), (xI y0 cI 40 f0), (xI y1 cI 40 f1), (xI y2 cI 40 f2), (xI y3 cI 40 f3), (xI y4 cI 40 f4), (xI y5 cI 40 f5), (xI y6 cI 40 f6), (xI y7 cI 40 f7)] U.heap ∧ va_K (dC, dI) vwCl [(cI, .int), (cZ, .boolean), (cL, .object RX3), (cJ, .array .int)] U ∧ va_D (fun _ => True) [(xo_5_rrr h it la le), (xJ it cJ 8 fi), (xI y0 cI 40 f0), (xI y1 cI 40 f1), (xI y2 cI 40 f2), (xI y3 cI 40 f3), (xI y4 cI 40 f4), (xI y5 cI 40 f5), (xI y6 cI 40 f6), (xI y7 cI 40 f7)])) (va_Qv (fun (_ : Unit) => True) (fun (_ : Unit) t => ∃ (f0n : Nat → Int32) (f1n : Nat → Int32) (f2n : Nat → Int32) (f3n : Nat → Int32) (f4n : Nat → Int32) (f5n : Nat → Int32) (f6n : Nat → Int32) (f7n : Nat → Int32), va_P (dC, dI) vwCl [(xo_5_rrr h it la le), (xJ it cJ 8 fi), (xI y0 cI 40 f0n), (xI y1 cI 40 f1n), (xI y2 cI 40 f2n), (xI y3 cI 40 f3n), (xI y4 cI 40 f4n), (xI y5 cI 40 f5n), (xI y6 cI 40 f6n), (xI y7 cI 40 f7n)] t.heap ∧ va_D (va_A [(xo_5_rrr h it la le), (xJ it cJ 8 fi), (xI y0 cI 40 f0), (xI y1 cI 40 f1), (xI y2 cI 40 f2), (xI y3 cI 40 f3), (xI y4 cI 40 f4), (xI y5 cI 40 f5), (xI y6 cI 40 f6), (xI y7 cI 40 f7)] sz) [(xo_5_rrr h it la le), (xJ it cJ 8 fi), (xI y0 cI 40 f0n), (xI y1 cI 40 f1n), (xI y2 cI 40 f2n), (xI y3 cI 40 f3n), (xI y4 cI 40 f4n), (xI y5 cI 40 f5n), (xI y6 cI 40 f6n), (xI y7 cI 40 f7n)] ∧ (itX f0n f1n f2n f3n f4n f5n f6n f7n) = upI (itX f0 f1 f2 f3 f4 f5 f6 f7) k (cpI ((itX f0 f1 f2 f3 f4 f5 f6 f7) j) ((itX f0 f1 f2 f3 f4 f5 f6 f7) k) a b n)) (va_A [(xo_5_rrr h it la le), (xJ it cJ 8 fi), (xI y0 cI 40 f0), (xI y1 cI 40 f1), (xI y2 cI 40 f2), (xI y3 cI 40 f3), (xI y4 cI 40 f4), (xI y5 cI 40 f5), (xI y6 cI 40 f6), (xI y7 cI 40 f7)] sz)) 0 0 (va_A [(xo_5_rrr h it la le), (xJ it cJ 8 fi), (xI y0 cI 40 f0), (xI y1 cI 40 f1), (xI y2 cI 40 f2), (xI y3 cI 40 f3), (xI y4 cI 40 f4), (xI y5 cI 40 f5), (xI y6 cI 40 f6), (xI y7 cI 40 f7)] sz) := by
  refine Met.ofW (cc := cX5_move) (maxL := 6) (ret := none) (by decide) rfl ?_
  intro p e s m args below meth c s₁ B hml hv
  obtain ⟨rfl, hsz, hP, hK, hD0⟩ := hv
  have hx := B.exec
  have hb := B.bytes
  have hr := B.returns
  have hts := atoms_spec (ws := wsX5_move) B.pre
  have hown : s.vm.findClass RX5 = some m.cls := findClass_of_methodNamed B.named
  have hlocks := B.notSynchronized
  subst hsz
  have hD := hD0.self (sz := s.heap.size)
  generalize hAe : va_A [(xo_5_rrr h it la le), (xJ it cJ 8 fi), (xI y0 cI 40 f0), (xI y1 cI 40 f1), (xI y2 cI 40 f2), (xI y3 cI 40 f3), (xI y4 cI 40 f4), (xI y5 cI 40 f5), (xI y6 cI 40 f6), (xI y7 cI 40 f7)] s.heap.size = A at hD ⊢
  have hA : ∀ q : Nat, s.heap.size ≤ q → A q := fun q h => by rw [← hAe]; exact Or.inr h
  have hS : va_S A s.heap s.heap [] := va_S.rf
  have hP : va_P (dC, dI) vwCl [(xo_5_rrr h it la le), (xJ it cJ 8 fi), (xI y0 cI 40 f0), (xI y1 cI 40 f1), (xI y2 cI 40 f2), (xI y3 cI 40 f3), (xI y4 cI 40 f4), (xI y5 cI 40 f5), (xI y6 cI 40 f6), (xI y7 cI 40 f7)] s.heap := hP
  have hl := lv_entry ([.ref h, .int (nI j), .int (nI a), .int (nI k), .int (nI b), .int (nI n)]) (n := 6) (Nat.le_of_ble_eq_true rfl)
  rw [lg_entry_eq]
  generalize (lg_sl ([.ref h, .int (nI j), .int (nI a), .int (nI k), .int (nI b), .int (nI n)]) ++ List.replicate (6 - (lg_sl ([.ref h, .int (nI j), .int (nI a), .int (nI k), .int (nI b), .int (nI n)])).length) Slot.unset).toArray = ls at hl ⊢
  have hl : lv_has ls 6 [(0, .ref h), (1, .int (nI j)), (2, .int (nI a)), (3, .int (nI k)), (4, .int (nI b)), (5, .int (nI n))] := hl
  rcases (show j = 0 ∨ j = 1 ∨ j = 2 ∨ j = 3 ∨ j = 4 ∨ j = 5 ∨ j = 6 ∨ j = 7 by omega) with rfl | rfl | rfl | rfl | rfl | rfl | rfl | rfl
  · skip
    have hl : lv_has ls 6 [(0, .ref h), (1, .int 0), (2, .int (nI a)), (3, .int (nI k)), (4, .int (nI b)), (5, .int (nI n))] := hl
    refine lv_aload_n hx hb dX5_move_0 rfl (lv_at hl 0 rfl) ?_
    refine va_get (D := (dC, dI)) (ci := 5) (v := .ref it) (C := RX5) (T := TX5) (N := 3) hx hb hts i_X5_move_X5 hown hK hP 0 rfl rfl 0 (by decide) (hts _ mx_X5_move_1) (fun _ h9 => h9) rfl dX5_move_1 ?_
    refine lv_iload_n hx hb dX5_move_4 rfl (lv_at hl 1 rfl) ?_
    refine nw_alk hx hb hK hP 1 3 rfl rfl 0 rfl (Nat.le_of_ble_eq_true rfl) (Nat.le_of_ble_eq_true rfl) hfi.1 dX5_move_5 ?_
    refine lv_iload_n hx hb dX5_move_6 rfl (lv_at hl 2 rfl) ?_
    rcases (show k = 0 ∨ k = 1 ∨ k = 2 ∨ k = 3 ∨ k = 4 ∨ k = 5 ∨ k = 6 ∨ k = 7 by omega) with rfl | rfl | rfl | rfl | rfl | rfl | rfl | rfl
    · skip
      have hl : lv_has ls 6 [(0, .ref h), (1, .int 0), (2, .int (nI a)), (3, .int 0), (4, .int (nI b)), (5, .int (nI n))] := hl
      refine lv_aload_n hx hb dX5_move_7 rfl (lv_at hl 0 rfl) ?_
      refine va_get (D := (dC, dI)) (ci := 5) (v := .ref it) (C := RX5) (T := TX5) (N := 3) hx hb hts i_X5_move_X5 hown hK hP 0 rfl rfl 0 (by decide) (hts _ mx_X5_move_1) (fun _ h9 => h9) rfl dX5_move_8 ?_
      refine lv_iload_n hx hb dX5_move_11 rfl (lv_at hl 3 rfl) ?_
      refine nw_alk hx hb hK hP 1 3 rfl rfl 0 rfl (Nat.le_of_ble_eq_true rfl) (Nat.le_of_ble_eq_true rfl) hfi.1 dX5_move_12 ?_
      refine lv_iload hx hb dX5_move_13 (lv_at hl 4 rfl) ?_
      refine lv_iload hx hb dX5_move_15 (lv_at hl 5 rfl) ?_
      refine va_copyN hx hb hml hl hown (hts _ mx_X5_move_2) (hts _ mx_X5_move_3) (hts _ mx_X5_move_4) (hts _ mx_X5_move_5) hK hP hD hS 2 2 rfl rfl rfl rfl (by omega) (by omega) (Nat.le_of_ble_eq_true rfl) (Nat.le_of_ble_eq_true rfl) (Nat.le_of_ble_eq_true rfl) (Nat.le_of_ble_eq_true rfl) dX5_move_17 (fun H locs hP hD hS => ?_)
      generalize hg_3 : va_cpy f0 f0 ((nI a) : Int32).toNatClampNeg ((nI b) : Int32).toNatClampNeg ((nI n) : Int32).toNatClampNeg = g_3 at hP hD
      have hu_3 : g_3 = va_cpy f0 f0 ((nI a) : Int32).toNatClampNeg ((nI b) : Int32).toNatClampNeg ((nI n) : Int32).toNatClampNeg := hg_3.symm
      have hP : va_P (dC, dI) vwCl [(xo_5_rrr h it la le), (xJ it cJ 8 fi), (xI y0 cI 40 g_3), (xI y1 cI 40 f1), (xI y2 cI 40 f2), (xI y3 cI 40 f3), (xI y4 cI 40 f4), (xI y5 cI 40 f5), (xI y6 cI 40 f6), (xI y7 cI 40 f7)] H := hP
      have hD := dto hP hD
      have hX9 := cut2 (wc := [(xo_5_rrr h it la le), (xJ it cJ 8 fi), (xI y0 cI 40 g_3), (xI y1 cI 40 f1), (xI y2 cI 40 f2), (xI y3 cI 40 f3), (xI y4 cI 40 f4), (xI y5 cI 40 f5), (xI y6 cI 40 f6), (xI y7 cI 40 f7)]) hP hD [0, 1, 2, 3, 4, 5, 6, 7, 8, 9] (by decide +kernel) rfl
      exact W.vret hx hb hr (fun t ht hW => ⟨⟨(), rfl, trivial, ⟨g_3, f1, f2, f3, f4, f5, f6, f7, va_Ht ht hX9.1, hX9.2, (lf_X5_move_1 hfi hj hk ha hb2 hu_3)⟩⟩, hS.F ht⟩) hS.2.2 dX5_move_20
    · skip
      have hl : lv_has ls 6 [(0, .ref h), (1, .int 0), (2, .int (nI a)), (3, .int 1), (4, .int (nI b)), (5, .int (nI n))] := hl
      refine lv_aload_n hx hb dX5_move_7 rfl (lv_at hl 0 rfl) ?_
      refine va_get (D := (dC, dI)) (ci := 5) (v := .ref it) (C := RX5) (T := TX5) (N := 3) hx hb hts i_X5_move_X5 hown hK hP 0 rfl rfl 0 (by decide) (hts _ mx_X5_move_1) (fun _ h9 => h9) rfl dX5_move_8 ?_
      refine lv_iload_n hx hb dX5_move_11 rfl (lv_at hl 3 rfl) ?_
      refine nw_alk hx hb hK hP 1 3 rfl rfl 1 rfl (Nat.le_of_ble_eq_true rfl) (Nat.le_of_ble_eq_true rfl) hfi.2.1 dX5_move_12 ?_
      refine lv_iload hx hb dX5_move_13 (lv_at hl 4 rfl) ?_
      refine lv_iload hx hb dX5_move_15 (lv_at hl 5 rfl) ?_
      refine va_copyN hx hb hml hl hown (hts _ mx_X5_move_2) (hts _ mx_X5_move_3) (hts _ mx_X5_move_4) (hts _ mx_X5_move_5) hK hP hD hS 2 3 rfl rfl rfl rfl (by omega) (by omega) (Nat.le_of_ble_eq_true rfl) (Nat.le_of_ble_eq_true rfl) (Nat.le_of_ble_eq_true rfl) (Nat.le_of_ble_eq_true rfl) dX5_move_17 (fun H locs hP hD hS => ?_)
      generalize hg_5 : va_cpy f0 f1 ((nI a) : Int32).toNatClampNeg ((nI b) : Int32).toNatClampNeg ((nI n) : Int32).toNatClampNeg = g_5 at hP hD
      have hu_5 : g_5 = va_cpy f0 f1 ((nI a) : Int32).toNatClampNeg ((nI b) : Int32).toNatClampNeg ((nI n) : Int32).toNatClampNeg := hg_5.symm
      have hP : va_P (dC, dI) vwCl [(xo_5_rrr h it la le), (xJ it cJ 8 fi), (xI y0 cI 40 f0), (xI y1 cI 40 g_5), (xI y2 cI 40 f2), (xI y3 cI 40 f3), (xI y4 cI 40 f4), (xI y5 cI 40 f5), (xI y6 cI 40 f6), (xI y7 cI 40 f7)] H := hP
      have hD := dto hP hD
      have hX9 := cut2 (wc := [(xo_5_rrr h it la le), (xJ it cJ 8 fi), (xI y0 cI 40 f0), (xI y1 cI 40 g_5), (xI y2 cI 40 f2), (xI y3 cI 40 f3), (xI y4 cI 40 f4), (xI y5 cI 40 f5), (xI y6 cI 40 f6), (xI y7 cI 40 f7)]) hP hD [0, 1, 2, 3, 4, 5, 6, 7, 8, 9] (by decide +kernel) rfl
      exact W.vret hx hb hr (fun t ht hW => ⟨⟨(), rfl, trivial, ⟨f0, g_5, f2, f3, f4, f5, f6, f7, va_Ht ht hX9.1, hX9.2, (lf_X5_move_2 hfi hj hk ha hb2 hu_5)⟩⟩, hS.F ht⟩) hS.2.2 dX5_move_20
    · skip
      have hl : lv_has ls 6 [(0, .ref h), (1, .int 0), (2, .int (nI a)), (3, .int 2), (4, .int (nI b)), (5, .int (nI n))] := hl
      refine lv_aload_n hx hb dX5_move_7 rfl (lv_at hl 0 rfl) ?_
      refine va_get (D := (dC, dI)) (ci := 5) (v := .ref it) (C := RX5) (T := TX5) (N := 3) hx hb hts i_X5_move_X5 hown hK hP 0 rfl rfl 0 (by decide) (hts _ mx_X5_move_1) (fun _ h9 => h9) rfl dX5_move_8 ?_
      refine lv_iload_n hx hb dX5_move_11 rfl (lv_at hl 3 rfl) ?_
      refine nw_alk hx hb hK hP 1 3 rfl rfl 2 rfl (Nat.le_of_ble_eq_true rfl) (Nat.le_of_ble_eq_true rfl) hfi.2.2.1 dX5_move_12 ?_
      refine lv_iload hx hb dX5_move_13 (lv_at hl 4 rfl) ?_
      refine lv_iload hx hb dX5_move_15 (lv_at hl 5 rfl) ?_
      refine va_copyN hx hb hml hl hown (hts _ mx_X5_move_2) (hts _ mx_X5_move_3) (hts _ mx_X5_move_4) (hts _ mx_X5_move_5) hK hP hD hS 2 4 rfl rfl rfl rfl (by omega) (by omega) (Nat.le_of_ble_eq_true rfl) (Nat.le_of_ble_eq_true rfl) (Nat.le_of_ble_eq_true rfl) (Nat.le_of_ble_eq_true rfl) dX5_move_17 (fun H locs hP hD hS => ?_)
      generalize hg_7 : va_cpy f0 f2 ((nI a) : Int32).toNatClampNeg ((nI b) : Int32).toNatClampNeg ((nI n) : Int32).toNatClampNeg = g_7 at hP hD
      have hu_7 : g_7 = va_cpy f0 f2 ((nI a) : Int32).toNatClampNeg ((nI b) : Int32).toNatClampNeg ((nI n) : Int32).toNatClampNeg := hg_7.symm
      have hP : va_P (dC, dI) vwCl [(xo_5_rrr h it la le), (xJ it cJ 8 fi), (xI y0 cI 40 f0), (xI y1 cI 40 f1), (xI y2 cI 40 g_7), (xI y3 cI 40 f3), (xI y4 cI 40 f4), (xI y5 cI 40 f5), (xI y6 cI 40 f6), (xI y7 cI 40 f7)] H := hP
      have hD := dto hP hD
      have hX9 := cut2 (wc := [(xo_5_rrr h it la le), (xJ it cJ 8 fi), (xI y0 cI 40 f0), (xI y1 cI 40 f1), (xI y2 cI 40 g_7), (xI y3 cI 40 f3), (xI y4 cI 40 f4), (xI y5 cI 40 f5), (xI y6 cI 40 f6), (xI y7 cI 40 f7)]) hP hD [0, 1, 2, 3, 4, 5, 6, 7, 8, 9] (by decide +kernel) rfl
      exact W.vret hx hb hr (fun t ht hW => ⟨⟨(), rfl, trivial, ⟨f0, f1, g_7, f3, f4, f5, f6, f7, va_Ht ht hX9.1, hX9.2, (lf_X5_move_3 hfi hj hk ha hb2 hu_7)⟩⟩, hS.F ht⟩) hS.2.2 dX5_move_20
    · skip
      have hl : lv_has ls 6 [(0, .ref h), (1, .int 0), (2, .int (nI a)), (3, .int 3), (4, .int (nI b)), (5, .int (nI n))] := hl
      refine lv_aload_n hx hb dX5_move_7 rfl (lv_at hl 0 rfl) ?_
      refine va_get (D := (dC, dI)) (ci := 5) (v := .ref it) (C := RX5) (T := TX5) (N := 3) hx hb hts i_X5_move_X5 hown hK hP 0 rfl rfl 0 (by decide) (hts _ mx_X5_move_1) (fun _ h9 => h9) rfl dX5_move_8 ?_
      refine lv_iload_n hx hb dX5_move_11 rfl (lv_at hl 3 rfl) ?_
      refine nw_alk hx hb hK hP 1 3 rfl rfl 3 rfl (Nat.le_of_ble_eq_true rfl) (Nat.le_of_ble_eq_true rfl) hfi.2.2.2.1 dX5_move_12 ?_
      refine lv_iload hx hb dX5_move_13 (lv_at hl 4 rfl) ?_
      refine lv_iload hx hb dX5_move_15 (lv_at hl 5 rfl) ?_
      refine va_copyN hx hb hml hl hown (hts _ mx_X5_move_2) (hts _ mx_X5_move_3) (hts _ mx_X5_move_4) (hts _ mx_X5_move_5) hK hP hD hS 2 5 rfl rfl rfl rfl (by omega) (by omega) (Nat.le_of_ble_eq_true rfl) (Nat.le_of_ble_eq_true rfl) (Nat.le_of_ble_eq_true rfl) (Nat.le_of_ble_eq_true rfl) dX5_move_17 (fun H locs hP hD hS => ?_)
      generalize hg_9 : va_cpy f0 f3 ((nI a) : Int32).toNatClampNeg ((nI b) : Int32).toNatClampNeg ((nI n) : Int32).toNatClampNeg = g_9 at hP hD
      have hu_9 : g_9 = va_cpy f0 f3 ((nI a) : Int32).toNatClampNeg ((nI b) : Int32).toNatClampNeg ((nI n) : Int32).toNatClampNeg := hg_9.symm
      have hP : va_P (dC, dI) vwCl [(xo_5_rrr h it la le), (xJ it cJ 8 fi), (xI y0 cI 40 f0), (xI y1 cI 40 f1), (xI y2 cI 40 f2), (xI y3 cI 40 g_9), (xI y4 cI 40 f4), (xI y5 cI 40 f5), (xI y6 cI 40 f6), (xI y7 cI 40 f7)] H := hP
      have hD := dto hP hD
      have hX9 := cut2 (wc := [(xo_5_rrr h it la le), (xJ it cJ 8 fi), (xI y0 cI 40 f0), (xI y1 cI 40 f1), (xI y2 cI 40 f2), (xI y3 cI 40 g_9), (xI y4 cI 40 f4), (xI y5 cI 40 f5), (xI y6 cI 40 f6), (xI y7 cI 40 f7)]) hP hD [0, 1, 2, 3, 4, 5, 6, 7, 8, 9] (by decide +kernel) rfl
      exact W.vret hx hb hr (fun t ht hW => ⟨⟨(), rfl, trivial, ⟨f0, f1, f2, g_9, f4, f5, f6, f7, va_Ht ht hX9.1, hX9.2, (lf_X5_move_4 hfi hj hk ha hb2 hu_9)⟩⟩, hS.F ht⟩) hS.2.2 dX5_move_20
    · skip
      have hl : lv_has ls 6 [(0, .ref h), (1, .int 0), (2, .int (nI a)), (3, .int 4), (4, .int (nI b)), (5, .int (nI n))] := hl
      refine lv_aload_n hx hb dX5_move_7 rfl (lv_at hl 0 rfl) ?_
      refine va_get (D := (dC, dI)) (ci := 5) (v := .ref it) (C := RX5) (T := TX5) (N := 3) hx hb hts i_X5_move_X5 hown hK hP 0 rfl rfl 0 (by decide) (hts _ mx_X5_move_1) (fun _ h9 => h9) rfl dX5_move_8 ?_
      refine lv_iload_n hx hb dX5_move_11 rfl (lv_at hl 3 rfl) ?_
      refine nw_alk hx hb hK hP 1 3 rfl rfl 4 rfl (Nat.le_of_ble_eq_true rfl) (Nat.le_of_ble_eq_true rfl) hfi.2.2.2.2.1 dX5_move_12 ?_
      refine lv_iload hx hb dX5_move_13 (lv_at hl 4 rfl) ?_
      refine lv_iload hx hb dX5_move_15 (lv_at hl 5 rfl) ?_
      refine va_copyN hx hb hml hl hown (hts _ mx_X5_move_2) (hts _ mx_X5_move_3) (hts _ mx_X5_move_4) (hts _ mx_X5_move_5) hK hP hD hS 2 6 rfl rfl rfl rfl (by omega) (by omega) (Nat.le_of_ble_eq_true rfl) (Nat.le_of_ble_eq_true rfl) (Nat.le_of_ble_eq_true rfl) (Nat.le_of_ble_eq_true rfl) dX5_move_17 (fun H locs hP hD hS => ?_)
      generalize hg_11 : va_cpy f0 f4 ((nI a) : Int32).toNatClampNeg ((nI b) : Int32).toNatClampNeg ((nI n) : Int32).toNatClampNeg = g_11 at hP hD
      have hu_11 : g_11 = va_cpy f0 f4 ((nI a) : Int32).toNatClampNeg ((nI b) : Int32).toNatClampNeg ((nI n) : Int32).toNatClampNeg := hg_11.symm
      have hP : va_P (dC, dI) vwCl [(xo_5_rrr h it la le), (xJ it cJ 8 fi), (xI y0 cI 40 f0), (xI y1 cI 40 f1), (xI y2 cI 40 f2), (xI y3 cI 40 f3), (xI y4 cI 40 g_11), (xI y5 cI 40 f5), (xI y6 cI 40 f6), (xI y7 cI 40 f7)] H := hP
      have hD := dto hP hD
      have hX9 := cut2 (wc := [(xo_5_rrr h it la le), (xJ it cJ 8 fi), (xI y0 cI 40 f0), (xI y1 cI 40 f1), (xI y2 cI 40 f2), (xI y3 cI 40 f3), (xI y4 cI 40 g_11), (xI y5 cI 40 f5), (xI y6 cI 40 f6), (xI y7 cI 40 f7)]) hP hD [0, 1, 2, 3, 4, 5, 6, 7, 8, 9] (by decide +kernel) rfl
      exact W.vret hx hb hr (fun t ht hW => ⟨⟨(), rfl, trivial, ⟨f0, f1, f2, f3, g_11, f5, f6, f7, va_Ht ht hX9.1, hX9.2, (lf_X5_move_5 hfi hj hk ha hb2 hu_11)⟩⟩, hS.F ht⟩) hS.2.2 dX5_move_20
    · skip
      have hl : lv_has ls 6 [(0, .ref h), (1, .int 0), (2, .int (nI a)), (3, .int 5), (4, .int (nI b)), (5, .int (nI n))] := hl
      refine lv_aload_n hx hb dX5_move_7 rfl (lv_at hl 0 rfl) ?_
      refine va_get (D := (dC, dI)) (ci := 5) (v := .ref it) (C := RX5) (T := TX5) (N := 3) hx hb hts i_X5_move_X5 hown hK hP 0 rfl rfl 0 (by decide) (hts _ mx_X5_move_1) (fun _ h9 => h9) rfl dX5_move_8 ?_
      refine lv_iload_n hx hb dX5_move_11 rfl (lv_at hl 3 rfl) ?_
      refine nw_alk hx hb hK hP 1 3 rfl rfl 5 rfl (Nat.le_of_ble_eq_true rfl) (Nat.le_of_ble_eq_true rfl) hfi.2.2.2.2.2.1 dX5_move_12 ?_
      refine lv_iload hx hb dX5_move_13 (lv_at hl 4 rfl) ?_
      refine lv_iload hx hb dX5_move_15 (lv_at hl 5 rfl) ?_
      refine va_copyN hx hb hml hl hown (hts _ mx_X5_move_2) (hts _ mx_X5_move_3) (hts _ mx_X5_move_4) (hts _ mx_X5_move_5) hK hP hD hS 2 7 rfl rfl rfl rfl (by omega) (by omega) (Nat.le_of_ble_eq_true rfl) (Nat.le_of_ble_eq_true rfl) (Nat.le_of_ble_eq_true rfl) (Nat.le_of_ble_eq_true rfl) dX5_move_17 (fun H locs hP hD hS => ?_)
      generalize hg_13 : va_cpy f0 f5 ((nI a) : Int32).toNatClampNeg ((nI b) : Int32).toNatClampNeg ((nI n) : Int32).toNatClampNeg = g_13 at hP hD
      have hu_13 : g_13 = va_cpy f0 f5 ((nI a) : Int32).toNatClampNeg ((nI b) : Int32).toNatClampNeg ((nI n) : Int32).toNatClampNeg := hg_13.symm
      have hP : va_P (dC, dI) vwCl [(xo_5_rrr h it la le), (xJ it cJ 8 fi), (xI y0 cI 40 f0), (xI y1 cI 40 f1), (xI y2 cI 40 f2), (xI y3 cI 40 f3), (xI y4 cI 40 f4), (xI y5 cI 40 g_13), (xI y6 cI 40 f6), (xI y7 cI 40 f7)] H := hP
      have hD := dto hP hD
      have hX9 := cut2 (wc := [(xo_5_rrr h it la le), (xJ it cJ 8 fi), (xI y0 cI 40 f0), (xI y1 cI 40 f1), (xI y2 cI 40 f2), (xI y3 cI 40 f3), (xI y4 cI 40 f4), (xI y5 cI 40 g_13), (xI y6 cI 40 f6), (xI y7 cI 40 f7)]) hP hD [0, 1, 2, 3, 4, 5, 6, 7, 8, 9] (by decide +kernel) rfl
      exact W.vret hx hb hr (fun t ht hW => ⟨⟨(), rfl, trivial, ⟨f0, f1, f2, f3, f4, g_13, f6, f7, va_Ht ht hX9.1, hX9.2, (lf_X5_move_6 hfi hj hk ha hb2 hu_13)⟩⟩, hS.F ht⟩) hS.2.2 dX5_move_20
    · skip
      have hl : lv_has ls 6 [(0, .ref h), (1, .int 0), (2, .int (nI a)), (3, .int 6), (4, .int (nI b)), (5, .int (nI n))] := hl
      refine lv_aload_n hx hb dX5_move_7 rfl (lv_at hl 0 rfl) ?_
      refine va_get (D := (dC, dI)) (ci := 5) (v := .ref it) (C := RX5) (T := TX5) (N := 3) hx hb hts i_X5_move_X5 hown hK hP 0 rfl rfl 0 (by decide) (hts _ mx_X5_move_1) (fun _ h9 => h9) rfl dX5_move_8 ?_
      refine lv_iload_n hx hb dX5_move_11 rfl (lv_at hl 3 rfl) ?_
      refine nw_alk hx hb hK hP 1 3 rfl rfl 6 rfl (Nat.le_of_ble_eq_true rfl) (Nat.le_of_ble_eq_true rfl) hfi.2.2.2.2.2.2.1 dX5_move_12 ?_
      refine lv_iload hx hb dX5_move_13 (lv_at hl 4 rfl) ?_
      refine lv_iload hx hb dX5_move_15 (lv_at hl 5 rfl) ?_
      refine va_copyN hx hb hml hl hown (hts _ mx_X5_move_2) (hts _ mx_X5_move_3) (hts _ mx_X5_move_4) (hts _ mx_X5_move_5) hK hP hD hS 2 8 rfl rfl rfl rfl (by omega) (by omega) (Nat.le_of_ble_eq_true rfl) (Nat.le_of_ble_eq_true rfl) (Nat.le_of_ble_eq_true rfl) (Nat.le_of_ble_eq_true rfl) dX5_move_17 (fun H locs hP hD hS => ?_)
      generalize hg_15 : va_cpy f0 f6 ((nI a) : Int32).toNatClampNeg ((nI b) : Int32).toNatClampNeg ((nI n) : Int32).toNatClampNeg = g_15 at hP hD
      have hu_15 : g_15 = va_cpy f0 f6 ((nI a) : Int32).toNatClampNeg ((nI b) : Int32).toNatClampNeg ((nI n) : Int32).toNatClampNeg := hg_15.symm
      have hP : va_P (dC, dI) vwCl [(xo_5_rrr h it la le), (xJ it cJ 8 fi), (xI y0 cI 40 f0), (xI y1 cI 40 f1), (xI y2 cI 40 f2), (xI y3 cI 40 f3), (xI y4 cI 40 f4), (xI y5 cI 40 f5), (xI y6 cI 40 g_15), (xI y7 cI 40 f7)] H := hP
      have hD := dto hP hD
      have hX9 := cut2 (wc := [(xo_5_rrr h it la le), (xJ it cJ 8 fi), (xI y0 cI 40 f0), (xI y1 cI 40 f1), (xI y2 cI 40 f2), (xI y3 cI 40 f3), (xI y4 cI 40 f4), (xI y5 cI 40 f5), (xI y6 cI 40 g_15), (xI y7 cI 40 f7)]) hP hD [0, 1, 2, 3, 4, 5, 6, 7, 8, 9] (by decide +kernel) rfl
      exact W.vret hx hb hr (fun t ht hW => ⟨⟨(), rfl, trivial, ⟨f0, f1, f2, f3, f4, f5, g_15, f7, va_Ht ht hX9.1, hX9.2, (lf_X5_move_7 hfi hj hk ha hb2 hu_15)⟩⟩, hS.F ht⟩) hS.2.2 dX5_move_20
    · skip
      have hl : lv_has ls 6 [(0, .ref h), (1, .int 0), (2, .int (nI a)), (3, .int 7), (4, .int (nI b)), (5, .int (nI n))] := hl
      refine lv_aload_n hx hb dX5_move_7 rfl (lv_at hl 0 rfl) ?_
      refine va_get (D := (dC, dI)) (ci := 5) (v := .ref it) (C := RX5) (T := TX5) (N := 3) hx hb hts i_X5_move_X5 hown hK hP 0 rfl rfl 0 (by decide) (hts _ mx_X5_move_1) (fun _ h9 => h9) rfl dX5_move_8 ?_
      refine lv_iload_n hx hb dX5_move_11 rfl (lv_at hl 3 rfl) ?_
      refine nw_alk hx hb hK hP 1 3 rfl rfl 7 rfl (Nat.le_of_ble_eq_true rfl) (Nat.le_of_ble_eq_true rfl) hfi.2.2.2.2.2.2.2 dX5_move_12 ?_
      refine lv_iload hx hb dX5_move_13 (lv_at hl 4 rfl) ?_
      refine lv_iload hx hb dX5_move_15 (lv_at hl 5 rfl) ?_
      refine va_copyN hx hb hml hl hown (hts _ mx_X5_move_2) (hts _ mx_X5_move_3) (hts _ mx_X5_move_4) (hts _ mx_X5_move_5) hK hP hD hS 2 9 rfl rfl rfl rfl (by omega) (by omega) (Nat.le_of_ble_eq_true rfl) (Nat.le_of_ble_eq_true rfl) (Nat.le_of_ble_eq_true rfl) (Nat.le_of_ble_eq_true rfl) dX5_move_17 (fun H locs hP hD hS => ?_)
      generalize hg_17 : va_cpy f0 f7 ((nI a) : Int32).toNatClampNeg ((nI b) : Int32).toNatClampNeg ((nI n) : Int32).toNatClampNeg = g_17 at hP hD
      have hu_17 : g_17 = va_cpy f0 f7 ((nI a) : Int32).toNatClampNeg ((nI b) : Int32).toNatClampNeg ((nI n) : Int32).toNatClampNeg := hg_17.symm
      have hP : va_P (dC, dI) vwCl [(xo_5_rrr h it la le), (xJ it cJ 8 fi), (xI y0 cI 40 f0), (xI y1 cI 40 f1), (xI y2 cI 40 f2), (xI y3 cI 40 f3), (xI y4 cI 40 f4), (xI y5 cI 40 f5), (xI y6 cI 40 f6), (xI y7 cI 40 g_17)] H := hP
      have hD := dto hP hD
      have hX9 := cut2 (wc := [(xo_5_rrr h it la le), (xJ it cJ 8 fi), (xI y0 cI 40 f0), (xI y1 cI 40 f1), (xI y2 cI 40 f2), (xI y3 cI 40 f3), (xI y4 cI 40 f4), (xI y5 cI 40 f5), (xI y6 cI 40 f6), (xI y7 cI 40 g_17)]) hP hD [0, 1, 2, 3, 4, 5, 6, 7, 8, 9] (by decide +kernel) rfl
      exact W.vret hx hb hr (fun t ht hW => ⟨⟨(), rfl, trivial, ⟨f0, f1, f2, f3, f4, f5, f6, g_17, va_Ht ht hX9.1, hX9.2, (lf_X5_move_8 hfi hj hk ha hb2 hu_17)⟩⟩, hS.F ht⟩) hS.2.2 dX5_move_20
  · skip
    have hl : lv_has ls 6 [(0, .ref h), (1, .int 1), (2, .int (nI a)), (3, .int (nI k)), (4, .int (nI b)), (5, .int (nI n))] := hl
    refine lv_aload_n hx hb dX5_move_0 rfl (lv_at hl 0 rfl) ?_
    refine va_get (D := (dC, dI)) (ci := 5) (v := .ref it) (C := RX5) (T := TX5) (N := 3) hx hb hts i_X5_move_X5 hown hK hP 0 rfl rfl 0 (by decide) (hts _ mx_X5_move_1) (fun _ h9 => h9) rfl dX5_move_1 ?_
    refine lv_iload_n hx hb dX5_move_4 rfl (lv_at hl 1 rfl) ?_
    refine nw_alk hx hb hK hP 1 3 rfl rfl 1 rfl (Nat.le_of_ble_eq_true rfl) (Nat.le_of_ble_eq_true rfl) hfi.2.1 dX5_move_5 ?_
    refine lv_iload_n hx hb dX5_move_6 rfl (lv_at hl 2 rfl) ?_
    rcases (show k = 0 ∨ k = 1 ∨ k = 2 ∨ k = 3 ∨ k = 4 ∨ k = 5 ∨ k = 6 ∨ k = 7 by omega) with rfl | rfl | rfl | rfl | rfl | rfl | rfl | rfl
    · skip
      have hl : lv_has ls 6 [(0, .ref h), (1, .int 1), (2, .int (nI a)), (3, .int 0), (4, .int (nI b)), (5, .int (nI n))] := hl
      refine lv_aload_n hx hb dX5_move_7 rfl (lv_at hl 0 rfl) ?_
      refine va_get (D := (dC, dI)) (ci := 5) (v := .ref it) (C := RX5) (T := TX5) (N := 3) hx hb hts i_X5_move_X5 hown hK hP 0 rfl rfl 0 (by decide) (hts _ mx_X5_move_1) (fun _ h9 => h9) rfl dX5_move_8 ?_
      refine lv_iload_n hx hb dX5_move_11 rfl (lv_at hl 3 rfl) ?_
      refine nw_alk hx hb hK hP 1 3 rfl rfl 0 rfl (Nat.le_of_ble_eq_true rfl) (Nat.le_of_ble_eq_true rfl) hfi.1 dX5_move_12 ?_
      refine lv_iload hx hb dX5_move_13 (lv_at hl 4 rfl) ?_
      refine lv_iload hx hb dX5_move_15 (lv_at hl 5 rfl) ?_
      refine va_copyN hx hb hml hl hown (hts _ mx_X5_move_2) (hts _ mx_X5_move_3) (hts _ mx_X5_move_4) (hts _ mx_X5_move_5) hK hP hD hS 3 2 rfl rfl rfl rfl (by omega) (by omega) (Nat.le_of_ble_eq_true rfl) (Nat.le_of_ble_eq_true rfl) (Nat.le_of_ble_eq_true rfl) (Nat.le_of_ble_eq_true rfl) dX5_move_17 (fun H locs hP hD hS => ?_)
      generalize hg_20 : va_cpy f1 f0 ((nI a) : Int32).toNatClampNeg ((nI b) : Int32).toNatClampNeg ((nI n) : Int32).toNatClampNeg = g_20 at hP hD
      have hu_20 : g_20 = va_cpy f1 f0 ((nI a) : Int32).toNatClampNeg ((nI b) : Int32).toNatClampNeg ((nI n) : Int32).toNatClampNeg := hg_20.symm
      have hP : va_P (dC, dI) vwCl [(xo_5_rrr h it la le), (xJ it cJ 8 fi), (xI y0 cI 40 g_20), (xI y1 cI 40 f1), (xI y2 cI 40 f2), (xI y3 cI 40 f3), (xI y4 cI 40 f4), (xI y5 cI 40 f5), (xI y6 cI 40 f6), (xI y7 cI 40 f7)] H := hP
      have hD := dto hP hD
      have hX9 := cut2 (wc := [(xo_5_rrr h it la le), (xJ it cJ 8 fi), (xI y0 cI 40 g_20), (xI y1 cI 40 f1), (xI y2 cI 40 f2), (xI y3 cI 40 f3), (xI y4 cI 40 f4), (xI y5 cI 40 f5), (xI y6 cI 40 f6), (xI y7 cI 40 f7)]) hP hD [0, 1, 2, 3, 4, 5, 6, 7, 8, 9] (by decide +kernel) rfl
      exact W.vret hx hb hr (fun t ht hW => ⟨⟨(), rfl, trivial, ⟨g_20, f1, f2, f3, f4, f5, f6, f7, va_Ht ht hX9.1, hX9.2, (lf_X5_move_9 hfi hj hk ha hb2 hu_20)⟩⟩, hS.F ht⟩) hS.2.2 dX5_move_20
    · skip
      have hl : lv_has ls 6 [(0, .ref h), (1, .int 1), (2, .int (nI a)), (3, .int 1), (4, .int (nI b)), (5, .int (nI n))] := hl
      refine lv_aload_n hx hb dX5_move_7 rfl (lv_at hl 0 rfl) ?_
      refine va_get (D := (dC, dI)) (ci := 5) (v := .ref it) (C := RX5) (T := TX5) (N := 3) hx hb hts i_X5_move_X5 hown hK hP 0 rfl rfl 0 (by decide) (hts _ mx_X5_move_1) (fun _ h9 => h9) rfl dX5_move_8 ?_
      refine lv_iload_n hx hb dX5_move_11 rfl (lv_at hl 3 rfl) ?_
      refine nw_alk hx hb hK hP 1 3 rfl rfl 1 rfl (Nat.le_of_ble_eq_true rfl) (Nat.le_of_ble_eq_true rfl) hfi.2.1 dX5_move_12 ?_
      refine lv_iload hx hb dX5_move_13 (lv_at hl 4 rfl) ?_
      refine lv_iload hx hb dX5_move_15 (lv_at hl 5 rfl) ?_
      refine va_copyN hx hb hml hl hown (hts _ mx_X5_move_2) (hts _ mx_X5_move_3) (hts _ mx_X5_move_4) (hts _ mx_X5_move_5) hK hP hD hS 3 3 rfl rfl rfl rfl (by omega) (by omega) (Nat.le_of_ble_eq_true rfl) (Nat.le_of_ble_eq_true rfl) (Nat.le_of_ble_eq_true rfl) (Nat.le_of_ble_eq_true rfl) dX5_move_17 (fun H locs hP hD hS => ?_)
      generalize hg_22 : va_cpy f1 f1 ((nI a) : Int32).toNatClampNeg ((nI b) : Int32).toNatClampNeg ((nI n) : Int32).toNatClampNeg = g_22 at hP hD
      have hu_22 : g_22 = va_cpy f1 f1 ((nI a) : Int32).toNatClampNeg ((nI b) : Int32).toNatClampNeg ((nI n) : Int32).toNatClampNeg := hg_22.symm
      have hP : va_P (dC, dI) vwCl [(xo_5_rrr h it la le), (xJ it cJ 8 fi), (xI y0 cI 40 f0), (xI y1 cI 40 g_22), (xI y2 cI 40 f2), (xI y3 cI 40 f3), (xI y4 cI 40 f4), (xI y5 cI 40 f5), (xI y6 cI 40 f6), (xI y7 cI 40 f7)] H := hP
      have hD := dto hP hD
      have hX9 := cut2 (wc := [(xo_5_rrr h it la le), (xJ it cJ 8 fi), (xI y0 cI 40 f0), (xI y1 cI 40 g_22), (xI y2 cI 40 f2), (xI y3 cI 40 f3), (xI y4 cI 40 f4), (xI y5 cI 40 f5), (xI y6 cI 40 f6), (xI y7 cI 40 f7)]) hP hD [0, 1, 2, 3, 4, 5, 6, 7, 8, 9] (by decide +kernel) rfl
      exact W.vret hx hb hr (fun t ht hW => ⟨⟨(), rfl, trivial, ⟨f0, g_22, f2, f3, f4, f5, f6, f7, va_Ht ht hX9.1, hX9.2, (lf_X5_move_10 hfi hj hk ha hb2 hu_22)⟩⟩, hS.F ht⟩) hS.2.2 dX5_move_20
    · skip
      have hl : lv_has ls 6 [(0, .ref h), (1, .int 1), (2, .int (nI a)), (3, .int 2), (4, .int (nI b)), (5, .int (nI n))] := hl
      refine lv_aload_n hx hb dX5_move_7 rfl (lv_at hl 0 rfl) ?_
      refine va_get (D := (dC, dI)) (ci := 5) (v := .ref it) (C := RX5) (T := TX5) (N := 3) hx hb hts i_X5_move_X5 hown hK hP 0 rfl rfl 0 (by decide) (hts _ mx_X5_move_1) (fun _ h9 => h9) rfl dX5_move_8 ?_
      refine lv_iload_n hx hb dX5_move_11 rfl (lv_at hl 3 rfl) ?_
      refine nw_alk hx hb hK hP 1 3 rfl rfl 2 rfl (Nat.le_of_ble_eq_true rfl) (Nat.le_of_ble_eq_true rfl) hfi.2.2.1 dX5_move_12 ?_
      refine lv_iload hx hb dX5_move_13 (lv_at hl 4 rfl) ?_
      refine lv_iload hx hb dX5_move_15 (lv_at hl 5 rfl) ?_
      refine va_copyN hx hb hml hl hown (hts _ mx_X5_move_2) (hts _ mx_X5_move_3) (hts _ mx_X5_move_4) (hts _ mx_X5_move_5) hK hP hD hS 3 4 rfl rfl rfl rfl (by omega) (by omega) (Nat.le_of_ble_eq_true rfl) (Nat.le_of_ble_eq_true rfl) (Nat.le_of_ble_eq_true rfl) (Nat.le_of_ble_eq_true rfl) dX5_move_17 (fun H locs hP hD hS => ?_)
      generalize hg_24 : va_cpy f1 f2 ((nI a) : Int32).toNatClampNeg ((nI b) : Int32).toNatClampNeg ((nI n) : Int32).toNatClampNeg = g_24 at hP hD
      have hu_24 : g_24 = va_cpy f1 f2 ((nI a) : Int32).toNatClampNeg ((nI b) : Int32).toNatClampNeg ((nI n) : Int32).toNatClampNeg := hg_24.symm
      have hP : va_P (dC, dI) vwCl [(xo_5_rrr h it la le), (xJ it cJ 8 fi), (xI y0 cI 40 f0), (xI y1 cI 40 f1), (xI y2 cI 40 g_24), (xI y3 cI 40 f3), (xI y4 cI 40 f4), (xI y5 cI 40 f5), (xI y6 cI 40 f6), (xI y7 cI 40 f7)] H := hP
      have hD := dto hP hD
      have hX9 := cut2 (wc := [(xo_5_rrr h it la le), (xJ it cJ 8 fi), (xI y0 cI 40 f0), (xI y1 cI 40 f1), (xI y2 cI 40 g_24), (xI y3 cI 40 f3), (xI y4 cI 40 f4), (xI y5 cI 40 f5), (xI y6 cI 40 f6), (xI y7 cI 40 f7)]) hP hD [0, 1, 2, 3, 4, 5, 6, 7, 8, 9] (by decide +kernel) rfl
      exact W.vret hx hb hr (fun t ht hW => ⟨⟨(), rfl, trivial, ⟨f0, f1, g_24, f3, f4, f5, f6, f7, va_Ht ht hX9.1, hX9.2, (lf_X5_move_11 hfi hj hk ha hb2 hu_24)⟩⟩, hS.F ht⟩) hS.2.2 dX5_move_20
    · skip
      have hl : lv_has ls 6 [(0, .ref h), (1, .int 1), (2, .int (nI a)), (3, .int 3), (4, .int (nI b)), (5, .int (nI n))] := hl
      refine lv_aload_n hx hb dX5_move_7 rfl (lv_at hl 0 rfl) ?_
      refine va_get (D := (dC, dI)) (ci := 5) (v := .ref it) (C := RX5) (T := TX5) (N := 3) hx hb hts i_X5_move_X5 hown hK hP 0 rfl rfl 0 (by decide) (hts _ mx_X5_move_1) (fun _ h9 => h9) rfl dX5_move_8 ?_
      refine lv_iload_n hx hb dX5_move_11 rfl (lv_at hl 3 rfl) ?_
      refine nw_alk hx hb hK hP 1 3 rfl rfl 3 rfl (Nat.le_of_ble_eq_true rfl) (Nat.le_of_ble_eq_true rfl) hfi.2.2.2.1 dX5_move_12 ?_
      refine lv_iload hx hb dX5_move_13 (lv_at hl 4 rfl) ?_
      refine lv_iload hx hb dX5_move_15 (lv_at hl 5 rfl) ?_
      refine va_copyN hx hb hml hl hown (hts _ mx_X5_move_2) (hts _ mx_X5_move_3) (hts _ mx_X5_move_4) (hts _ mx_X5_move_5) hK hP hD hS 3 5 rfl rfl rfl rfl (by omega) (by omega) (Nat.le_of_ble_eq_true rfl) (Nat.le_of_ble_eq_true rfl) (Nat.le_of_ble_eq_true rfl) (Nat.le_of_ble_eq_true rfl) dX5_move_17 (fun H locs hP hD hS => ?_)
      generalize hg_26 : va_cpy f1 f3 ((nI a) : Int32).toNatClampNeg ((nI b) : Int32).toNatClampNeg ((nI n) : Int32).toNatClampNeg = g_26 at hP hD
      have hu_26 : g_26 = va_cpy f1 f3 ((nI a) : Int32).toNatClampNeg ((nI b) : Int32).toNatClampNeg ((nI n) : Int32).toNatClampNeg := hg_26.symm
      have hP : va_P (dC, dI) vwCl [(xo_5_rrr h it la le), (xJ it cJ 8 fi), (xI y0 cI 40 f0), (xI y1 cI 40 f1), (xI y2 cI 40 f2), (xI y3 cI 40 g_26), (xI y4 cI 40 f4), (xI y5 cI 40 f5), (xI y6 cI 40 f6), (xI y7 cI 40 f7)] H := hP
      have hD := dto hP hD
      have hX9 := cut2 (wc := [(xo_5_rrr h it la le), (xJ it cJ 8 fi), (xI y0 cI 40 f0), (xI y1 cI 40 f1), (xI y2 cI 40 f2), (xI y3 cI 40 g_26), (xI y4 cI 40 f4), (xI y5 cI 40 f5), (xI y6 cI 40 f6), (xI y7 cI 40 f7)]) hP hD [0, 1, 2, 3, 4, 5, 6, 7, 8, 9] (by decide +kernel) rfl
      exact W.vret hx hb hr (fun t ht hW => ⟨⟨(), rfl, trivial, ⟨f0, f1, f2, g_26, f4, f5, f6, f7, va_Ht ht hX9.1, hX9.2, (lf_X5_move_12 hfi hj hk ha hb2 hu_26)⟩⟩, hS.F ht⟩) hS.2.2 dX5_move_20
    · skip
      have hl : lv_has ls 6 [(0, .ref h), (1, .int 1), (2, .int (nI a)), (3, .int 4), (4, .int (nI b)), (5, .int (nI n))] := hl
      refine lv_aload_n hx hb dX5_move_7 rfl (lv_at hl 0 rfl) ?_
      refine va_get (D := (dC, dI)) (ci := 5) (v := .ref it) (C := RX5) (T := TX5) (N := 3) hx hb hts i_X5_move_X5 hown hK hP 0 rfl rfl 0 (by decide) (hts _ mx_X5_move_1) (fun _ h9 => h9) rfl dX5_move_8 ?_
      refine lv_iload_n hx hb dX5_move_11 rfl (lv_at hl 3 rfl) ?_
      refine nw_alk hx hb hK hP 1 3 rfl rfl 4 rfl (Nat.le_of_ble_eq_true rfl) (Nat.le_of_ble_eq_true rfl) hfi.2.2.2.2.1 dX5_move_12 ?_
      refine lv_iload hx hb dX5_move_13 (lv_at hl 4 rfl) ?_
      refine lv_iload hx hb dX5_move_15 (lv_at hl 5 rfl) ?_
      refine va_copyN hx hb hml hl hown (hts _ mx_X5_move_2) (hts _ mx_X5_move_3) (hts _ mx_X5_move_4) (hts _ mx_X5_move_5) hK hP hD hS 3 6 rfl rfl rfl rfl (by omega) (by omega) (Nat.le_of_ble_eq_true rfl) (Nat.le_of_ble_eq_true rfl) (Nat.le_of_ble_eq_true rfl) (Nat.le_of_ble_eq_true rfl) dX5_move_17 (fun H locs hP hD hS => ?_)
      generalize hg_28 : va_cpy f1 f4 ((nI a) : Int32).toNatClampNeg ((nI b) : Int32).toNatClampNeg ((nI n) : Int32).toNatClampNeg = g_28 at hP hD
      have hu_28 : g_28 = va_cpy f1 f4 ((nI a) : Int32).toNatClampNeg ((nI b) : Int32).toNatClampNeg ((nI n) : Int32).toNatClampNeg := hg_28.symm
      have hP : va_P (dC, dI) vwCl [(xo_5_rrr h it la le), (xJ it cJ 8 fi), (xI y0 cI 40 f0), (xI y1 cI 40 f1), (xI y2 cI 40 f2), (xI y3 cI 40 f3), (xI y4 cI 40 g_28), (xI y5 cI 40 f5), (xI y6 cI 40 f6), (xI y7 cI 40 f7)] H := hP
      have hD := dto hP hD
      have hX9 := cut2 (wc := [(xo_5_rrr h it la le), (xJ it cJ 8 fi), (xI y0 cI 40 f0), (xI y1 cI 40 f1), (xI y2 cI 40 f2), (xI y3 cI 40 f3), (xI y4 cI 40 g_28), (xI y5 cI 40 f5), (xI y6 cI 40 f6), (xI y7 cI 40 f7)]) hP hD [0, 1, 2, 3, 4, 5, 6, 7, 8, 9] (by decide +kernel) rfl
      exact W.vret hx hb hr (fun t ht hW => ⟨⟨(), rfl, trivial, ⟨f0, f1, f2, f3, g_28, f5, f6, f7, va_Ht ht hX9.1, hX9.2, (lf_X5_move_13 hfi hj hk ha hb2 hu_28)⟩⟩, hS.F ht⟩) hS.2.2 dX5_move_20
    · skip
      have hl : lv_has ls 6 [(0, .ref h), (1, .int 1), (2, .int (nI a)), (3, .int 5), (4, .int (nI b)), (5, .int (nI n))] := hl
      refine lv_aload_n hx hb dX5_move_7 rfl (lv_at hl 0 rfl) ?_
      refine va_get (D := (dC, dI)) (ci := 5) (v := .ref it) (C := RX5) (T := TX5) (N := 3) hx hb hts i_X5_move_X5 hown hK hP 0 rfl rfl 0 (by decide) (hts _ mx_X5_move_1) (fun _ h9 => h9) rfl dX5_move_8 ?_
      refine lv_iload_n hx hb dX5_move_11 rfl (lv_at hl 3 rfl) ?_
      refine nw_alk hx hb hK hP 1 3 rfl rfl 5 rfl (Nat.le_of_ble_eq_true rfl) (Nat.le_of_ble_eq_true rfl) hfi.2.2.2.2.2.1 dX5_move_12 ?_
      refine lv_iload hx hb dX5_move_13 (lv_at hl 4 rfl) ?_
      refine lv_iload hx hb dX5_move_15 (lv_at hl 5 rfl) ?_
      refine va_copyN hx hb hml hl hown (hts _ mx_X5_move_2) (hts _ mx_X5_move_3) (hts _ mx_X5_move_4) (hts _ mx_X5_move_5) hK hP hD hS 3 7 rfl rfl rfl rfl (by omega) (by omega) (Nat.le_of_ble_eq_true rfl) (Nat.le_of_ble_eq_true rfl) (Nat.le_of_ble_eq_true rfl) (Nat.le_of_ble_eq_true rfl) dX5_move_17 (fun H locs hP hD hS => ?_)
      generalize hg_30 : va_cpy f1 f5 ((nI a) : Int32).toNatClampNeg ((nI b) : Int32).toNatClampNeg ((nI n) : Int32).toNatClampNeg = g_30 at hP hD
      have hu_30 : g_30 = va_cpy f1 f5 ((nI a) : Int32).toNatClampNeg ((nI b) : Int32).toNatClampNeg ((nI n) : Int32).toNatClampNeg := hg_30.symm
      have hP : va_P (dC, dI) vwCl [(xo_5_rrr h it la le), (xJ it cJ 8 fi), (xI y0 cI 40 f0), (xI y1 cI 40 f1), (xI y2 cI 40 f2), (xI y3 cI 40 f3), (xI y4 cI 40 f4), (xI y5 cI 40 g_30), (xI y6 cI 40 f6), (xI y7 cI 40 f7)] H := hP
      have hD := dto hP hD
      have hX9 := cut2 (wc := [(xo_5_rrr h it la le), (xJ it cJ 8 fi), (xI y0 cI 40 f0), (xI y1 cI 40 f1), (xI y2 cI 40 f2), (xI y3 cI 40 f3), (xI y4 cI 40 f4), (xI y5 cI 40 g_30), (xI y6 cI 40 f6), (xI y7 cI 40 f7)]) hP hD [0, 1, 2, 3, 4, 5, 6, 7, 8, 9] (by decide +kernel) rfl
      exact W.vret hx hb hr (fun t ht hW => ⟨⟨(), rfl, trivial, ⟨f0, f1, f2, f3, f4, g_30, f6, f7, va_Ht ht hX9.1, hX9.2, (lf_X5_move_14 hfi hj hk ha hb2 hu_30)⟩⟩, hS.F ht⟩) hS.2.2 dX5_move_20
    · skip
      have hl : lv_has ls 6 [(0, .ref h), (1, .int 1), (2, .int (nI a)), (3, .int 6), (4, .int (nI b)), (5, .int (nI n))] := hl
      refine lv_aload_n hx hb dX5_move_7 rfl (lv_at hl 0 rfl) ?_
      refine va_get (D := (dC, dI)) (ci := 5) (v := .ref it) (C := RX5) (T := TX5) (N := 3) hx hb hts i_X5_move_X5 hown hK hP 0 rfl rfl 0 (by decide) (hts _ mx_X5_move_1) (fun _ h9 => h9) rfl dX5_move_8 ?_
      refine lv_iload_n hx hb dX5_move_11 rfl (lv_at hl 3 rfl) ?_
      refine nw_alk hx hb hK hP 1 3 rfl rfl 6 rfl (Nat.le_of_ble_eq_true rfl) (Nat.le_of_ble_eq_true rfl) hfi.2.2.2.2.2.2.1 dX5_move_12 ?_
      refine lv_iload hx hb dX5_move_13 (lv_at hl 4 rfl) ?_
      refine lv_iload hx hb dX5_move_15 (lv_at hl 5 rfl) ?_
      refine va_copyN hx hb hml hl hown (hts _ mx_X5_move_2) (hts _ mx_X5_move_3) (hts _ mx_X5_move_4) (hts _ mx_X5_move_5) hK hP hD hS 3 8 rfl rfl rfl rfl (by omega) (by omega) (Nat.le_of_ble_eq_true rfl) (Nat.le_of_ble_eq_true rfl) (Nat.le_of_ble_eq_true rfl) (Nat.le_of_ble_eq_true rfl) dX5_move_17 (fun H locs hP hD hS => ?_)
      generalize hg_32 : va_cpy f1 f6 ((nI a) : Int32).toNatClampNeg ((nI b) : Int32).toNatClampNeg ((nI n) : Int32).toNatClampNeg = g_32 at hP hD
      have hu_32 : g_32 = va_cpy f1 f6 ((nI a) : Int32).toNatClampNeg ((nI b) : Int32).toNatClampNeg ((nI n) : Int32).toNatClampNeg := hg_32.symm
      have hP : va_P (dC, dI) vwCl [(xo_5_rrr h it la le), (xJ it cJ 8 fi), (xI y0 cI 40 f0), (xI y1 cI 40 f1), (xI y2 cI 40 f2), (xI y3 cI 40 f3), (xI y4 cI 40 f4), (xI y5 cI 40 f5), (xI y6 cI 40 g_32), (xI y7 cI 40 f7)] H := hP
      have hD := dto hP hD
      have hX9 := cut2 (wc := [(xo_5_rrr h it la le), (xJ it cJ 8 fi), (xI y0 cI 40 f0), (xI y1 cI 40 f1), (xI y2 cI 40 f2), (xI y3 cI 40 f3), (xI y4 cI 40 f4), (xI y5 cI 40 f5), (xI y6 cI 40 g_32), (xI y7 cI 40 f7)]) hP hD [0, 1, 2, 3, 4, 5, 6, 7, 8, 9] (by decide +kernel) rfl
      exact W.vret hx hb hr (fun t ht hW => ⟨⟨(), rfl, trivial, ⟨f0, f1, f2, f3, f4, f5, g_32, f7, va_Ht ht hX9.1, hX9.2, (lf_X5_move_15 hfi hj hk ha hb2 hu_32)⟩⟩, hS.F ht⟩) hS.2.2 dX5_move_20
    · skip
      have hl : lv_has ls 6 [(0, .ref h), (1, .int 1), (2, .int (nI a)), (3, .int 7), (4, .int (nI b)), (5, .int (nI n))] := hl
      refine lv_aload_n hx hb dX5_move_7 rfl (lv_at hl 0 rfl) ?_
      refine va_get (D := (dC, dI)) (ci := 5) (v := .ref it) (C := RX5) (T := TX5) (N := 3) hx hb hts i_X5_move_X5 hown hK hP 0 rfl rfl 0 (by decide) (hts _ mx_X5_move_1) (fun _ h9 => h9) rfl dX5_move_8 ?_
      refine lv_iload_n hx hb dX5_move_11 rfl (lv_at hl 3 rfl) ?_
      refine nw_alk hx hb hK hP 1 3 rfl rfl 7 rfl (Nat.le_of_ble_eq_true rfl) (Nat.le_of_ble_eq_true rfl) hfi.2.2.2.2.2.2.2 dX5_move_12 ?_
      refine lv_iload hx hb dX5_move_13 (lv_at hl 4 rfl) ?_
      refine lv_iload hx hb dX5_move_15 (lv_at hl 5 rfl) ?_
      refine va_copyN hx hb hml hl hown (hts _ mx_X5_move_2) (hts _ mx_X5_move_3) (hts _ mx_X5_move_4) (hts _ mx_X5_move_5) hK hP hD hS 3 9 rfl rfl rfl rfl (by omega) (by omega) (Nat.le_of_ble_eq_true rfl) (Nat.le_of_ble_eq_true rfl) (Nat.le_of_ble_eq_true rfl) (Nat.le_of_ble_eq_true rfl) dX5_move_17 (fun H locs hP hD hS => ?_)
      generalize hg_34 : va_cpy f1 f7 ((nI a) : Int32).toNatClampNeg ((nI b) : Int32).toNatClampNeg ((nI n) : Int32).toNatClampNeg = g_34 at hP hD
      have hu_34 : g_34 = va_cpy f1 f7 ((nI a) : Int32).toNatClampNeg ((nI b) : Int32).toNatClampNeg ((nI n) : Int32).toNatClampNeg := hg_34.symm
      have hP : va_P (dC, dI) vwCl [(xo_5_rrr h it la le), (xJ it cJ 8 fi), (xI y0 cI 40 f0), (xI y1 cI 40 f1), (xI y2 cI 40 f2), (xI y3 cI 40 f3), (xI y4 cI 40 f4), (xI y5 cI 40 f5), (xI y6 cI 40 f6), (xI y7 cI 40 g_34)] H := hP
      have hD := dto hP hD
      have hX9 := cut2 (wc := [(xo_5_rrr h it la le), (xJ it cJ 8 fi), (xI y0 cI 40 f0), (xI y1 cI 40 f1), (xI y2 cI 40 f2), (xI y3 cI 40 f3), (xI y4 cI 40 f4), (xI y5 cI 40 f5), (xI y6 cI 40 f6), (xI y7 cI 40 g_34)]) hP hD [0, 1, 2, 3, 4, 5, 6, 7, 8, 9] (by decide +kernel) rfl
      exact W.vret hx hb hr (fun t ht hW => ⟨⟨(), rfl, trivial, ⟨f0, f1, f2, f3, f4, f5, f6, g_34, va_Ht ht hX9.1, hX9.2, (lf_X5_move_16 hfi hj hk ha hb2 hu_34)⟩⟩, hS.F ht⟩) hS.2.2 dX5_move_20
  · skip
    have hl : lv_has ls 6 [(0, .ref h), (1, .int 2), (2, .int (nI a)), (3, .int (nI k)), (4, .int (nI b)), (5, .int (nI n))] := hl
    refine lv_aload_n hx hb dX5_move_0 rfl (lv_at hl 0 rfl) ?_
    refine va_get (D := (dC, dI)) (ci := 5) (v := .ref it) (C := RX5) (T := TX5) (N := 3) hx hb hts i_X5_move_X5 hown hK hP 0 rfl rfl 0 (by decide) (hts _ mx_X5_move_1) (fun _ h9 => h9) rfl dX5_move_1 ?_
    refine lv_iload_n hx hb dX5_move_4 rfl (lv_at hl 1 rfl) ?_
    refine nw_alk hx hb hK hP 1 3 rfl rfl 2 rfl (Nat.le_of_ble_eq_true rfl) (Nat.le_of_ble_eq_true rfl) hfi.2.2.1 dX5_move_5 ?_
    refine lv_iload_n hx hb dX5_move_6 rfl (lv_at hl 2 rfl) ?_
    rcases (show k = 0 ∨ k = 1 ∨ k = 2 ∨ k = 3 ∨ k = 4 ∨ k = 5 ∨ k = 6 ∨ k = 7 by omega) with rfl | rfl | rfl | rfl | rfl | rfl | rfl | rfl
    · skip
      have hl : lv_has ls 6 [(0, .ref h), (1, .int 2), (2, .int (nI a)), (3, .int 0), (4, .int (nI b)), (5, .int (nI n))] := hl
      refine lv_aload_n hx hb dX5_move_7 rfl (lv_at hl 0 rfl) ?_
      refine va_get (D := (dC, dI)) (ci := 5) (v := .ref it) (C := RX5) (T := TX5) (N := 3) hx hb hts i_X5_move_X5 hown hK hP 0 rfl rfl 0 (by decide) (hts _ mx_X5_move_1) (fun _ h9 => h9) rfl dX5_move_8 ?_
      refine lv_iload_n hx hb dX5_move_11 rfl (lv_at hl 3 rfl) ?_
      refine nw_alk hx hb hK hP 1 3 rfl rfl 0 rfl (Nat.le_of_ble_eq_true rfl) (Nat.le_of_ble_eq_true rfl) hfi.1 dX5_move_12 ?_
      refine lv_iload hx hb dX5_move_13 (lv_at hl 4 rfl) ?_
      refine lv_iload hx hb dX5_move_15 (lv_at hl 5 rfl) ?_
      refine va_copyN hx hb hml hl hown (hts _ mx_X5_move_2) (hts _ mx_X5_move_3) (hts _ mx_X5_move_4) (hts _ mx_X5_move_5) hK hP hD hS 4 2 rfl rfl rfl rfl (by omega) (by omega) (Nat.le_of_ble_eq_true rfl) (Nat.le_of_ble_eq_true rfl) (Nat.le_of_ble_eq_true rfl) (Nat.le_of_ble_eq_true rfl) dX5_move_17 (fun H locs hP hD hS => ?_)
      generalize hg_37 : va_cpy f2 f0 ((nI a) : Int32).toNatClampNeg ((nI b) : Int32).toNatClampNeg ((nI n) : Int32).toNatClampNeg = g_37 at hP hD
      have hu_37 : g_37 = va_cpy f2 f0 ((nI a) : Int32).toNatClampNeg ((nI b) : Int32).toNatClampNeg ((nI n) : Int32).toNatClampNeg := hg_37.symm
      have hP : va_P (dC, dI) vwCl [(xo_5_rrr h it la le), (xJ it cJ 8 fi), (xI y0 cI 40 g_37), (xI y1 cI 40 f1), (xI y2 cI 40 f2), (xI y3 cI 40 f3), (xI y4 cI 40 f4), (xI y5 cI 40 f5), (xI y6 cI 40 f6), (xI y7 cI 40 f7)] H := hP
      have hD := dto hP hD
      have hX9 := cut2 (wc := [(xo_5_rrr h it la le), (xJ it cJ 8 fi), (xI y0 cI 40 g_37), (xI y1 cI 40 f1), (xI y2 cI 40 f2), (xI y3 cI 40 f3), (xI y4 cI 40 f4), (xI y5 cI 40 f5), (xI y6 cI 40 f6), (xI y7 cI 40 f7)]) hP hD [0, 1, 2, 3, 4, 5, 6, 7, 8, 9] (by decide +kernel) rfl
      exact W.vret hx hb hr (fun t ht hW => ⟨⟨(), rfl, trivial, ⟨g_37, f1, f2, f3, f4, f5, f6, f7, va_Ht ht hX9.1, hX9.2, (lf_X5_move_17 hfi hj hk ha hb2 hu_37)⟩⟩, hS.F ht⟩) hS.2.2 dX5_move_20
    · skip
      have hl : lv_has ls 6 [(0, .ref h), (1, .int 2), (2, .int (nI a)), (3, .int 1), (4, .int (nI b)), (5, .int (nI n))] := hl
      refine lv_aload_n hx hb dX5_move_7 rfl (lv_at hl 0 rfl) ?_
      refine va_get (D := (dC, dI)) (ci := 5) (v := .ref it) (C := RX5) (T := TX5) (N := 3) hx hb hts i_X5_move_X5 hown hK hP 0 rfl rfl 0 (by decide) (hts _ mx_X5_move_1) (fun _ h9 => h9) rfl dX5_move_8 ?_
      refine lv_iload_n hx hb dX5_move_11 rfl (lv_at hl 3 rfl) ?_
      refine nw_alk hx hb hK hP 1 3 rfl rfl 1 rfl (Nat.le_of_ble_eq_true rfl) (Nat.le_of_ble_eq_true rfl) hfi.2.1 dX5_move_12 ?_
      refine lv_iload hx hb dX5_move_13 (lv_at hl 4 rfl) ?_
      refine lv_iload hx hb dX5_move_15 (lv_at hl 5 rfl) ?_
      refine va_copyN hx hb hml hl hown (hts _ mx_X5_move_2) (hts _ mx_X5_move_3) (hts _ mx_X5_move_4) (hts _ mx_X5_move_5) hK hP hD hS 4 3 rfl rfl rfl rfl (by omega) (by omega) (Nat.le_of_ble_eq_true rfl) (Nat.le_of_ble_eq_true rfl) (Nat.le_of_ble_eq_true rfl) (Nat.le_of_ble_eq_true rfl) dX5_move_17 (fun H locs hP hD hS => ?_)
      generalize hg_39 : va_cpy f2 f1 ((nI a) : Int32).toNatClampNeg ((nI b) : Int32).toNatClampNeg ((nI n) : Int32).toNatClampNeg = g_39 at hP hD
      have hu_39 : g_39 = va_cpy f2 f1 ((nI a) : Int32).toNatClampNeg ((nI b) : Int32).toNatClampNeg ((nI n) : Int32).toNatClampNeg := hg_39.symm
      have hP : va_P (dC, dI) vwCl [(xo_5_rrr h it la le), (xJ it cJ 8 fi), (xI y0 cI 40 f0), (xI y1 cI 40 g_39), (xI y2 cI 40 f2), (xI y3 cI 40 f3), (xI y4 cI 40 f4), (xI y5 cI 40 f5), (xI y6 cI 40 f6), (xI y7 cI 40 f7)] H := hP
      have hD := dto hP hD
      have hX9 := cut2 (wc := [(xo_5_rrr h it la le), (xJ it cJ 8 fi), (xI y0 cI 40 f0), (xI y1 cI 40 g_39), (xI y2 cI 40 f2), (xI y3 cI 40 f3), (xI y4 cI 40 f4), (xI y5 cI 40 f5), (xI y6 cI 40 f6), (xI y7 cI 40 f7)]) hP hD [0, 1, 2, 3, 4, 5, 6, 7, 8, 9] (by decide +kernel) rfl
      exact W.vret hx hb hr (fun t ht hW => ⟨⟨(), rfl, trivial, ⟨f0, g_39, f2, f3, f4, f5, f6, f7, va_Ht ht hX9.1, hX9.2, (lf_X5_move_18 hfi hj hk ha hb2 hu_39)⟩⟩, hS.F ht⟩) hS.2.2 dX5_move_20
    · skip
      have hl : lv_has ls 6 [(0, .ref h), (1, .int 2), (2, .int (nI a)), (3, .int 2), (4, .int (nI b)), (5, .int (nI n))] := hl
      refine lv_aload_n hx hb dX5_move_7 rfl (lv_at hl 0 rfl) ?_
      refine va_get (D := (dC, dI)) (ci := 5) (v := .ref it) (C := RX5) (T := TX5) (N := 3) hx hb hts i_X5_move_X5 hown hK hP 0 rfl rfl 0 (by decide) (hts _ mx_X5_move_1) (fun _ h9 => h9) rfl dX5_move_8 ?_
      refine lv_iload_n hx hb dX5_move_11 rfl (lv_at hl 3 rfl) ?_
      refine nw_alk hx hb hK hP 1 3 rfl rfl 2 rfl (Nat.le_of_ble_eq_true rfl) (Nat.le_of_ble_eq_true rfl) hfi.2.2.1 dX5_move_12 ?_
      refine lv_iload hx hb dX5_move_13 (lv_at hl 4 rfl) ?_
      refine lv_iload hx hb dX5_move_15 (lv_at hl 5 rfl) ?_
      refine va_copyN hx hb hml hl hown (hts _ mx_X5_move_2) (hts _ mx_X5_move_3) (hts _ mx_X5_move_4) (hts _ mx_X5_move_5) hK hP hD hS 4 4 rfl rfl rfl rfl (by omega) (by omega) (Nat.le_of_ble_eq_true rfl) (Nat.le_of_ble_eq_true rfl) (Nat.le_of_ble_eq_true rfl) (Nat.le_of_ble_eq_true rfl) dX5_move_17 (fun H locs hP hD hS => ?_)
      generalize hg_41 : va_cpy f2 f2 ((nI a) : Int32).toNatClampNeg ((nI b) : Int32).toNatClampNeg ((nI n) : Int32).toNatClampNeg = g_41 at hP hD
      have hu_41 : g_41 = va_cpy f2 f2 ((nI a) : Int32).toNatClampNeg ((nI b) : Int32).toNatClampNeg ((nI n) : Int32).toNatClampNeg := hg_41.symm
      have hP : va_P (dC, dI) vwCl [(xo_5_rrr h it la le), (xJ it cJ 8 fi), (xI y0 cI 40 f0), (xI y1 cI 40 f1), (xI y2 cI 40 g_41), (xI y3 cI 40 f3), (xI y4 cI 40 f4), (xI y5 cI 40 f5), (xI y6 cI 40 f6), (xI y7 cI 40 f7)] H := hP
      have hD := dto hP hD
      have hX9 := cut2 (wc := [(xo_5_rrr h it la le), (xJ it cJ 8 fi), (xI y0 cI 40 f0), (xI y1 cI 40 f1), (xI y2 cI 40 g_41), (xI y3 cI 40 f3), (xI y4 cI 40 f4), (xI y5 cI 40 f5), (xI y6 cI 40 f6), (xI y7 cI 40 f7)]) hP hD [0, 1, 2, 3, 4, 5, 6, 7, 8, 9] (by decide +kernel) rfl
      exact W.vret hx hb hr (fun t ht hW => ⟨⟨(), rfl, trivial, ⟨f0, f1, g_41, f3, f4, f5, f6, f7, va_Ht ht hX9.1, hX9.2, (lf_X5_move_19 hfi hj hk ha hb2 hu_41)⟩⟩, hS.F ht⟩) hS.2.2 dX5_move_20
    · skip
      have hl : lv_has ls 6 [(0, .ref h), (1, .int 2), (2, .int (nI a)), (3, .int 3), (4, .int (nI b)), (5, .int (nI n))] := hl
      refine lv_aload_n hx hb dX5_move_7 rfl (lv_at hl 0 rfl) ?_
      refine va_get (D := (dC, dI)) (ci := 5) (v := .ref it) (C := RX5) (T := TX5) (N := 3) hx hb hts i_X5_move_X5 hown hK hP 0 rfl rfl 0 (by decide) (hts _ mx_X5_move_1) (fun _ h9 => h9) rfl dX5_move_8 ?_
      refine lv_iload_n hx hb dX5_move_11 rfl (lv_at hl 3 rfl) ?_
      refine nw_alk hx hb hK hP 1 3 rfl rfl 3 rfl (Nat.le_of_ble_eq_true rfl) (Nat.le_of_ble_eq_true rfl) hfi.2.2.2.1 dX5_move_12 ?_
      refine lv_iload hx hb dX5_move_13 (lv_at hl 4 rfl) ?_
      refine lv_iload hx hb dX5_move_15 (lv_at hl 5 rfl) ?_
      refine va_copyN hx hb hml hl hown (hts _ mx_X5_move_2) (hts _ mx_X5_move_3) (hts _ mx_X5_move_4) (hts _ mx_X5_move_5) hK hP hD hS 4 5 rfl rfl rfl rfl (by omega) (by omega) (Nat.le_of_ble_eq_true rfl) (Nat.le_of_ble_eq_true rfl) (Nat.le_of_ble_eq_true rfl) (Nat.le_of_ble_eq_true rfl) dX5_move_17 (fun H locs hP hD hS => ?_)
      generalize hg_43 : va_cpy f2 f3 ((nI a) : Int32).toNatClampNeg ((nI b) : Int32).toNatClampNeg ((nI n) : Int32).toNatClampNeg = g_43 at hP hD
      have hu_43 : g_43 = va_cpy f2 f3 ((nI a) : Int32).toNatClampNeg ((nI b) : Int32).toNatClampNeg ((nI n) : Int32).toNatClampNeg := hg_43.symm
      have hP : va_P (dC, dI) vwCl [(xo_5_rrr h it la le), (xJ it cJ 8 fi), (xI y0 cI 40 f0), (xI y1 cI 40 f1), (xI y2 cI 40 f2), (xI y3 cI 40 g_43), (xI y4 cI 40 f4), (xI y5 cI 40 f5), (xI y6 cI 40 f6), (xI y7 cI 40 f7)] H := hP
      have hD := dto hP hD
      have hX9 := cut2 (wc := [(xo_5_rrr h it la le), (xJ it cJ 8 fi), (xI y0 cI 40 f0), (xI y1 cI 40 f1), (xI y2 cI 40 f2), (xI y3 cI 40 g_43), (xI y4 cI 40 f4), (xI y5 cI 40 f5), (xI y6 cI 40 f6), (xI y7 cI 40 f7)]) hP hD [0, 1, 2, 3, 4, 5, 6, 7, 8, 9] (by decide +kernel) rfl
      exact W.vret hx hb hr (fun t ht hW => ⟨⟨(), rfl, trivial, ⟨f0, f1, f2, g_43, f4, f5, f6, f7, va_Ht ht hX9.1, hX9.2, (lf_X5_move_20 hfi hj hk ha hb2 hu_43)⟩⟩, hS.F ht⟩) hS.2.2 dX5_move_20
    · skip
      have hl : lv_has ls 6 [(0, .ref h), (1, .int 2), (2, .int (nI a)), (3, .int 4), (4, .int (nI b)), (5, .int (nI n))] := hl
      refine lv_aload_n hx hb dX5_move_7 rfl (lv_at hl 0 rfl) ?_
      refine va_get (D := (dC, dI)) (ci := 5) (v := .ref it) (C := RX5) (T := TX5) (N := 3) hx hb hts i_X5_move_X5 hown hK hP 0 rfl rfl 0 (by decide) (hts _ mx_X5_move_1) (fun _ h9 => h9) rfl dX5_move_8 ?_
      refine lv_iload_n hx hb dX5_move_11 rfl (lv_at hl 3 rfl) ?_
      refine nw_alk hx hb hK hP 1 3 rfl rfl 4 rfl (Nat.le_of_ble_eq_true rfl) (Nat.le_of_ble_eq_true rfl) hfi.2.2.2.2.1 dX5_move_12 ?_
      refine lv_iload hx hb dX5_move_13 (lv_at hl 4 rfl) ?_
      refine lv_iload hx hb dX5_move_15 (lv_at hl 5 rfl) ?_
      refine va_copyN hx hb hml hl hown (hts _ mx_X5_move_2) (hts _ mx_X5_move_3) (hts _ mx_X5_move_4) (hts _ mx_X5_move_5) hK hP hD hS 4 6 rfl rfl rfl rfl (by omega) (by omega) (Nat.le_of_ble_eq_true rfl) (Nat.le_of_ble_eq_true rfl) (Nat.le_of_ble_eq_true rfl) (Nat.le_of_ble_eq_true rfl) dX5_move_17 (fun H locs hP hD hS => ?_)
      generalize hg_45 : va_cpy f2 f4 ((nI a) : Int32).toNatClampNeg ((nI b) : Int32).toNatClampNeg ((nI n) : Int32).toNatClampNeg = g_45 at hP hD
      have hu_45 : g_45 = va_cpy f2 f4 ((nI a) : Int32).toNatClampNeg ((nI b) : Int32).toNatClampNeg ((nI n) : Int32).toNatClampNeg := hg_45.symm
      have hP : va_P (dC, dI) vwCl [(xo_5_rrr h it la le), (xJ it cJ 8 fi), (xI y0 cI 40 f0), (xI y1 cI 40 f1), (xI y2 cI 40 f2), (xI y3 cI 40 f3), (xI y4 cI 40 g_45), (xI y5 cI 40 f5), (xI y6 cI 40 f6), (xI y7 cI 40 f7)] H := hP
      have hD := dto hP hD
      have hX9 := cut2 (wc := [(xo_5_rrr h it la le), (xJ it cJ 8 fi), (xI y0 cI 40 f0), (xI y1 cI 40 f1), (xI y2 cI 40 f2), (xI y3 cI 40 f3), (xI y4 cI 40 g_45), (xI y5 cI 40 f5), (xI y6 cI 40 f6), (xI y7 cI 40 f7)]) hP hD [0, 1, 2, 3, 4, 5, 6, 7, 8, 9] (by decide +kernel) rfl
      exact W.vret hx hb hr (fun t ht hW => ⟨⟨(), rfl, trivial, ⟨f0, f1, f2, f3, g_45, f5, f6, f7, va_Ht ht hX9.1, hX9.2, (lf_X5_move_21 hfi hj hk ha hb2 hu_45)⟩⟩, hS.F ht⟩) hS.2.2 dX5_move_20
    · skip
      have hl : lv_has ls 6 [(0, .ref h), (1, .int 2), (2, .int (nI a)), (3, .int 5), (4, .int (nI b)), (5, .int (nI n))] := hl
      refine lv_aload_n hx hb dX5_move_7 rfl (lv_at hl 0 rfl) ?_
      refine va_get (D := (dC, dI)) (ci := 5) (v := .ref it) (C := RX5) (T := TX5) (N := 3) hx hb hts i_X5_move_X5 hown hK hP 0 rfl rfl 0 (by decide) (hts _ mx_X5_move_1) (fun _ h9 => h9) rfl dX5_move_8 ?_
      refine lv_iload_n hx hb dX5_move_11 rfl (lv_at hl 3 rfl) ?_
      refine nw_alk hx hb hK hP 1 3 rfl rfl 5 rfl (Nat.le_of_ble_eq_true rfl) (Nat.le_of_ble_eq_true rfl) hfi.2.2.2.2.2.1 dX5_move_12 ?_
      refine lv_iload hx hb dX5_move_13 (lv_at hl 4 rfl) ?_
      refine lv_iload hx hb dX5_move_15 (lv_at hl 5 rfl) ?_
      refine va_copyN hx hb hml hl hown (hts _ mx_X5_move_2) (hts _ mx_X5_move_3) (hts _ mx_X5_move_4) (hts _ mx_X5_move_5) hK hP hD hS 4 7 rfl rfl rfl rfl (by omega) (by omega) (Nat.le_of_ble_eq_true rfl) (Nat.le_of_ble_eq_true rfl) (Nat.le_of_ble_eq_true rfl) (Nat.le_of_ble_eq_true rfl) dX5_move_17 (fun H locs hP hD hS => ?_)
      generalize hg_47 : va_cpy f2 f5 ((nI a) : Int32).toNatClampNeg ((nI b) : Int32).toNatClampNeg ((nI n) : Int32).toNatClampNeg = g_47 at hP hD
      have hu_47 : g_47 = va_cpy f2 f5 ((nI a) : Int32).toNatClampNeg ((nI b) : Int32).toNatClampNeg ((nI n) : Int32).toNatClampNeg := hg_47.symm
      have hP : va_P (dC, dI) vwCl [(xo_5_rrr h it la le), (xJ it cJ 8 fi), (xI y0 cI 40 f0), (xI y1 cI 40 f1), (xI y2 cI 40 f2), (xI y3 cI 40 f3), (xI y4 cI 40 f4), (xI y5 cI 40 g_47), (xI y6 cI 40 f6), (xI y7 cI 40 f7)] H := hP
      have hD := dto hP hD
      have hX9 := cut2 (wc := [(xo_5_rrr h it la le), (xJ it cJ 8 fi), (xI y0 cI 40 f0), (xI y1 cI 40 f1), (xI y2 cI 40 f2), (xI y3 cI 40 f3), (xI y4 cI 40 f4), (xI y5 cI 40 g_47), (xI y6 cI 40 f6), (xI y7 cI 40 f7)]) hP hD [0, 1, 2, 3, 4, 5, 6, 7, 8, 9] (by decide +kernel) rfl
      exact W.vret hx hb hr (fun t ht hW => ⟨⟨(), rfl, trivial, ⟨f0, f1, f2, f3, f4, g_47, f6, f7, va_Ht ht hX9.1, hX9.2, (lf_X5_move_22 hfi hj hk ha hb2 hu_47)⟩⟩, hS.F ht⟩) hS.2.2 dX5_move_20
    · skip
      have hl : lv_has ls 6 [(0, .ref h), (1, .int 2), (2, .int (nI a)), (3, .int 6), (4, .int (nI b)), (5, .int (nI n))] := hl
      refine lv_aload_n hx hb dX5_move_7 rfl (lv_at hl 0 rfl) ?_
      refine va_get (D := (dC, dI)) (ci := 5) (v := .ref it) (C := RX5) (T := TX5) (N := 3) hx hb hts i_X5_move_X5 hown hK hP 0 rfl rfl 0 (by decide) (hts _ mx_X5_move_1) (fun _ h9 => h9) rfl dX5_move_8 ?_
      refine lv_iload_n hx hb dX5_move_11 rfl (lv_at hl 3 rfl) ?_
      refine nw_alk hx hb hK hP 1 3 rfl rfl 6 rfl (Nat.le_of_ble_eq_true rfl) (Nat.le_of_ble_eq_true rfl) hfi.2.2.2.2.2.2.1 dX5_move_12 ?_
      refine lv_iload hx hb dX5_move_13 (lv_at hl 4 rfl) ?_
      refine lv_iload hx hb dX5_move_15 (lv_at hl 5 rfl) ?_
      refine va_copyN hx hb hml hl hown (hts _ mx_X5_move_2) (hts _ mx_X5_move_3) (hts _ mx_X5_move_4) (hts _ mx_X5_move_5) hK hP hD hS 4 8 rfl rfl rfl rfl (by omega) (by omega) (Nat.le_of_ble_eq_true rfl) (Nat.le_of_ble_eq_true rfl) (Nat.le_of_ble_eq_true rfl) (Nat.le_of_ble_eq_true rfl) dX5_move_17 (fun H locs hP hD hS => ?_)
      generalize hg_49 : va_cpy f2 f6 ((nI a) : Int32).toNatClampNeg ((nI b) : Int32).toNatClampNeg ((nI n) : Int32).toNatClampNeg = g_49 at hP hD
      have hu_49 : g_49 = va_cpy f2 f6 ((nI a) : Int32).toNatClampNeg ((nI b) : Int32).toNatClampNeg ((nI n) : Int32).toNatClampNeg := hg_49.symm
      have hP : va_P (dC, dI) vwCl [(xo_5_rrr h it la le), (xJ it cJ 8 fi), (xI y0 cI 40 f0), (xI y1 cI 40 f1), (xI y2 cI 40 f2), (xI y3 cI 40 f3), (xI y4 cI 40 f4), (xI y5 cI 40 f5), (xI y6 cI 40 g_49), (xI y7 cI 40 f7)] H := hP
      have hD := dto hP hD
      have hX9 := cut2 (wc := [(xo_5_rrr h it la le), (xJ it cJ 8 fi), (xI y0 cI 40 f0), (xI y1 cI 40 f1), (xI y2 cI 40 f2), (xI y3 cI 40 f3), (xI y4 cI 40 f4), (xI y5 cI 40 f5), (xI y6 cI 40 g_49), (xI y7 cI 40 f7)]) hP hD [0, 1, 2, 3, 4, 5, 6, 7, 8, 9] (by decide +kernel) rfl
      exact W.vret hx hb hr (fun t ht hW => ⟨⟨(), rfl, trivial, ⟨f0, f1, f2, f3, f4, f5, g_49, f7, va_Ht ht hX9.1, hX9.2, (lf_X5_move_23 hfi hj hk ha hb2 hu_49)⟩⟩, hS.F ht⟩) hS.2.2 dX5_move_20
    · skip
      have hl : lv_has ls 6 [(0, .ref h), (1, .int 2), (2, .int (nI a)), (3, .int 7), (4, .int (nI b)), (5, .int (nI n))] := hl
      refine lv_aload_n hx hb dX5_move_7 rfl (lv_at hl 0 rfl) ?_
      refine va_get (D := (dC, dI)) (ci := 5) (v := .ref it) (C := RX5) (T := TX5) (N := 3) hx hb hts i_X5_move_X5 hown hK hP 0 rfl rfl 0 (by decide) (hts _ mx_X5_move_1) (fun _ h9 => h9) rfl dX5_move_8 ?_
      refine lv_iload_n hx hb dX5_move_11 rfl (lv_at hl 3 rfl) ?_
      refine nw_alk hx hb hK hP 1 3 rfl rfl 7 rfl (Nat.le_of_ble_eq_true rfl) (Nat.le_of_ble_eq_true rfl) hfi.2.2.2.2.2.2.2 dX5_move_12 ?_
      refine lv_iload hx hb dX5_move_13 (lv_at hl 4 rfl) ?_
      refine lv_iload hx hb dX5_move_15 (lv_at hl 5 rfl) ?_
      refine va_copyN hx hb hml hl hown (hts _ mx_X5_move_2) (hts _ mx_X5_move_3) (hts _ mx_X5_move_4) (hts _ mx_X5_move_5) hK hP hD hS 4 9 rfl rfl rfl rfl (by omega) (by omega) (Nat.le_of_ble_eq_true rfl) (Nat.le_of_ble_eq_true rfl) (Nat.le_of_ble_eq_true rfl) (Nat.le_of_ble_eq_true rfl) dX5_move_17 (fun H locs hP hD hS => ?_)
      generalize hg_51 : va_cpy f2 f7 ((nI a) : Int32).toNatClampNeg ((nI b) : Int32).toNatClampNeg ((nI n) : Int32).toNatClampNeg = g_51 at hP hD
      have hu_51 : g_51 = va_cpy f2 f7 ((nI a) : Int32).toNatClampNeg ((nI b) : Int32).toNatClampNeg ((nI n) : Int32).toNatClampNeg := hg_51.symm
      have hP : va_P (dC, dI) vwCl [(xo_5_rrr h it la le), (xJ it cJ 8 fi), (xI y0 cI 40 f0), (xI y1 cI 40 f1), (xI y2 cI 40 f2), (xI y3 cI 40 f3), (xI y4 cI 40 f4), (xI y5 cI 40 f5), (xI y6 cI 40 f6), (xI y7 cI 40 g_51)] H := hP
      have hD := dto hP hD
      have hX9 := cut2 (wc := [(xo_5_rrr h it la le), (xJ it cJ 8 fi), (xI y0 cI 40 f0), (xI y1 cI 40 f1), (xI y2 cI 40 f2), (xI y3 cI 40 f3), (xI y4 cI 40 f4), (xI y5 cI 40 f5), (xI y6 cI 40 f6), (xI y7 cI 40 g_51)]) hP hD [0, 1, 2, 3, 4, 5, 6, 7, 8, 9] (by decide +kernel) rfl
      exact W.vret hx hb hr (fun t ht hW => ⟨⟨(), rfl, trivial, ⟨f0, f1, f2, f3, f4, f5, f6, g_51, va_Ht ht hX9.1, hX9.2, (lf_X5_move_24 hfi hj hk ha hb2 hu_51)⟩⟩, hS.F ht⟩) hS.2.2 dX5_move_20
  · skip
    have hl : lv_has ls 6 [(0, .ref h), (1, .int 3), (2, .int (nI a)), (3, .int (nI k)), (4, .int (nI b)), (5, .int (nI n))] := hl
    refine lv_aload_n hx hb dX5_move_0 rfl (lv_at hl 0 rfl) ?_
    refine va_get (D := (dC, dI)) (ci := 5) (v := .ref it) (C := RX5) (T := TX5) (N := 3) hx hb hts i_X5_move_X5 hown hK hP 0 rfl rfl 0 (by decide) (hts _ mx_X5_move_1) (fun _ h9 => h9) rfl dX5_move_1 ?_
    refine lv_iload_n hx hb dX5_move_4 rfl (lv_at hl 1 rfl) ?_
    refine nw_alk hx hb hK hP 1 3 rfl rfl 3 rfl (Nat.le_of_ble_eq_true rfl) (Nat.le_of_ble_eq_true rfl) hfi.2.2.2.1 dX5_move_5 ?_
    refine lv_iload_n hx hb dX5_move_6 rfl (lv_at hl 2 rfl) ?_
    rcases (show k = 0 ∨ k = 1 ∨ k = 2 ∨ k = 3 ∨ k = 4 ∨ k = 5 ∨ k = 6 ∨ k = 7 by omega) with rfl | rfl | rfl | rfl | rfl | rfl | rfl | rfl
    · skip
      have hl : lv_has ls 6 [(0, .ref h), (1, .int 3), (2, .int (nI a)), (3, .int 0), (4, .int (nI b)), (5, .int (nI n))] := hl
      refine lv_aload_n hx hb dX5_move_7 rfl (lv_at hl 0 rfl) ?_
      refine va_get (D := (dC, dI)) (ci := 5) (v := .ref it) (C := RX5) (T := TX5) (N := 3) hx hb hts i_X5_move_X5 hown hK hP 0 rfl rfl 0 (by decide) (hts _ mx_X5_move_1) (fun _ h9 => h9) rfl dX5_move_8 ?_
      refine lv_iload_n hx hb dX5_move_11 rfl (lv_at hl 3 rfl) ?_
      refine nw_alk hx hb hK hP 1 3 rfl rfl 0 rfl (Nat.le_of_ble_eq_true rfl) (Nat.le_of_ble_eq_true rfl) hfi.1 dX5_move_12 ?_
      refine lv_iload hx hb dX5_move_13 (lv_at hl 4 rfl) ?_
      refine lv_iload hx hb dX5_move_15 (lv_at hl 5 rfl) ?_
      refine va_copyN hx hb hml hl hown (hts _ mx_X5_move_2) (hts _ mx_X5_move_3) (hts _ mx_X5_move_4) (hts _ mx_X5_move_5) hK hP hD hS 5 2 rfl rfl rfl rfl (by omega) (by omega) (Nat.le_of_ble_eq_true rfl) (Nat.le_of_ble_eq_true rfl) (Nat.le_of_ble_eq_true rfl) (Nat.le_of_ble_eq_true rfl) dX5_move_17 (fun H locs hP hD hS => ?_)
      generalize hg_54 : va_cpy f3 f0 ((nI a) : Int32).toNatClampNeg ((nI b) : Int32).toNatClampNeg ((nI n) : Int32).toNatClampNeg = g_54 at hP hD
      have hu_54 : g_54 = va_cpy f3 f0 ((nI a) : Int32).toNatClampNeg ((nI b) : Int32).toNatClampNeg ((nI n) : Int32).toNatClampNeg := hg_54.symm
      have hP : va_P (dC, dI) vwCl [(xo_5_rrr h it la le), (xJ it cJ 8 fi), (xI y0 cI 40 g_54), (xI y1 cI 40 f1), (xI y2 cI 40 f2), (xI y3 cI 40 f3), (xI y4 cI 40 f4), (xI y5 cI 40 f5), (xI y6 cI 40 f6), (xI y7 cI 40 f7)] H := hP
      have hD := dto hP hD
      have hX9 := cut2 (wc := [(xo_5_rrr h it la le), (xJ it cJ 8 fi), (xI y0 cI 40 g_54), (xI y1 cI 40 f1), (xI y2 cI 40 f2), (xI y3 cI 40 f3), (xI y4 cI 40 f4), (xI y5 cI 40 f5), (xI y6 cI 40 f6), (xI y7 cI 40 f7)]) hP hD [0, 1, 2, 3, 4, 5, 6, 7, 8, 9] (by decide +kernel) rfl
      exact W.vret hx hb hr (fun t ht hW => ⟨⟨(), rfl, trivial, ⟨g_54, f1, f2, f3, f4, f5, f6, f7, va_Ht ht hX9.1, hX9.2, (lf_X5_move_25 hfi hj hk ha hb2 hu_54)⟩⟩, hS.F ht⟩) hS.2.2 dX5_move_20
    · skip
      have hl : lv_has ls 6 [(0, .ref h), (1, .int 3), (2, .int (nI a)), (3, .int 1), (4, .int (nI b)), (5, .int (nI n))] := hl
      refine lv_aload_n hx hb dX5_move_7 rfl (lv_at hl 0 rfl) ?_
      refine va_get (D := (dC, dI)) (ci := 5) (v := .ref it) (C := RX5) (T := TX5) (N := 3) hx hb hts i_X5_move_X5 hown hK hP 0 rfl rfl 0 (by decide) (hts _ mx_X5_move_1) (fun _ h9 => h9) rfl dX5_move_8 ?_
      refine lv_iload_n hx hb dX5_move_11 rfl (lv_at hl 3 rfl) ?_
      refine nw_alk hx hb hK hP 1 3 rfl rfl 1 rfl (Nat.le_of_ble_eq_true rfl) (Nat.le_of_ble_eq_true rfl) hfi.2.1 dX5_move_12 ?_
      refine lv_iload hx hb dX5_move_13 (lv_at hl 4 rfl) ?_
      refine lv_iload hx hb dX5_move_15 (lv_at hl 5 rfl) ?_
      refine va_copyN hx hb hml hl hown (hts _ mx_X5_move_2) (hts _ mx_X5_move_3) (hts _ mx_X5_move_4) (hts _ mx_X5_move_5) hK hP hD hS 5 3 rfl rfl rfl rfl (by omega) (by omega) (Nat.le_of_ble_eq_true rfl) (Nat.le_of_ble_eq_true rfl) (Nat.le_of_ble_eq_true rfl) (Nat.le_of_ble_eq_true rfl) dX5_move_17 (fun H locs hP hD hS => ?_)
      generalize hg_56 : va_cpy f3 f1 ((nI a) : Int32).toNatClampNeg ((nI b) : Int32).toNatClampNeg ((nI n) : Int32).toNatClampNeg = g_56 at hP hD
      have hu_56 : g_56 = va_cpy f3 f1 ((nI a) : Int32).toNatClampNeg ((nI b) : Int32).toNatClampNeg ((nI n) : Int32).toNatClampNeg := hg_56.symm
      have hP : va_P (dC, dI) vwCl [(xo_5_rrr h it la le), (xJ it cJ 8 fi), (xI y0 cI 40 f0), (xI y1 cI 40 g_56), (xI y2 cI 40 f2), (xI y3 cI 40 f3), (xI y4 cI 40 f4), (xI y5 cI 40 f5), (xI y6 cI 40 f6), (xI y7 cI 40 f7)] H := hP
      have hD := dto hP hD
      have hX9 := cut2 (wc := [(xo_5_rrr h it la le), (xJ it cJ 8 fi), (xI y0 cI 40 f0), (xI y1 cI 40 g_56), (xI y2 cI 40 f2), (xI y3 cI 40 f3), (xI y4 cI 40 f4), (xI y5 cI 40 f5), (xI y6 cI 40 f6), (xI y7 cI 40 f7)]) hP hD [0, 1, 2, 3, 4, 5, 6, 7, 8, 9] (by decide +kernel) rfl
      exact W.vret hx hb hr (fun t ht hW => ⟨⟨(), rfl, trivial, ⟨f0, g_56, f2, f3, f4, f5, f6, f7, va_Ht ht hX9.1, hX9.2, (lf_X5_move_26 hfi hj hk ha hb2 hu_56)⟩⟩, hS.F ht⟩) hS.2.2 dX5_move_20
    · skip
      have hl : lv_has ls 6 [(0, .ref h), (1, .int 3), (2, .int (nI a)), (3, .int 2), (4, .int (nI b)), (5, .int (nI n))] := hl
      refine lv_aload_n hx hb dX5_move_7 rfl (lv_at hl 0 rfl) ?_
      refine va_get (D := (dC, dI)) (ci := 5) (v := .ref it) (C := RX5) (T := TX5) (N := 3) hx hb hts i_X5_move_X5 hown hK hP 0 rfl rfl 0 (by decide) (hts _ mx_X5_move_1) (fun _ h9 => h9) rfl dX5_move_8 ?_
      refine lv_iload_n hx hb dX5_move_11 rfl (lv_at hl 3 rfl) ?_
      refine nw_alk hx hb hK hP 1 3 rfl rfl 2 rfl (Nat.le_of_ble_eq_true rfl) (Nat.le_of_ble_eq_true rfl) hfi.2.2.1 dX5_move_12 ?_
      refine lv_iload hx hb dX5_move_13 (lv_at hl 4 rfl) ?_
      refine lv_iload hx hb dX5_move_15 (lv_at hl 5 rfl) ?_
      refine va_copyN hx hb hml hl hown (hts _ mx_X5_move_2) (hts _ mx_X5_move_3) (hts _ mx_X5_move_4) (hts _ mx_X5_move_5) hK hP hD hS 5 4 rfl rfl rfl rfl (by omega) (by omega) (Nat.le_of_ble_eq_true rfl) (Nat.le_of_ble_eq_true rfl) (Nat.le_of_ble_eq_true rfl) (Nat.le_of_ble_eq_true rfl) dX5_move_17 (fun H locs hP hD hS => ?_)
      generalize hg_58 : va_cpy f3 f2 ((nI a) : Int32).toNatClampNeg ((nI b) : Int32).toNatClampNeg ((nI n) : Int32).toNatClampNeg = g_58 at hP hD
      have hu_58 : g_58 = va_cpy f3 f2 ((nI a) : Int32).toNatClampNeg ((nI b) : Int32).toNatClampNeg ((nI n) : Int32).toNatClampNeg := hg_58.symm
      have hP : va_P (dC, dI) vwCl [(xo_5_rrr h it la le), (xJ it cJ 8 fi), (xI y0 cI 40 f0), (xI y1 cI 40 f1), (xI y2 cI 40 g_58), (xI y3 cI 40 f3), (xI y4 cI 40 f4), (xI y5 cI 40 f5), (xI y6 cI 40 f6), (xI y7 cI 40 f7)] H := hP
      have hD := dto hP hD
      have hX9 := cut2 (wc := [(xo_5_rrr h it la le), (xJ it cJ 8 fi), (xI y0 cI 40 f0), (xI y1 cI 40 f1), (xI y2 cI 40 g_58), (xI y3 cI 40 f3), (xI y4 cI 40 f4), (xI y5 cI 40 f5), (xI y6 cI 40 f6), (xI y7 cI 40 f7)]) hP hD [0, 1, 2, 3, 4, 5, 6, 7, 8, 9] (by decide +kernel) rfl
      exact W.vret hx hb hr (fun t ht hW => ⟨⟨(), rfl, trivial, ⟨f0, f1, g_58, f3, f4, f5, f6, f7, va_Ht ht hX9.1, hX9.2, (lf_X5_move_27 hfi hj hk ha hb2 hu_58)⟩⟩, hS.F ht⟩) hS.2.2 dX5_move_20
    · skip
      have hl : lv_has ls 6 [(0, .ref h), (1, .int 3), (2, .int (nI a)), (3, .int 3), (4, .int (nI b)), (5, .int (nI n))] := hl
      refine lv_aload_n hx hb dX5_move_7 rfl (lv_at hl 0 rfl) ?_
      refine va_get (D := (dC, dI)) (ci := 5) (v := .ref it) (C := RX5) (T := TX5) (N := 3) hx hb hts i_X5_move_X5 hown hK hP 0 rfl rfl 0 (by decide) (hts _ mx_X5_move_1) (fun _ h9 => h9) rfl dX5_move_8 ?_
      refine lv_iload_n hx hb dX5_move_11 rfl (lv_at hl 3 rfl) ?_
      refine nw_alk hx hb hK hP 1 3 rfl rfl 3 rfl (Nat.le_of_ble_eq_true rfl) (Nat.le_of_ble_eq_true rfl) hfi.2.2.2.1 dX5_move_12 ?_
      refine lv_iload hx hb dX5_move_13 (lv_at hl 4 rfl) ?_
      refine lv_iload hx hb dX5_move_15 (lv_at hl 5 rfl) ?_
      refine va_copyN hx hb hml hl hown (hts _ mx_X5_move_2) (hts _ mx_X5_move_3) (hts _ mx_X5_move_4) (hts _ mx_X5_move_5) hK hP hD hS 5 5 rfl rfl rfl rfl (by omega) (by omega) (Nat.le_of_ble_eq_true rfl) (Nat.le_of_ble_eq_true rfl) (Nat.le_of_ble_eq_true rfl) (Nat.le_of_ble_eq_true rfl) dX5_move_17 (fun H locs hP hD hS => ?_)
      generalize hg_60 : va_cpy f3 f3 ((nI a) : Int32).toNatClampNeg ((nI b) : Int32).toNatClampNeg ((nI n) : Int32).toNatClampNeg = g_60 at hP hD
      have hu_60 : g_60 = va_cpy f3 f3 ((nI a) : Int32).toNatClampNeg ((nI b) : Int32).toNatClampNeg ((nI n) : Int32).toNatClampNeg := hg_60.symm
      have hP : va_P (dC, dI) vwCl [(xo_5_rrr h it la le), (xJ it cJ 8 fi), (xI y0 cI 40 f0), (xI y1 cI 40 f1), (xI y2 cI 40 f2), (xI y3 cI 40 g_60), (xI y4 cI 40 f4), (xI y5 cI 40 f5), (xI y6 cI 40 f6), (xI y7 cI 40 f7)] H := hP
      have hD := dto hP hD
      have hX9 := cut2 (wc := [(xo_5_rrr h it la le), (xJ it cJ 8 fi), (xI y0 cI 40 f0), (xI y1 cI 40 f1), (xI y2 cI 40 f2), (xI y3 cI 40 g_60), (xI y4 cI 40 f4), (xI y5 cI 40 f5), (xI y6 cI 40 f6), (xI y7 cI 40 f7)]) hP hD [0, 1, 2, 3, 4, 5, 6, 7, 8, 9] (by decide +kernel) rfl
      exact W.vret hx hb hr (fun t ht hW => ⟨⟨(), rfl, trivial, ⟨f0, f1, f2, g_60, f4, f5, f6, f7, va_Ht ht hX9.1, hX9.2, (lf_X5_move_28 hfi hj hk ha hb2 hu_60)⟩⟩, hS.F ht⟩) hS.2.2 dX5_move_20
    · skip
      have hl : lv_has ls 6 [(0, .ref h), (1, .int 3), (2, .int (nI a)), (3, .int 4), (4, .int (nI b)), (5, .int (nI n))] := hl
      refine lv_aload_n hx hb dX5_move_7 rfl (lv_at hl 0 rfl) ?_
      refine va_get (D := (dC, dI)) (ci := 5) (v := .ref it) (C := RX5) (T := TX5) (N := 3) hx hb hts i_X5_move_X5 hown hK hP 0 rfl rfl 0 (by decide) (hts _ mx_X5_move_1) (fun _ h9 => h9) rfl dX5_move_8 ?_
      refine lv_iload_n hx hb dX5_move_11 rfl (lv_at hl 3 rfl) ?_
      refine nw_alk hx hb hK hP 1 3 rfl rfl 4 rfl (Nat.le_of_ble_eq_true rfl) (Nat.le_of_ble_eq_true rfl) hfi.2.2.2.2.1 dX5_move_12 ?_
      refine lv_iload hx hb dX5_move_13 (lv_at hl 4 rfl) ?_
      refine lv_iload hx hb dX5_move_15 (lv_at hl 5 rfl) ?_
      refine va_copyN hx hb hml hl hown (hts _ mx_X5_move_2) (hts _ mx_X5_move_3) (hts _ mx_X5_move_4) (hts _ mx_X5_move_5) hK hP hD hS 5 6 rfl rfl rfl rfl (by omega) (by omega) (Nat.le_of_ble_eq_true rfl) (Nat.le_of_ble_eq_true rfl) (Nat.le_of_ble_eq_true rfl) (Nat.le_of_ble_eq_true rfl) dX5_move_17 (fun H locs hP hD hS => ?_)
      generalize hg_62 : va_cpy f3 f4 ((nI a) : Int32).toNatClampNeg ((nI b) : Int32).toNatClampNeg ((nI n) : Int32).toNatClampNeg = g_62 at hP hD
      have hu_62 : g_62 = va_cpy f3 f4 ((nI a) : Int32).toNatClampNeg ((nI b) : Int32).toNatClampNeg ((nI n) : Int32).toNatClampNeg := hg_62.symm
      have hP : va_P (dC, dI) vwCl [(xo_5_rrr h it la le), (xJ it cJ 8 fi), (xI y0 cI 40 f0), (xI y1 cI 40 f1), (xI y2 cI 40 f2), (xI y3 cI 40 f3), (xI y4 cI 40 g_62), (xI y5 cI 40 f5), (xI y6 cI 40 f6), (xI y7 cI 40 f7)] H := hP
      have hD := dto hP hD
      have hX9 := cut2 (wc := [(xo_5_rrr h it la le), (xJ it cJ 8 fi), (xI y0 cI 40 f0), (xI y1 cI 40 f1), (xI y2 cI 40 f2), (xI y3 cI 40 f3), (xI y4 cI 40 g_62), (xI y5 cI 40 f5), (xI y6 cI 40 f6), (xI y7 cI 40 f7)]) hP hD [0, 1, 2, 3, 4, 5, 6, 7, 8, 9] (by decide +kernel) rfl
      exact W.vret hx hb hr (fun t ht hW => ⟨⟨(), rfl, trivial, ⟨f0, f1, f2, f3, g_62, f5, f6, f7, va_Ht ht hX9.1, hX9.2, (lf_X5_move_29 hfi hj hk ha hb2 hu_62)⟩⟩, hS.F ht⟩) hS.2.2 dX5_move_20
    · skip
      have hl : lv_has ls 6 [(0, .ref h), (1, .int 3), (2, .int (nI a)), (3, .int 5), (4, .int (nI b)), (5, .int (nI n))] := hl
      refine lv_aload_n hx hb dX5_move_7 rfl (lv_at hl 0 rfl) ?_
      refine va_get (D := (dC, dI)) (ci := 5) (v := .ref it) (C := RX5) (T := TX5) (N := 3) hx hb hts i_X5_move_X5 hown hK hP 0 rfl rfl 0 (by decide) (hts _ mx_X5_move_1) (fun _ h9 => h9) rfl dX5_move_8 ?_
      refine lv_iload_n hx hb dX5_move_11 rfl (lv_at hl 3 rfl) ?_
      refine nw_alk hx hb hK hP 1 3 rfl rfl 5 rfl (Nat.le_of_ble_eq_true rfl) (Nat.le_of_ble_eq_true rfl) hfi.2.2.2.2.2.1 dX5_move_12 ?_
      refine lv_iload hx hb dX5_move_13 (lv_at hl 4 rfl) ?_
      refine lv_iload hx hb dX5_move_15 (lv_at hl 5 rfl) ?_
      refine va_copyN hx hb hml hl hown (hts _ mx_X5_move_2) (hts _ mx_X5_move_3) (hts _ mx_X5_move_4) (hts _ mx_X5_move_5) hK hP hD hS 5 7 rfl rfl rfl rfl (by omega) (by omega) (Nat.le_of_ble_eq_true rfl) (Nat.le_of_ble_eq_true rfl) (Nat.le_of_ble_eq_true rfl) (Nat.le_of_ble_eq_true rfl) dX5_move_17 (fun H locs hP hD hS => ?_)
      generalize hg_64 : va_cpy f3 f5 ((nI a) : Int32).toNatClampNeg ((nI b) : Int32).toNatClampNeg ((nI n) : Int32).toNatClampNeg = g_64 at hP hD
      have hu_64 : g_64 = va_cpy f3 f5 ((nI a) : Int32).toNatClampNeg ((nI b) : Int32).toNatClampNeg ((nI n) : Int32).toNatClampNeg := hg_64.symm
      have hP : va_P (dC, dI) vwCl [(xo_5_rrr h it la le), (xJ it cJ 8 fi), (xI y0 cI 40 f0), (xI y1 cI 40 f1), (xI y2 cI 40 f2), (xI y3 cI 40 f3), (xI y4 cI 40 f4), (xI y5 cI 40 g_64), (xI y6 cI 40 f6), (xI y7 cI 40 f7)] H := hP
      have hD := dto hP hD
      have hX9 := cut2 (wc := [(xo_5_rrr h it la le), (xJ it cJ 8 fi), (xI y0 cI 40 f0), (xI y1 cI 40 f1), (xI y2 cI 40 f2), (xI y3 cI 40 f3), (xI y4 cI 40 f4), (xI y5 cI 40 g_64), (xI y6 cI 40 f6), (xI y7 cI 40 f7)]) hP hD [0, 1, 2, 3, 4, 5, 6, 7, 8, 9] (by decide +kernel) rfl
      exact W.vret hx hb hr (fun t ht hW => ⟨⟨(), rfl, trivial, ⟨f0, f1, f2, f3, f4, g_64, f6, f7, va_Ht ht hX9.1, hX9.2, (lf_X5_move_30 hfi hj hk ha hb2 hu_64)⟩⟩, hS.F ht⟩) hS.2.2 dX5_move_20
    · skip
      have hl : lv_has ls 6 [(0, .ref h), (1, .int 3), (2, .int (nI a)), (3, .int 6), (4, .int (nI b)), (5, .int (nI n))] := hl
      refine lv_aload_n hx hb dX5_move_7 rfl (lv_at hl 0 rfl) ?_
      refine va_get (D := (dC, dI)) (ci := 5) (v := .ref it) (C := RX5) (T := TX5) (N := 3) hx hb hts i_X5_move_X5 hown hK hP 0 rfl rfl 0 (by decide) (hts _ mx_X5_move_1) (fun _ h9 => h9) rfl dX5_move_8 ?_
      refine lv_iload_n hx hb dX5_move_11 rfl (lv_at hl 3 rfl) ?_
      refine nw_alk hx hb hK hP 1 3 rfl rfl 6 rfl (Nat.le_of_ble_eq_true rfl) (Nat.le_of_ble_eq_true rfl) hfi.2.2.2.2.2.2.1 dX5_move_12 ?_
      refine lv_iload hx hb dX5_move_13 (lv_at hl 4 rfl) ?_
      refine lv_iload hx hb dX5_move_15 (lv_at hl 5 rfl) ?_
      refine va_copyN hx hb hml hl hown (hts _ mx_X5_move_2) (hts _ mx_X5_move_3) (hts _ mx_X5_move_4) (hts _ mx_X5_move_5) hK hP hD hS 5 8 rfl rfl rfl rfl (by omega) (by omega) (Nat.le_of_ble_eq_true rfl) (Nat.le_of_ble_eq_true rfl) (Nat.le_of_ble_eq_true rfl) (Nat.le_of_ble_eq_true rfl) dX5_move_17 (fun H locs hP hD hS => ?_)
      generalize hg_66 : va_cpy f3 f6 ((nI a) : Int32).toNatClampNeg ((nI b) : Int32).toNatClampNeg ((nI n) : Int32).toNatClampNeg = g_66 at hP hD
      have hu_66 : g_66 = va_cpy f3 f6 ((nI a) : Int32).toNatClampNeg ((nI b) : Int32).toNatClampNeg ((nI n) : Int32).toNatClampNeg := hg_66.symm
      have hP : va_P (dC, dI) vwCl [(xo_5_rrr h it la le), (xJ it cJ 8 fi), (xI y0 cI 40 f0), (xI y1 cI 40 f1), (xI y2 cI 40 f2), (xI y3 cI 40 f3), (xI y4 cI 40 f4), (xI y5 cI 40 f5), (xI y6 cI 40 g_66), (xI y7 cI 40 f7)] H := hP
      have hD := dto hP hD
      have hX9 := cut2 (wc := [(xo_5_rrr h it la le), (xJ it cJ 8 fi), (xI y0 cI 40 f0), (xI y1 cI 40 f1), (xI y2 cI 40 f2), (xI y3 cI 40 f3), (xI y4 cI 40 f4), (xI y5 cI 40 f5), (xI y6 cI 40 g_66), (xI y7 cI 40 f7)]) hP hD [0, 1, 2, 3, 4, 5, 6, 7, 8, 9] (by decide +kernel) rfl
      exact W.vret hx hb hr (fun t ht hW => ⟨⟨(), rfl, trivial, ⟨f0, f1, f2, f3, f4, f5, g_66, f7, va_Ht ht hX9.1, hX9.2, (lf_X5_move_31 hfi hj hk ha hb2 hu_66)⟩⟩, hS.F ht⟩) hS.2.2 dX5_move_20
    · skip
      have hl : lv_has ls 6 [(0, .ref h), (1, .int 3), (2, .int (nI a)), (3, .int 7), (4, .int (nI b)), (5, .int (nI n))] := hl
      refine lv_aload_n hx hb dX5_move_7 rfl (lv_at hl 0 rfl) ?_
      refine va_get (D := (dC, dI)) (ci := 5) (v := .ref it) (C := RX5) (T := TX5) (N := 3) hx hb hts i_X5_move_X5 hown hK hP 0 rfl rfl 0 (by decide) (hts _ mx_X5_move_1) (fun _ h9 => h9) rfl dX5_move_8 ?_
      refine lv_iload_n hx hb dX5_move_11 rfl (lv_at hl 3 rfl) ?_
      refine nw_alk hx hb hK hP 1 3 rfl rfl 7 rfl (Nat.le_of_ble_eq_true rfl) (Nat.le_of_ble_eq_true rfl) hfi.2.2.2.2.2.2.2 dX5_move_12 ?_
      refine lv_iload hx hb dX5_move_13 (lv_at hl 4 rfl) ?_
      refine lv_iload hx hb dX5_move_15 (lv_at hl 5 rfl) ?_
      refine va_copyN hx hb hml hl hown (hts _ mx_X5_move_2) (hts _ mx_X5_move_3) (hts _ mx_X5_move_4) (hts _ mx_X5_move_5) hK hP hD hS 5 9 rfl rfl rfl rfl (by omega) (by omega) (Nat.le_of_ble_eq_true rfl) (Nat.le_of_ble_eq_true rfl) (Nat.le_of_ble_eq_true rfl) (Nat.le_of_ble_eq_true rfl) dX5_move_17 (fun H locs hP hD hS => ?_)
      generalize hg_68 : va_cpy f3 f7 ((nI a) : Int32).toNatClampNeg ((nI b) : Int32).toNatClampNeg ((nI n) : Int32).toNatClampNeg = g_68 at hP hD
      have hu_68 : g_68 = va_cpy f3 f7 ((nI a) : Int32).toNatClampNeg ((nI b) : Int32).toNatClampNeg ((nI n) : Int32).toNatClampNeg := hg_68.symm
      have hP : va_P (dC, dI) vwCl [(xo_5_rrr h it la le), (xJ it cJ 8 fi), (xI y0 cI 40 f0), (xI y1 cI 40 f1), (xI y2 cI 40 f2), (xI y3 cI 40 f3), (xI y4 cI 40 f4), (xI y5 cI 40 f5), (xI y6 cI 40 f6), (xI y7 cI 40 g_68)] H := hP
      have hD := dto hP hD
      have hX9 := cut2 (wc := [(xo_5_rrr h it la le), (xJ it cJ 8 fi), (xI y0 cI 40 f0), (xI y1 cI 40 f1), (xI y2 cI 40 f2), (xI y3 cI 40 f3), (xI y4 cI 40 f4), (xI y5 cI 40 f5), (xI y6 cI 40 f6), (xI y7 cI 40 g_68)]) hP hD [0, 1, 2, 3, 4, 5, 6, 7, 8, 9] (by decide +kernel) rfl
      exact W.vret hx hb hr (fun t ht hW => ⟨⟨(), rfl, trivial, ⟨f0, f1, f2, f3, f4, f5, f6, g_68, va_Ht ht hX9.1, hX9.2, (lf_X5_move_32 hfi hj hk ha hb2 hu_68)⟩⟩, hS.F ht⟩) hS.2.2 dX5_move_20
  · skip
    have hl : lv_has ls 6 [(0, .ref h), (1, .int 4), (2, .int (nI a)), (3, .int (nI k)), (4, .int (nI b)), (5, .int (nI n))] := hl
    refine lv_aload_n hx hb dX5_move_0 rfl (lv_at hl 0 rfl) ?_
    refine va_get (D := (dC, dI)) (ci := 5) (v := .ref it) (C := RX5) (T := TX5) (N := 3) hx hb hts i_X5_move_X5 hown hK hP 0 rfl rfl 0 (by decide) (hts _ mx_X5_move_1) (fun _ h9 => h9) rfl dX5_move_1 ?_
    refine lv_iload_n hx hb dX5_move_4 rfl (lv_at hl 1 rfl) ?_
    refine nw_alk hx hb hK hP 1 3 rfl rfl 4 rfl (Nat.le_of_ble_eq_true rfl) (Nat.le_of_ble_eq_true rfl) hfi.2.2.2.2.1 dX5_move_5 ?_
    refine lv_iload_n hx hb dX5_move_6 rfl (lv_at hl 2 rfl) ?_
    rcases (show k = 0 ∨ k = 1 ∨ k = 2 ∨ k = 3 ∨ k = 4 ∨ k = 5 ∨ k = 6 ∨ k = 7 by omega) with rfl | rfl | rfl | rfl | rfl | rfl | rfl | rfl
    · skip
      have hl : lv_has ls 6 [(0, .ref h), (1, .int 4), (2, .int (nI a)), (3, .int 0), (4, .int (nI b)), (5, .int (nI n))] := hl
      refine lv_aload_n hx hb dX5_move_7 rfl (lv_at hl 0 rfl) ?_
      refine va_get (D := (dC, dI)) (ci := 5) (v := .ref it) (C := RX5) (T := TX5) (N := 3) hx hb hts i_X5_move_X5 hown hK hP 0 rfl rfl 0 (by decide) (hts _ mx_X5_move_1) (fun _ h9 => h9) rfl dX5_move_8 ?_
      refine lv_iload_n hx hb dX5_move_11 rfl (lv_at hl 3 rfl) ?_
      refine nw_alk hx hb hK hP 1 3 rfl rfl 0 rfl (Nat.le_of_ble_eq_true rfl) (Nat.le_of_ble_eq_true rfl) hfi.1 dX5_move_12 ?_
      refine lv_iload hx hb dX5_move_13 (lv_at hl 4 rfl) ?_
      refine lv_iload hx hb dX5_move_15 (lv_at hl 5 rfl) ?_
      refine va_copyN hx hb hml hl hown (hts _ mx_X5_move_2) (hts _ mx_X5_move_3) (hts _ mx_X5_move_4) (hts _ mx_X5_move_5) hK hP hD hS 6 2 rfl rfl rfl rfl (by omega) (by omega) (Nat.le_of_ble_eq_true rfl) (Nat.le_of_ble_eq_true rfl) (Nat.le_of_ble_eq_true rfl) (Nat.le_of_ble_eq_true rfl) dX5_move_17 (fun H locs hP hD hS => ?_)
      generalize hg_71 : va_cpy f4 f0 ((nI a) : Int32).toNatClampNeg ((nI b) : Int32).toNatClampNeg ((nI n) : Int32).toNatClampNeg = g_71 at hP hD
      have hu_71 : g_71 = va_cpy f4 f0 ((nI a) : Int32).toNatClampNeg ((nI b) : Int32).toNatClampNeg ((nI n) : Int32).toNatClampNeg := hg_71.symm
      have hP : va_P (dC, dI) vwCl [(xo_5_rrr h it la le), (xJ it cJ 8 fi), (xI y0 cI 40 g_71), (xI y1 cI 40 f1), (xI y2 cI 40 f2), (xI y3 cI 40 f3), (xI y4 cI 40 f4), (xI y5 cI 40 f5), (xI y6 cI 40 f6), (xI y7 cI 40 f7)] H := hP
      have hD := dto hP hD
      have hX9 := cut2 (wc := [(xo_5_rrr h it la le), (xJ it cJ 8 fi), (xI y0 cI 40 g_71), (xI y1 cI 40 f1), (xI y2 cI 40 f2), (xI y3 cI 40 f3), (xI y4 cI 40 f4), (xI y5 cI 40 f5), (xI y6 cI 40 f6), (xI y7 cI 40 f7)]) hP hD [0, 1, 2, 3, 4, 5, 6, 7, 8, 9] (by decide +kernel) rfl
      exact W.vret hx hb hr (fun t ht hW => ⟨⟨(), rfl, trivial, ⟨g_71, f1, f2, f3, f4, f5, f6, f7, va_Ht ht hX9.1, hX9.2, (lf_X5_move_33 hfi hj hk ha hb2 hu_71)⟩⟩, hS.F ht⟩) hS.2.2 dX5_move_20
    · skip
      have hl : lv_has ls 6 [(0, .ref h), (1, .int 4), (2, .int (nI a)), (3, .int 1), (4, .int (nI b)), (5, .int (nI n))] := hl
      refine lv_aload_n hx hb dX5_move_7 rfl (lv_at hl 0 rfl) ?_
      refine va_get (D := (dC, dI)) (ci := 5) (v := .ref it) (C := RX5) (T := TX5) (N := 3) hx hb hts i_X5_move_X5 hown hK hP 0 rfl rfl 0 (by decide) (hts _ mx_X5_move_1) (fun _ h9 => h9) rfl dX5_move_8 ?_
      refine lv_iload_n hx hb dX5_move_11 rfl (lv_at hl 3 rfl) ?_
      refine nw_alk hx hb hK hP 1 3 rfl rfl 1 rfl (Nat.le_of_ble_eq_true rfl) (Nat.le_of_ble_eq_true rfl) hfi.2.1 dX5_move_12 ?_
      refine lv_iload hx hb dX5_move_13 (lv_at hl 4 rfl) ?_
      refine lv_iload hx hb dX5_move_15 (lv_at hl 5 rfl) ?_
      refine va_copyN hx hb hml hl hown (hts _ mx_X5_move_2) (hts _ mx_X5_move_3) (hts _ mx_X5_move_4) (hts _ mx_X5_move_5) hK hP hD hS 6 3 rfl rfl rfl rfl (by omega) (by omega) (Nat.le_of_ble_eq_true rfl) (Nat.le_of_ble_eq_true rfl) (Nat.le_of_ble_eq_true rfl) (Nat.le_of_ble_eq_true rfl) dX5_move_17 (fun H locs hP hD hS => ?_)
      generalize hg_73 : va_cpy f4 f1 ((nI a) : Int32).toNatClampNeg ((nI b) : Int32).toNatClampNeg ((nI n) : Int32).toNatClampNeg = g_73 at hP hD
      have hu_73 : g_73 = va_cpy f4 f1 ((nI a) : Int32).toNatClampNeg ((nI b) : Int32).toNatClampNeg ((nI n) : Int32).toNatClampNeg := hg_73.symm
      have hP : va_P (dC, dI) vwCl [(xo_5_rrr h it la le), (xJ it cJ 8 fi), (xI y0 cI 40 f0), (xI y1 cI 40 g_73), (xI y2 cI 40 f2), (xI y3 cI 40 f3), (xI y4 cI 40 f4), (xI y5 cI 40 f5), (xI y6 cI 40 f6), (xI y7 cI 40 f7)] H := hP
      have hD := dto hP hD
      have hX9 := cut2 (wc := [(xo_5_rrr h it la le), (xJ it cJ 8 fi), (xI y0 cI 40 f0), (xI y1 cI 40 g_73), (xI y2 cI 40 f2), (xI y3 cI 40 f3), (xI y4 cI 40 f4), (xI y5 cI 40 f5), (xI y6 cI 40 f6), (xI y7 cI 40 f7)]) hP hD [0, 1, 2, 3, 4, 5, 6, 7, 8, 9] (by decide +kernel) rfl
      exact W.vret hx hb hr (fun t ht hW => ⟨⟨(), rfl, trivial, ⟨f0, g_73, f2, f3, f4, f5, f6, f7, va_Ht ht hX9.1, hX9.2, (lf_X5_move_34 hfi hj hk ha hb2 hu_73)⟩⟩, hS.F ht⟩) hS.2.2 dX5_move_20
    · skip
      have hl : lv_has ls 6 [(0, .ref h), (1, .int 4), (2, .int (nI a)), (3, .int 2), (4, .int (nI b)), (5, .int (nI n))] := hl
      refine lv_aload_n hx hb dX5_move_7 rfl (lv_at hl 0 rfl) ?_
      refine va_get (D := (dC, dI)) (ci := 5) (v := .ref it) (C := RX5) (T := TX5) (N := 3) hx hb hts i_X5_move_X5 hown hK hP 0 rfl rfl 0 (by decide) (hts _ mx_X5_move_1) (fun _ h9 => h9) rfl dX5_move_8 ?_
      refine lv_iload_n hx hb dX5_move_11 rfl (lv_at hl 3 rfl) ?_
      refine nw_alk hx hb hK hP 1 3 rfl rfl 2 rfl (Nat.le_of_ble_eq_true rfl) (Nat.le_of_ble_eq_true rfl) hfi.2.2.1 dX5_move_12 ?_
      refine lv_iload hx hb dX5_move_13 (lv_at hl 4 rfl) ?_
      refine lv_iload hx hb dX5_move_15 (lv_at hl 5 rfl) ?_
      refine va_copyN hx hb hml hl hown (hts _ mx_X5_move_2) (hts _ mx_X5_move_3) (hts _ mx_X5_move_4) (hts _ mx_X5_move_5) hK hP hD hS 6 4 rfl rfl rfl rfl (by omega) (by omega) (Nat.le_of_ble_eq_true rfl) (Nat.le_of_ble_eq_true rfl) (Nat.le_of_ble_eq_true rfl) (Nat.le_of_ble_eq_true rfl) dX5_move_17 (fun H locs hP hD hS => ?_)
      generalize hg_75 : va_cpy f4 f2 ((nI a) : Int32).toNatClampNeg ((nI b) : Int32).toNatClampNeg ((nI n) : Int32).toNatClampNeg = g_75 at hP hD
      have hu_75 : g_75 = va_cpy f4 f2 ((nI a) : Int32).toNatClampNeg ((nI b) : Int32).toNatClampNeg ((nI n) : Int32).toNatClampNeg := hg_75.symm
      have hP : va_P (dC, dI) vwCl [(xo_5_rrr h it la le), (xJ it cJ 8 fi), (xI y0 cI 40 f0), (xI y1 cI 40 f1), (xI y2 cI 40 g_75), (xI y3 cI 40 f3), (xI y4 cI 40 f4), (xI y5 cI 40 f5), (xI y6 cI 40 f6), (xI y7 cI 40 f7)] H := hP
      have hD := dto hP hD
      have hX9 := cut2 (wc := [(xo_5_rrr h it la le), (xJ it cJ 8 fi), (xI y0 cI 40 f0), (xI y1 cI 40 f1), (xI y2 cI 40 g_75), (xI y3 cI 40 f3), (xI y4 cI 40 f4), (xI y5 cI 40 f5), (xI y6 cI 40 f6), (xI y7 cI 40 f7)]) hP hD [0, 1, 2, 3, 4, 5, 6, 7, 8, 9] (by decide +kernel) rfl
      exact W.vret hx hb hr (fun t ht hW => ⟨⟨(), rfl, trivial, ⟨f0, f1, g_75, f3, f4, f5, f6, f7, va_Ht ht hX9.1, hX9.2, (lf_X5_move_35 hfi hj hk ha hb2 hu_75)⟩⟩, hS.F ht⟩) hS.2.2 dX5_move_20
    · skip
      have hl : lv_has ls 6 [(0, .ref h), (1, .int 4), (2, .int (nI a)), (3, .int 3), (4, .int (nI b)), (5, .int (nI n))] := hl
      refine lv_aload_n hx hb dX5_move_7 rfl (lv_at hl 0 rfl) ?_
      refine va_get (D := (dC, dI)) (ci := 5) (v := .ref it) (C := RX5) (T := TX5) (N := 3) hx hb hts i_X5_move_X5 hown hK hP 0 rfl rfl 0 (by decide) (hts _ mx_X5_move_1) (fun _ h9 => h9) rfl dX5_move_8 ?_
      refine lv_iload_n hx hb dX5_move_11 rfl (lv_at hl 3 rfl) ?_
      refine nw_alk hx hb hK hP 1 3 rfl rfl 3 rfl (Nat.le_of_ble_eq_true rfl) (Nat.le_of_ble_eq_true rfl) hfi.2.2.2.1 dX5_move_12 ?_
      refine lv_iload hx hb dX5_move_13 (lv_at hl 4 rfl) ?_
      refine lv_iload hx hb dX5_move_15 (lv_at hl 5 rfl) ?_
      refine va_copyN hx hb hml hl hown (hts _ mx_X5_move_2) (hts _ mx_X5_move_3) (hts _ mx_X5_move_4) (hts _ mx_X5_move_5) hK hP hD hS 6 5 rfl rfl rfl rfl (by omega) (by omega) (Nat.le_of_ble_eq_true rfl) (Nat.le_of_ble_eq_true rfl) (Nat.le_of_ble_eq_true rfl) (Nat.le_of_ble_eq_true rfl) dX5_move_17 (fun H locs hP hD hS => ?_)
      generalize hg_77 : va_cpy f4 f3 ((nI a) : Int32).toNatClampNeg ((nI b) : Int32).toNatClampNeg ((nI n) : Int32).toNatClampNeg = g_77 at hP hD
      have hu_77 : g_77 = va_cpy f4 f3 ((nI a) : Int32).toNatClampNeg ((nI b) : Int32).toNatClampNeg ((nI n) : Int32).toNatClampNeg := hg_77.symm
      have hP : va_P (dC, dI) vwCl [(xo_5_rrr h it la le), (xJ it cJ 8 fi), (xI y0 cI 40 f0), (xI y1 cI 40 f1), (xI y2 cI 40 f2), (xI y3 cI 40 g_77), (xI y4 cI 40 f4), (xI y5 cI 40 f5), (xI y6 cI 40 f6), (xI y7 cI 40 f7)] H := hP
      have hD := dto hP hD
      have hX9 := cut2 (wc := [(xo_5_rrr h it la le), (xJ it cJ 8 fi), (xI y0 cI 40 f0), (xI y1 cI 40 f1), (xI y2 cI 40 f2), (xI y3 cI 40 g_77), (xI y4 cI 40 f4), (xI y5 cI 40 f5), (xI y6 cI 40 f6), (xI y7 cI 40 f7)]) hP hD [0, 1, 2, 3, 4, 5, 6, 7, 8, 9] (by decide +kernel) rfl
      exact W.vret hx hb hr (fun t ht hW => ⟨⟨(), rfl, trivial, ⟨f0, f1, f2, g_77, f4, f5, f6, f7, va_Ht ht hX9.1, hX9.2, (lf_X5_move_36 hfi hj hk ha hb2 hu_77)⟩⟩, hS.F ht⟩) hS.2.2 dX5_move_20
    · skip
      have hl : lv_has ls 6 [(0, .ref h), (1, .int 4), (2, .int (nI a)), (3, .int 4), (4, .int (nI b)), (5, .int (nI n))] := hl
      refine lv_aload_n hx hb dX5_move_7 rfl (lv_at hl 0 rfl) ?_
      refine va_get (D := (dC, dI)) (ci := 5) (v := .ref it) (C := RX5) (T := TX5) (N := 3) hx hb hts i_X5_move_X5 hown hK hP 0 rfl rfl 0 (by decide) (hts _ mx_X5_move_1) (fun _ h9 => h9) rfl dX5_move_8 ?_
      refine lv_iload_n hx hb dX5_move_11 rfl (lv_at hl 3 rfl) ?_
      refine nw_alk hx hb hK hP 1 3 rfl rfl 4 rfl (Nat.le_of_ble_eq_true rfl) (Nat.le_of_ble_eq_true rfl) hfi.2.2.2.2.1 dX5_move_12 ?_
      refine lv_iload hx hb dX5_move_13 (lv_at hl 4 rfl) ?_
      refine lv_iload hx hb dX5_move_15 (lv_at hl 5 rfl) ?_
      refine va_copyN hx hb hml hl hown (hts _ mx_X5_move_2) (hts _ mx_X5_move_3) (hts _ mx_X5_move_4) (hts _ mx_X5_move_5) hK hP hD hS 6 6 rfl rfl rfl rfl (by omega) (by omega) (Nat.le_of_ble_eq_true rfl) (Nat.le_of_ble_eq_true rfl) (Nat.le_of_ble_eq_true rfl) (Nat.le_of_ble_eq_true rfl) dX5_move_17 (fun H locs hP hD hS => ?_)
      generalize hg_79 : va_cpy f4 f4 ((nI a) : Int32).toNatClampNeg ((nI b) : Int32).toNatClampNeg ((nI n) : Int32).toNatClampNeg = g_79 at hP hD
      have hu_79 : g_79 = va_cpy f4 f4 ((nI a) : Int32).toNatClampNeg ((nI b) : Int32).toNatClampNeg ((nI n) : Int32).toNatClampNeg := hg_79.symm
      have hP : va_P (dC, dI) vwCl [(xo_5_rrr h it la le), (xJ it cJ 8 fi), (xI y0 cI 40 f0), (xI y1 cI 40 f1), (xI y2 cI 40 f2), (xI y3 cI 40 f3), (xI y4 cI 40 g_79), (xI y5 cI 40 f5), (xI y6 cI 40 f6), (xI y7 cI 40 f7)] H := hP
      have hD := dto hP hD
      have hX9 := cut2 (wc := [(xo_5_rrr h it la le), (xJ it cJ 8 fi), (xI y0 cI 40 f0), (xI y1 cI 40 f1), (xI y2 cI 40 f2), (xI y3 cI 40 f3), (xI y4 cI 40 g_79), (xI y5 cI 40 f5), (xI y6 cI 40 f6), (xI y7 cI 40 f7)]) hP hD [0, 1, 2, 3, 4, 5, 6, 7, 8, 9] (by decide +kernel) rfl
      exact W.vret hx hb hr (fun t ht hW => ⟨⟨(), rfl, trivial, ⟨f0, f1, f2, f3, g_79, f5, f6, f7, va_Ht ht hX9.1, hX9.2, (lf_X5_move_37 hfi hj hk ha hb2 hu_79)⟩⟩, hS.F ht⟩) hS.2.2 dX5_move_20
    · skip
      have hl : lv_has ls 6 [(0, .ref h), (1, .int 4), (2, .int (nI a)), (3, .int 5), (4, .int (nI b)), (5, .int (nI n))] := hl
      refine lv_aload_n hx hb dX5_move_7 rfl (lv_at hl 0 rfl) ?_
      refine va_get (D := (dC, dI)) (ci := 5) (v := .ref it) (C := RX5) (T := TX5) (N := 3) hx hb hts i_X5_move_X5 hown hK hP 0 rfl rfl 0 (by decide) (hts _ mx_X5_move_1) (fun _ h9 => h9) rfl dX5_move_8 ?_
      refine lv_iload_n hx hb dX5_move_11 rfl (lv_at hl 3 rfl) ?_
      refine nw_alk hx hb hK hP 1 3 rfl rfl 5 rfl (Nat.le_of_ble_eq_true rfl) (Nat.le_of_ble_eq_true rfl) hfi.2.2.2.2.2.1 dX5_move_12 ?_
      refine lv_iload hx hb dX5_move_13 (lv_at hl 4 rfl) ?_
      refine lv_iload hx hb dX5_move_15 (lv_at hl 5 rfl) ?_
      refine va_copyN hx hb hml hl hown (hts _ mx_X5_move_2) (hts _ mx_X5_move_3) (hts _ mx_X5_move_4) (hts _ mx_X5_move_5) hK hP hD hS 6 7 rfl rfl rfl rfl (by omega) (by omega) (Nat.le_of_ble_eq_true rfl) (Nat.le_of_ble_eq_true rfl) (Nat.le_of_ble_eq_true rfl) (Nat.le_of_ble_eq_true rfl) dX5_move_17 (fun H locs hP hD hS => ?_)
      generalize hg_81 : va_cpy f4 f5 ((nI a) : Int32).toNatClampNeg ((nI b) : Int32).toNatClampNeg ((nI n) : Int32).toNatClampNeg = g_81 at hP hD
      have hu_81 : g_81 = va_cpy f4 f5 ((nI a) : Int32).toNatClampNeg ((nI b) : Int32).toNatClampNeg ((nI n) : Int32).toNatClampNeg := hg_81.symm
      have hP : va_P (dC, dI) vwCl [(xo_5_rrr h it la le), (xJ it cJ 8 fi), (xI y0 cI 40 f0), (xI y1 cI 40 f1), (xI y2 cI 40 f2), (xI y3 cI 40 f3), (xI y4 cI 40 f4), (xI y5 cI 40 g_81), (xI y6 cI 40 f6), (xI y7 cI 40 f7)] H := hP
      have hD := dto hP hD
      have hX9 := cut2 (wc := [(xo_5_rrr h it la le), (xJ it cJ 8 fi), (xI y0 cI 40 f0), (xI y1 cI 40 f1), (xI y2 cI 40 f2), (xI y3 cI 40 f3), (xI y4 cI 40 f4), (xI y5 cI 40 g_81), (xI y6 cI 40 f6), (xI y7 cI 40 f7)]) hP hD [0, 1, 2, 3, 4, 5, 6, 7, 8, 9] (by decide +kernel) rfl
      exact W.vret hx hb hr (fun t ht hW => ⟨⟨(), rfl, trivial, ⟨f0, f1, f2, f3, f4, g_81, f6, f7, va_Ht ht hX9.1, hX9.2, (lf_X5_move_38 hfi hj hk ha hb2 hu_81)⟩⟩, hS.F ht⟩) hS.2.2 dX5_move_20
    · skip
      have hl : lv_has ls 6 [(0, .ref h), (1, .int 4), (2, .int (nI a)), (3, .int 6), (4, .int (nI b)), (5, .int (nI n))] := hl
      refine lv_aload_n hx hb dX5_move_7 rfl (lv_at hl 0 rfl) ?_
      refine va_get (D := (dC, dI)) (ci := 5) (v := .ref it) (C := RX5) (T := TX5) (N := 3) hx hb hts i_X5_move_X5 hown hK hP 0 rfl rfl 0 (by decide) (hts _ mx_X5_move_1) (fun _ h9 => h9) rfl dX5_move_8 ?_
      refine lv_iload_n hx hb dX5_move_11 rfl (lv_at hl 3 rfl) ?_
      refine nw_alk hx hb hK hP 1 3 rfl rfl 6 rfl (Nat.le_of_ble_eq_true rfl) (Nat.le_of_ble_eq_true rfl) hfi.2.2.2.2.2.2.1 dX5_move_12 ?_
      refine lv_iload hx hb dX5_move_13 (lv_at hl 4 rfl) ?_
      refine lv_iload hx hb dX5_move_15 (lv_at hl 5 rfl) ?_
      refine va_copyN hx hb hml hl hown (hts _ mx_X5_move_2) (hts _ mx_X5_move_3) (hts _ mx_X5_move_4) (hts _ mx_X5_move_5) hK hP hD hS 6 8 rfl rfl rfl rfl (by omega) (by omega) (Nat.le_of_ble_eq_true rfl) (Nat.le_of_ble_eq_true rfl) (Nat.le_of_ble_eq_true rfl) (Nat.le_of_ble_eq_true rfl) dX5_move_17 (fun H locs hP hD hS => ?_)
      generalize hg_83 : va_cpy f4 f6 ((nI a) : Int32).toNatClampNeg ((nI b) : Int32).toNatClampNeg ((nI n) : Int32).toNatClampNeg = g_83 at hP hD
      have hu_83 : g_83 = va_cpy f4 f6 ((nI a) : Int32).toNatClampNeg ((nI b) : Int32).toNatClampNeg ((nI n) : Int32).toNatClampNeg := hg_83.symm
      have hP : va_P (dC, dI) vwCl [(xo_5_rrr h it la le), (xJ it cJ 8 fi), (xI y0 cI 40 f0), (xI y1 cI 40 f1), (xI y2 cI 40 f2), (xI y3 cI 40 f3), (xI y4 cI 40 f4), (xI y5 cI 40 f5), (xI y6 cI 40 g_83), (xI y7 cI 40 f7)] H := hP
      have hD := dto hP hD
      have hX9 := cut2 (wc := [(xo_5_rrr h it la le), (xJ it cJ 8 fi), (xI y0 cI 40 f0), (xI y1 cI 40 f1), (xI y2 cI 40 f2), (xI y3 cI 40 f3), (xI y4 cI 40 f4), (xI y5 cI 40 f5), (xI y6 cI 40 g_83), (xI y7 cI 40 f7)]) hP hD [0, 1, 2, 3, 4, 5, 6, 7, 8, 9] (by decide +kernel) rfl
      exact W.vret hx hb hr (fun t ht hW => ⟨⟨(), rfl, trivial, ⟨f0, f1, f2, f3, f4, f5, g_83, f7, va_Ht ht hX9.1, hX9.2, (lf_X5_move_39 hfi hj hk ha hb2 hu_83)⟩⟩, hS.F ht⟩) hS.2.2 dX5_move_20
    · skip
      have hl : lv_has ls 6 [(0, .ref h), (1, .int 4), (2, .int (nI a)), (3, .int 7), (4, .int (nI b)), (5, .int (nI n))] := hl
      refine lv_aload_n hx hb dX5_move_7 rfl (lv_at hl 0 rfl) ?_
      refine va_get (D := (dC, dI)) (ci := 5) (v := .ref it) (C := RX5) (T := TX5) (N := 3) hx hb hts i_X5_move_X5 hown hK hP 0 rfl rfl 0 (by decide) (hts _ mx_X5_move_1) (fun _ h9 => h9) rfl dX5_move_8 ?_
      refine lv_iload_n hx hb dX5_move_11 rfl (lv_at hl 3 rfl) ?_
      refine nw_alk hx hb hK hP 1 3 rfl rfl 7 rfl (Nat.le_of_ble_eq_true rfl) (Nat.le_of_ble_eq_true rfl) hfi.2.2.2.2.2.2.2 dX5_move_12 ?_
      refine lv_iload hx hb dX5_move_13 (lv_at hl 4 rfl) ?_
      refine lv_iload hx hb dX5_move_15 (lv_at hl 5 rfl) ?_
      refine va_copyN hx hb hml hl hown (hts _ mx_X5_move_2) (hts _ mx_X5_move_3) (hts _ mx_X5_move_4) (hts _ mx_X5_move_5) hK hP hD hS 6 9 rfl rfl rfl rfl (by omega) (by omega) (Nat.le_of_ble_eq_true rfl) (Nat.le_of_ble_eq_true rfl) (Nat.le_of_ble_eq_true rfl) (Nat.le_of_ble_eq_true rfl) dX5_move_17 (fun H locs hP hD hS => ?_)
      generalize hg_85 : va_cpy f4 f7 ((nI a) : Int32).toNatClampNeg ((nI b) : Int32).toNatClampNeg ((nI n) : Int32).toNatClampNeg = g_85 at hP hD
      have hu_85 : g_85 = va_cpy f4 f7 ((nI a) : Int32).toNatClampNeg ((nI b) : Int32).toNatClampNeg ((nI n) : Int32).toNatClampNeg := hg_85.symm
      have hP : va_P (dC, dI) vwCl [(xo_5_rrr h it la le), (xJ it cJ 8 fi), (xI y0 cI 40 f0), (xI y1 cI 40 f1), (xI y2 cI 40 f2), (xI y3 cI 40 f3), (xI y4 cI 40 f4), (xI y5 cI 40 f5), (xI y6 cI 40 f6), (xI y7 cI 40 g_85)] H := hP
      have hD := dto hP hD
      have hX9 := cut2 (wc := [(xo_5_rrr h it la le), (xJ it cJ 8 fi), (xI y0 cI 40 f0), (xI y1 cI 40 f1), (xI y2 cI 40 f2), (xI y3 cI 40 f3), (xI y4 cI 40 f4), (xI y5 cI 40 f5), (xI y6 cI 40 f6), (xI y7 cI 40 g_85)]) hP hD [0, 1, 2, 3, 4, 5, 6, 7, 8, 9] (by decide +kernel) rfl
      exact W.vret hx hb hr (fun t ht hW => ⟨⟨(), rfl, trivial, ⟨f0, f1, f2, f3, f4, f5, f6, g_85, va_Ht ht hX9.1, hX9.2, (lf_X5_move_40 hfi hj hk ha hb2 hu_85)⟩⟩, hS.F ht⟩) hS.2.2 dX5_move_20
  · skip
    have hl : lv_has ls 6 [(0, .ref h), (1, .int 5), (2, .int (nI a)), (3, .int (nI k)), (4, .int (nI b)), (5, .int (nI n))] := hl
    refine lv_aload_n hx hb dX5_move_0 rfl (lv_at hl 0 rfl) ?_
    refine va_get (D := (dC, dI)) (ci := 5) (v := .ref it) (C := RX5) (T := TX5) (N := 3) hx hb hts i_X5_move_X5 hown hK hP 0 rfl rfl 0 (by decide) (hts _ mx_X5_move_1) (fun _ h9 => h9) rfl dX5_move_1 ?_
    refine lv_iload_n hx hb dX5_move_4 rfl (lv_at hl 1 rfl) ?_
    refine nw_alk hx hb hK hP 1 3 rfl rfl 5 rfl (Nat.le_of_ble_eq_true rfl) (Nat.le_of_ble_eq_true rfl) hfi.2.2.2.2.2.1 dX5_move_5 ?_
    refine lv_iload_n hx hb dX5_move_6 rfl (lv_at hl 2 rfl) ?_
    rcases (show k = 0 ∨ k = 1 ∨ k = 2 ∨ k = 3 ∨ k = 4 ∨ k = 5 ∨ k = 6 ∨ k = 7 by omega) with rfl | rfl | rfl | rfl | rfl | rfl | rfl | rfl
    · skip
      have hl : lv_has ls 6 [(0, .ref h), (1, .int 5), (2, .int (nI a)), (3, .int 0), (4, .int (nI b)), (5, .int (nI n))] := hl
      refine lv_aload_n hx hb dX5_move_7 rfl (lv_at hl 0 rfl) ?_
      refine va_get (D := (dC, dI)) (ci := 5) (v := .ref it) (C := RX5) (T := TX5) (N := 3) hx hb hts i_X5_move_X5 hown hK hP 0 rfl rfl 0 (by decide) (hts _ mx_X5_move_1) (fun _ h9 => h9) rfl dX5_move_8 ?_
      refine lv_iload_n hx hb dX5_move_11 rfl (lv_at hl 3 rfl) ?_
      refine nw_alk hx hb hK hP 1 3 rfl rfl 0 rfl (Nat.le_of_ble_eq_true rfl) (Nat.le_of_ble_eq_true rfl) hfi.1 dX5_move_12 ?_
      refine lv_iload hx hb dX5_move_13 (lv_at hl 4 rfl) ?_
      refine lv_iload hx hb dX5_move_15 (lv_at hl 5 rfl) ?_
      refine va_copyN hx hb hml hl hown (hts _ mx_X5_move_2) (hts _ mx_X5_move_3) (hts _ mx_X5_move_4) (hts _ mx_X5_move_5) hK hP hD hS 7 2 rfl rfl rfl rfl (by omega) (by omega) (Nat.le_of_ble_eq_true rfl) (Nat.le_of_ble_eq_true rfl) (Nat.le_of_ble_eq_true rfl) (Nat.le_of_ble_eq_true rfl) dX5_move_17 (fun H locs hP hD hS => ?_)
      generalize hg_88 : va_cpy f5 f0 ((nI a) : Int32).toNatClampNeg ((nI b) : Int32).toNatClampNeg ((nI n) : Int32).toNatClampNeg = g_88 at hP hD
      have hu_88 : g_88 = va_cpy f5 f0 ((nI a) : Int32).toNatClampNeg ((nI b) : Int32).toNatClampNeg ((nI n) : Int32).toNatClampNeg := hg_88.symm
      have hP : va_P (dC, dI) vwCl [(xo_5_rrr h it la le), (xJ it cJ 8 fi), (xI y0 cI 40 g_88), (xI y1 cI 40 f1), (xI y2 cI 40 f2), (xI y3 cI 40 f3), (xI y4 cI 40 f4), (xI y5 cI 40 f5), (xI y6 cI 40 f6), (xI y7 cI 40 f7)] H := hP
      have hD := dto hP hD
      have hX9 := cut2 (wc := [(xo_5_rrr h it la le), (xJ it cJ 8 fi), (xI y0 cI 40 g_88), (xI y1 cI 40 f1), (xI y2 cI 40 f2), (xI y3 cI 40 f3), (xI y4 cI 40 f4), (xI y5 cI 40 f5), (xI y6 cI 40 f6), (xI y7 cI 40 f7)]) hP hD [0, 1, 2, 3, 4, 5, 6, 7, 8, 9] (by decide +kernel) rfl
      exact W.vret hx hb hr (fun t ht hW => ⟨⟨(), rfl, trivial, ⟨g_88, f1, f2, f3, f4, f5, f6, f7, va_Ht ht hX9.1, hX9.2, (lf_X5_move_41 hfi hj hk ha hb2 hu_88)⟩⟩, hS.F ht⟩) hS.2.2 dX5_move_20
    · skip
      have hl : lv_has ls 6 [(0, .ref h), (1, .int 5), (2, .int (nI a)), (3, .int 1), (4, .int (nI b)), (5, .int (nI n))] := hl
      refine lv_aload_n hx hb dX5_move_7 rfl (lv_at hl 0 rfl) ?_
      refine va_get (D := (dC, dI)) (ci := 5) (v := .ref it) (C := RX5) (T := TX5) (N := 3) hx hb hts i_X5_move_X5 hown hK hP 0 rfl rfl 0 (by decide) (hts _ mx_X5_move_1) (fun _ h9 => h9) rfl dX5_move_8 ?_
      refine lv_iload_n hx hb dX5_move_11 rfl (lv_at hl 3 rfl) ?_
      refine nw_alk hx hb hK hP 1 3 rfl rfl 1 rfl (Nat.le_of_ble_eq_true rfl) (Nat.le_of_ble_eq_true rfl) hfi.2.1 dX5_move_12 ?_
      refine lv_iload hx hb dX5_move_13 (lv_at hl 4 rfl) ?_
      refine lv_iload hx hb dX5_move_15 (lv_at hl 5 rfl) ?_
      refine va_copyN hx hb hml hl hown (hts _ mx_X5_move_2) (hts _ mx_X5_move_3) (hts _ mx_X5_move_4) (hts _ mx_X5_move_5) hK hP hD hS 7 3 rfl rfl rfl rfl (by omega) (by omega) (Nat.le_of_ble_eq_true rfl) (Nat.le_of_ble_eq_true rfl) (Nat.le_of_ble_eq_true rfl) (Nat.le_of_ble_eq_true rfl) dX5_move_17 (fun H locs hP hD hS => ?_)
      generalize hg_90 : va_cpy f5 f1 ((nI a) : Int32).toNatClampNeg ((nI b) : Int32).toNatClampNeg ((nI n) : Int32).toNatClampNeg = g_90 at hP hD
      have hu_90 : g_90 = va_cpy f5 f1 ((nI a) : Int32).toNatClampNeg ((nI b) : Int32).toNatClampNeg ((nI n) : Int32).toNatClampNeg := hg_90.symm
      have hP : va_P (dC, dI) vwCl [(xo_5_rrr h it la le), (xJ it cJ 8 fi), (xI y0 cI 40 f0), (xI y1 cI 40 g_90), (xI y2 cI 40 f2), (xI y3 cI 40 f3), (xI y4 cI 40 f4), (xI y5 cI 40 f5), (xI y6 cI 40 f6), (xI y7 cI 40 f7)] H := hP
      have hD := dto hP hD
      have hX9 := cut2 (wc := [(xo_5_rrr h it la le), (xJ it cJ 8 fi), (xI y0 cI 40 f0), (xI y1 cI 40 g_90), (xI y2 cI 40 f2), (xI y3 cI 40 f3), (xI y4 cI 40 f4), (xI y5 cI 40 f5), (xI y6 cI 40 f6), (xI y7 cI 40 f7)]) hP hD [0, 1, 2, 3, 4, 5, 6, 7, 8, 9] (by decide +kernel) rfl
      exact W.vret hx hb hr (fun t ht hW => ⟨⟨(), rfl, trivial, ⟨f0, g_90, f2, f3, f4, f5, f6, f7, va_Ht ht hX9.1, hX9.2, (lf_X5_move_42 hfi hj hk ha hb2 hu_90)⟩⟩, hS.F ht⟩) hS.2.2 dX5_move_20
    · skip
      have hl : lv_has ls 6 [(0, .ref h), (1, .int 5), (2, .int (nI a)), (3, .int 2), (4, .int (nI b)), (5, .int (nI n))] := hl
      refine lv_aload_n hx hb dX5_move_7 rfl (lv_at hl 0 rfl) ?_
      refine va_get (D := (dC, dI)) (ci := 5) (v := .ref it) (C := RX5) (T := TX5) (N := 3) hx hb hts i_X5_move_X5 hown hK hP 0 rfl rfl 0 (by decide) (hts _ mx_X5_move_1) (fun _ h9 => h9) rfl dX5_move_8 ?_
      refine lv_iload_n hx hb dX5_move_11 rfl (lv_at hl 3 rfl) ?_
      refine nw_alk hx hb hK hP 1 3 rfl rfl 2 rfl (Nat.le_of_ble_eq_true rfl) (Nat.le_of_ble_eq_true rfl) hfi.2.2.1 dX5_move_12 ?_
      refine lv_iload hx hb dX5_move_13 (lv_at hl 4 rfl) ?_
      refine lv_iload hx hb dX5_move_15 (lv_at hl 5 rfl) ?_
      refine va_copyN hx hb hml hl hown (hts _ mx_X5_move_2) (hts _ mx_X5_move_3) (hts _ mx_X5_move_4) (hts _ mx_X5_move_5) hK hP hD hS 7 4 rfl rfl rfl rfl (by omega) (by omega) (Nat.le_of_ble_eq_true rfl) (Nat.le_of_ble_eq_true rfl) (Nat.le_of_ble_eq_true rfl) (Nat.le_of_ble_eq_true rfl) dX5_move_17 (fun H locs hP hD hS => ?_)
      generalize hg_92 : va_cpy f5 f2 ((nI a) : Int32).toNatClampNeg ((nI b) : Int32).toNatClampNeg ((nI n) : Int32).toNatClampNeg = g_92 at hP hD
      have hu_92 : g_92 = va_cpy f5 f2 ((nI a) : Int32).toNatClampNeg ((nI b) : Int32).toNatClampNeg ((nI n) : Int32).toNatClampNeg := hg_92.symm
      have hP : va_P (dC, dI) vwCl [(xo_5_rrr h it la le), (xJ it cJ 8 fi), (xI y0 cI 40 f0), (xI y1 cI 40 f1), (xI y2 cI 40 g_92), (xI y3 cI 40 f3), (xI y4 cI 40 f4), (xI y5 cI 40 f5), (xI y6 cI 40 f6), (xI y7 cI 40 f7)] H := hP
      have hD := dto hP hD
      have hX9 := cut2 (wc := [(xo_5_rrr h it la le), (xJ it cJ 8 fi), (xI y0 cI 40 f0), (xI y1 cI 40 f1), (xI y2 cI 40 g_92), (xI y3 cI 40 f3), (xI y4 cI 40 f4), (xI y5 cI 40 f5), (xI y6 cI 40 f6), (xI y7 cI 40 f7)]) hP hD [0, 1, 2, 3, 4, 5, 6, 7, 8, 9] (by decide +kernel) rfl
      exact W.vret hx hb hr (fun t ht hW => ⟨⟨(), rfl, trivial, ⟨f0, f1, g_92, f3, f4, f5, f6, f7, va_Ht ht hX9.1, hX9.2, (lf_X5_move_43 hfi hj hk ha hb2 hu_92)⟩⟩, hS.F ht⟩) hS.2.2 dX5_move_20
    · skip
      have hl : lv_has ls 6 [(0, .ref h), (1, .int 5), (2, .int (nI a)), (3, .int 3), (4, .int (nI b)), (5, .int (nI n))] := hl
      refine lv_aload_n hx hb dX5_move_7 rfl (lv_at hl 0 rfl) ?_
      refine va_get (D := (dC, dI)) (ci := 5) (v := .ref it) (C := RX5) (T := TX5) (N := 3) hx hb hts i_X5_move_X5 hown hK hP 0 rfl rfl 0 (by decide) (hts _ mx_X5_move_1) (fun _ h9 => h9) rfl dX5_move_8 ?_
      refine lv_iload_n hx hb dX5_move_11 rfl (lv_at hl 3 rfl) ?_
      refine nw_alk hx hb hK hP 1 3 rfl rfl 3 rfl (Nat.le_of_ble_eq_true rfl) (Nat.le_of_ble_eq_true rfl) hfi.2.2.2.1 dX5_move_12 ?_
      refine lv_iload hx hb dX5_move_13 (lv_at hl 4 rfl) ?_
      refine lv_iload hx hb dX5_move_15 (lv_at hl 5 rfl) ?_
      refine va_copyN hx hb hml hl hown (hts _ mx_X5_move_2) (hts _ mx_X5_move_3) (hts _ mx_X5_move_4) (hts _ mx_X5_move_5) hK hP hD hS 7 5 rfl rfl rfl rfl (by omega) (by omega) (Nat.le_of_ble_eq_true rfl) (Nat.le_of_ble_eq_true rfl) (Nat.le_of_ble_eq_true rfl) (Nat.le_of_ble_eq_true rfl) dX5_move_17 (fun H locs hP hD hS => ?_)
      generalize hg_94 : va_cpy f5 f3 ((nI a) : Int32).toNatClampNeg ((nI b) : Int32).toNatClampNeg ((nI n) : Int32).toNatClampNeg = g_94 at hP hD
      have hu_94 : g_94 = va_cpy f5 f3 ((nI a) : Int32).toNatClampNeg ((nI b) : Int32).toNatClampNeg ((nI n) : Int32).toNatClampNeg := hg_94.symm
      have hP : va_P (dC, dI) vwCl [(xo_5_rrr h it la le), (xJ it cJ 8 fi), (xI y0 cI 40 f0), (xI y1 cI 40 f1), (xI y2 cI 40 f2), (xI y3 cI 40 g_94), (xI y4 cI 40 f4), (xI y5 cI 40 f5), (xI y6 cI 40 f6), (xI y7 cI 40 f7)] H := hP
      have hD := dto hP hD
      have hX9 := cut2 (wc := [(xo_5_rrr h it la le), (xJ it cJ 8 fi), (xI y0 cI 40 f0), (xI y1 cI 40 f1), (xI y2 cI 40 f2), (xI y3 cI 40 g_94), (xI y4 cI 40 f4), (xI y5 cI 40 f5), (xI y6 cI 40 f6), (xI y7 cI 40 f7)]) hP hD [0, 1, 2, 3, 4, 5, 6, 7, 8, 9] (by decide +kernel) rfl
      exact W.vret hx hb hr (fun t ht hW => ⟨⟨(), rfl, trivial, ⟨f0, f1, f2, g_94, f4, f5, f6, f7, va_Ht ht hX9.1, hX9.2, (lf_X5_move_44 hfi hj hk ha hb2 hu_94)⟩⟩, hS.F ht⟩) hS.2.2 dX5_move_20
    · skip
      have hl : lv_has ls 6 [(0, .ref h), (1, .int 5), (2, .int (nI a)), (3, .int 4), (4, .int (nI b)), (5, .int (nI n))] := hl
      refine lv_aload_n hx hb dX5_move_7 rfl (lv_at hl 0 rfl) ?_
      refine va_get (D := (dC, dI)) (ci := 5) (v := .ref it) (C := RX5) (T := TX5) (N := 3) hx hb hts i_X5_move_X5 hown hK hP 0 rfl rfl 0 (by decide) (hts _ mx_X5_move_1) (fun _ h9 => h9) rfl dX5_move_8 ?_
      refine lv_iload_n hx hb dX5_move_11 rfl (lv_at hl 3 rfl) ?_
      refine nw_alk hx hb hK hP 1 3 rfl rfl 4 rfl (Nat.le_of_ble_eq_true rfl) (Nat.le_of_ble_eq_true rfl) hfi.2.2.2.2.1 dX5_move_12 ?_
      refine lv_iload hx hb dX5_move_13 (lv_at hl 4 rfl) ?_
      refine lv_iload hx hb dX5_move_15 (lv_at hl 5 rfl) ?_
      refine va_copyN hx hb hml hl hown (hts _ mx_X5_move_2) (hts _ mx_X5_move_3) (hts _ mx_X5_move_4) (hts _ mx_X5_move_5) hK hP hD hS 7 6 rfl rfl rfl rfl (by omega) (by omega) (Nat.le_of_ble_eq_true rfl) (Nat.le_of_ble_eq_true rfl) (Nat.le_of_ble_eq_true rfl) (Nat.le_of_ble_eq_true rfl) dX5_move_17 (fun H locs hP hD hS => ?_)
      generalize hg_96 : va_cpy f5 f4 ((nI a) : Int32).toNatClampNeg ((nI b) : Int32).toNatClampNeg ((nI n) : Int32).toNatClampNeg = g_96 at hP hD
      have hu_96 : g_96 = va_cpy f5 f4 ((nI a) : Int32).toNatClampNeg ((nI b) : Int32).toNatClampNeg ((nI n) : Int32).toNatClampNeg := hg_96.symm
      have hP : va_P (dC, dI) vwCl [(xo_5_rrr h it la le), (xJ it cJ 8 fi), (xI y0 cI 40 f0), (xI y1 cI 40 f1), (xI y2 cI 40 f2), (xI y3 cI 40 f3), (xI y4 cI 40 g_96), (xI y5 cI 40 f5), (xI y6 cI 40 f6), (xI y7 cI 40 f7)] H := hP
      have hD := dto hP hD
      have hX9 := cut2 (wc := [(xo_5_rrr h it la le), (xJ it cJ 8 fi), (xI y0 cI 40 f0), (xI y1 cI 40 f1), (xI y2 cI 40 f2), (xI y3 cI 40 f3), (xI y4 cI 40 g_96), (xI y5 cI 40 f5), (xI y6 cI 40 f6), (xI y7 cI 40 f7)]) hP hD [0, 1, 2, 3, 4, 5, 6, 7, 8, 9] (by decide +kernel) rfl
      exact W.vret hx hb hr (fun t ht hW => ⟨⟨(), rfl, trivial, ⟨f0, f1, f2, f3, g_96, f5, f6, f7, va_Ht ht hX9.1, hX9.2, (lf_X5_move_45 hfi hj hk ha hb2 hu_96)⟩⟩, hS.F ht⟩) hS.2.2 dX5_move_20
    · skip
      have hl : lv_has ls 6 [(0, .ref h), (1, .int 5), (2, .int (nI a)), (3, .int 5), (4, .int (nI b)), (5, .int (nI n))] := hl
      refine lv_aload_n hx hb dX5_move_7 rfl (lv_at hl 0 rfl) ?_
      refine va_get (D := (dC, dI)) (ci := 5) (v := .ref it) (C := RX5) (T := TX5) (N := 3) hx hb hts i_X5_move_X5 hown hK hP 0 rfl rfl 0 (by decide) (hts _ mx_X5_move_1) (fun _ h9 => h9) rfl dX5_move_8 ?_
      refine lv_iload_n hx hb dX5_move_11 rfl (lv_at hl 3 rfl) ?_
      refine nw_alk hx hb hK hP 1 3 rfl rfl 5 rfl (Nat.le_of_ble_eq_true rfl) (Nat.le_of_ble_eq_true rfl) hfi.2.2.2.2.2.1 dX5_move_12 ?_
      refine lv_iload hx hb dX5_move_13 (lv_at hl 4 rfl) ?_
      refine lv_iload hx hb dX5_move_15 (lv_at hl 5 rfl) ?_
      refine va_copyN hx hb hml hl hown (hts _ mx_X5_move_2) (hts _ mx_X5_move_3) (hts _ mx_X5_move_4) (hts _ mx_X5_move_5) hK hP hD hS 7 7 rfl rfl rfl rfl (by omega) (by omega) (Nat.le_of_ble_eq_true rfl) (Nat.le_of_ble_eq_true rfl) (Nat.le_of_ble_eq_true rfl) (Nat.le_of_ble_eq_true rfl) dX5_move_17 (fun H locs hP hD hS => ?_)
      generalize hg_98 : va_cpy f5 f5 ((nI a) : Int32).toNatClampNeg ((nI b) : Int32).toNatClampNeg ((nI n) : Int32).toNatClampNeg = g_98 at hP hD
      have hu_98 : g_98 = va_cpy f5 f5 ((nI a) : Int32).toNatClampNeg ((nI b) : Int32).toNatClampNeg ((nI n) : Int32).toNatClampNeg := hg_98.symm
      have hP : va_P (dC, dI) vwCl [(xo_5_rrr h it la le), (xJ it cJ 8 fi), (xI y0 cI 40 f0), (xI y1 cI 40 f1), (xI y2 cI 40 f2), (xI y3 cI 40 f3), (xI y4 cI 40 f4), (xI y5 cI 40 g_98), (xI y6 cI 40 f6), (xI y7 cI 40 f7)] H := hP
      have hD := dto hP hD
      have hX9 := cut2 (wc := [(xo_5_rrr h it la le), (xJ it cJ 8 fi), (xI y0 cI 40 f0), (xI y1 cI 40 f1), (xI y2 cI 40 f2), (xI y3 cI 40 f3), (xI y4 cI 40 f4), (xI y5 cI 40 g_98), (xI y6 cI 40 f6), (xI y7 cI 40 f7)]) hP hD [0, 1, 2, 3, 4, 5, 6, 7, 8, 9] (by decide +kernel) rfl
      exact W.vret hx hb hr (fun t ht hW => ⟨⟨(), rfl, trivial, ⟨f0, f1, f2, f3, f4, g_98, f6, f7, va_Ht ht hX9.1, hX9.2, (lf_X5_move_46 hfi hj hk ha hb2 hu_98)⟩⟩, hS.F ht⟩) hS.2.2 dX5_move_20
    · skip
      have hl : lv_has ls 6 [(0, .ref h), (1, .int 5), (2, .int (nI a)), (3, .int 6), (4, .int (nI b)), (5, .int (nI n))] := hl
      refine lv_aload_n hx hb dX5_move_7 rfl (lv_at hl 0 rfl) ?_
      refine va_get (D := (dC, dI)) (ci := 5) (v := .ref it) (C := RX5) (T := TX5) (N := 3) hx hb hts i_X5_move_X5 hown hK hP 0 rfl rfl 0 (by decide) (hts _ mx_X5_move_1) (fun _ h9 => h9) rfl dX5_move_8 ?_
      refine lv_iload_n hx hb dX5_move_11 rfl (lv_at hl 3 rfl) ?_
      refine nw_alk hx hb hK hP 1 3 rfl rfl 6 rfl (Nat.le_of_ble_eq_true rfl) (Nat.le_of_ble_eq_true rfl) hfi.2.2.2.2.2.2.1 dX5_move_12 ?_
      refine lv_iload hx hb dX5_move_13 (lv_at hl 4 rfl) ?_
      refine lv_iload hx hb dX5_move_15 (lv_at hl 5 rfl) ?_
      refine va_copyN hx hb hml hl hown (hts _ mx_X5_move_2) (hts _ mx_X5_move_3) (hts _ mx_X5_move_4) (hts _ mx_X5_move_5) hK hP hD hS 7 8 rfl rfl rfl rfl (by omega) (by omega) (Nat.le_of_ble_eq_true rfl) (Nat.le_of_ble_eq_true rfl) (Nat.le_of_ble_eq_true rfl) (Nat.le_of_ble_eq_true rfl) dX5_move_17 (fun H locs hP hD hS => ?_)
      generalize hg_100 : va_cpy f5 f6 ((nI a) : Int32).toNatClampNeg ((nI b) : Int32).toNatClampNeg ((nI n) : Int32).toNatClampNeg = g_100 at hP hD
      have hu_100 : g_100 = va_cpy f5 f6 ((nI a) : Int32).toNatClampNeg ((nI b) : Int32).toNatClampNeg ((nI n) : Int32).toNatClampNeg := hg_100.symm
      have hP : va_P (dC, dI) vwCl [(xo_5_rrr h it la le), (xJ it cJ 8 fi), (xI y0 cI 40 f0), (xI y1 cI 40 f1), (xI y2 cI 40 f2), (xI y3 cI 40 f3), (xI y4 cI 40 f4), (xI y5 cI 40 f5), (xI y6 cI 40 g_100), (xI y7 cI 40 f7)] H := hP
      have hD := dto hP hD
      have hX9 := cut2 (wc := [(xo_5_rrr h it la le), (xJ it cJ 8 fi), (xI y0 cI 40 f0), (xI y1 cI 40 f1), (xI y2 cI 40 f2), (xI y3 cI 40 f3), (xI y4 cI 40 f4), (xI y5 cI 40 f5), (xI y6 cI 40 g_100), (xI y7 cI 40 f7)]) hP hD [0, 1, 2, 3, 4, 5, 6, 7, 8, 9] (by decide +kernel) rfl
      exact W.vret hx hb hr (fun t ht hW => ⟨⟨(), rfl, trivial, ⟨f0, f1, f2, f3, f4, f5, g_100, f7, va_Ht ht hX9.1, hX9.2, (lf_X5_move_47 hfi hj hk ha hb2 hu_100)⟩⟩, hS.F ht⟩) hS.2.2 dX5_move_20
    · skip
      have hl : lv_has ls 6 [(0, .ref h), (1, .int 5), (2, .int (nI a)), (3, .int 7), (4, .int (nI b)), (5, .int (nI n))] := hl
      refine lv_aload_n hx hb dX5_move_7 rfl (lv_at hl 0 rfl) ?_
      refine va_get (D := (dC, dI)) (ci := 5) (v := .ref it) (C := RX5) (T := TX5) (N := 3) hx hb hts i_X5_move_X5 hown hK hP 0 rfl rfl 0 (by decide) (hts _ mx_X5_move_1) (fun _ h9 => h9) rfl dX5_move_8 ?_
      refine lv_iload_n hx hb dX5_move_11 rfl (lv_at hl 3 rfl) ?_
      refine nw_alk hx hb hK hP 1 3 rfl rfl 7 rfl (Nat.le_of_ble_eq_true rfl) (Nat.le_of_ble_eq_true rfl) hfi.2.2.2.2.2.2.2 dX5_move_12 ?_
      refine lv_iload hx hb dX5_move_13 (lv_at hl 4 rfl) ?_
      refine lv_iload hx hb dX5_move_15 (lv_at hl 5 rfl) ?_
      refine va_copyN hx hb hml hl hown (hts _ mx_X5_move_2) (hts _ mx_X5_move_3) (hts _ mx_X5_move_4) (hts _ mx_X5_move_5) hK hP hD hS 7 9 rfl rfl rfl rfl (by omega) (by omega) (Nat.le_of_ble_eq_true rfl) (Nat.le_of_ble_eq_true rfl) (Nat.le_of_ble_eq_true rfl) (Nat.le_of_ble_eq_true rfl) dX5_move_17 (fun H locs hP hD hS => ?_)
      generalize hg_102 : va_cpy f5 f7 ((nI a) : Int32).toNatClampNeg ((nI b) : Int32).toNatClampNeg ((nI n) : Int32).toNatClampNeg = g_102 at hP hD
      have hu_102 : g_102 = va_cpy f5 f7 ((nI a) : Int32).toNatClampNeg ((nI b) : Int32).toNatClampNeg ((nI n) : Int32).toNatClampNeg := hg_102.symm
      have hP : va_P (dC, dI) vwCl [(xo_5_rrr h it la le), (xJ it cJ 8 fi), (xI y0 cI 40 f0), (xI y1 cI 40 f1), (xI y2 cI 40 f2), (xI y3 cI 40 f3), (xI y4 cI 40 f4), (xI y5 cI 40 f5), (xI y6 cI 40 f6), (xI y7 cI 40 g_102)] H := hP
      have hD := dto hP hD
      have hX9 := cut2 (wc := [(xo_5_rrr h it la le), (xJ it cJ 8 fi), (xI y0 cI 40 f0), (xI y1 cI 40 f1), (xI y2 cI 40 f2), (xI y3 cI 40 f3), (xI y4 cI 40 f4), (xI y5 cI 40 f5), (xI y6 cI 40 f6), (xI y7 cI 40 g_102)]) hP hD [0, 1, 2, 3, 4, 5, 6, 7, 8, 9] (by decide +kernel) rfl
      exact W.vret hx hb hr (fun t ht hW => ⟨⟨(), rfl, trivial, ⟨f0, f1, f2, f3, f4, f5, f6, g_102, va_Ht ht hX9.1, hX9.2, (lf_X5_move_48 hfi hj hk ha hb2 hu_102)⟩⟩, hS.F ht⟩) hS.2.2 dX5_move_20
  · skip
    have hl : lv_has ls 6 [(0, .ref h), (1, .int 6), (2, .int (nI a)), (3, .int (nI k)), (4, .int (nI b)), (5, .int (nI n))] := hl
    refine lv_aload_n hx hb dX5_move_0 rfl (lv_at hl 0 rfl) ?_
    refine va_get (D := (dC, dI)) (ci := 5) (v := .ref it) (C := RX5) (T := TX5) (N := 3) hx hb hts i_X5_move_X5 hown hK hP 0 rfl rfl 0 (by decide) (hts _ mx_X5_move_1) (fun _ h9 => h9) rfl dX5_move_1 ?_
    refine lv_iload_n hx hb dX5_move_4 rfl (lv_at hl 1 rfl) ?_
    refine nw_alk hx hb hK hP 1 3 rfl rfl 6 rfl (Nat.le_of_ble_eq_true rfl) (Nat.le_of_ble_eq_true rfl) hfi.2.2.2.2.2.2.1 dX5_move_5 ?_
    refine lv_iload_n hx hb dX5_move_6 rfl (lv_at hl 2 rfl) ?_
    rcases (show k = 0 ∨ k = 1 ∨ k = 2 ∨ k = 3 ∨ k = 4 ∨ k = 5 ∨ k = 6 ∨ k = 7 by omega) with rfl | rfl | rfl | rfl | rfl | rfl | rfl | rfl
    · skip
      have hl : lv_has ls 6 [(0, .ref h), (1, .int 6), (2, .int (nI a)), (3, .int 0), (4, .int (nI b)), (5, .int (nI n))] := hl
      refine lv_aload_n hx hb dX5_move_7 rfl (lv_at hl 0 rfl) ?_
      refine va_get (D := (dC, dI)) (ci := 5) (v := .ref it) (C := RX5) (T := TX5) (N := 3) hx hb hts i_X5_move_X5 hown hK hP 0 rfl rfl 0 (by decide) (hts _ mx_X5_move_1) (fun _ h9 => h9) rfl dX5_move_8 ?_
      refine lv_iload_n hx hb dX5_move_11 rfl (lv_at hl 3 rfl) ?_
      refine nw_alk hx hb hK hP 1 3 rfl rfl 0 rfl (Nat.le_of_ble_eq_true rfl) (Nat.le_of_ble_eq_true rfl) hfi.1 dX5_move_12 ?_
      refine lv_iload hx hb dX5_move_13 (lv_at hl 4 rfl) ?_
      refine lv_iload hx hb dX5_move_15 (lv_at hl 5 rfl) ?_
      refine va_copyN hx hb hml hl hown (hts _ mx_X5_move_2) (hts _ mx_X5_move_3) (hts _ mx_X5_move_4) (hts _ mx_X5_move_5) hK hP hD hS 8 2 rfl rfl rfl rfl (by omega) (by omega) (Nat.le_of_ble_eq_true rfl) (Nat.le_of_ble_eq_true rfl) (Nat.le_of_ble_eq_true rfl) (Nat.le_of_ble_eq_true rfl) dX5_move_17 (fun H locs hP hD hS => ?_)
      generalize hg_105 : va_cpy f6 f0 ((nI a) : Int32).toNatClampNeg ((nI b) : Int32).toNatClampNeg ((nI n) : Int32).toNatClampNeg = g_105 at hP hD
      have hu_105 : g_105 = va_cpy f6 f0 ((nI a) : Int32).toNatClampNeg ((nI b) : Int32).toNatClampNeg ((nI n) : Int32).toNatClampNeg := hg_105.symm
      have hP : va_P (dC, dI) vwCl [(xo_5_rrr h it la le), (xJ it cJ 8 fi), (xI y0 cI 40 g_105), (xI y1 cI 40 f1), (xI y2 cI 40 f2), (xI y3 cI 40 f3), (xI y4 cI 40 f4), (xI y5 cI 40 f5), (xI y6 cI 40 f6), (xI y7 cI 40 f7)] H := hP
      have hD := dto hP hD
      have hX9 := cut2 (wc := [(xo_5_rrr h it la le), (xJ it cJ 8 fi), (xI y0 cI 40 g_105), (xI y1 cI 40 f1), (xI y2 cI 40 f2), (xI y3 cI 40 f3), (xI y4 cI 40 f4), (xI y5 cI 40 f5), (xI y6 cI 40 f6), (xI y7 cI 40 f7)]) hP hD [0, 1, 2, 3, 4, 5, 6, 7, 8, 9] (by decide +kernel) rfl
      exact W.vret hx hb hr (fun t ht hW => ⟨⟨(), rfl, trivial, ⟨g_105, f1, f2, f3, f4, f5, f6, f7, va_Ht ht hX9.1, hX9.2, (lf_X5_move_49 hfi hj hk ha hb2 hu_105)⟩⟩, hS.F ht⟩) hS.2.2 dX5_move_20
    · skip
      have hl : lv_has ls 6 [(0, .ref h), (1, .int 6), (2, .int (nI a)), (3, .int 1), (4, .int (nI b)), (5, .int (nI n))] := hl
      refine lv_aload_n hx hb dX5_move_7 rfl (lv_at hl 0 rfl) ?_
      refine va_get (D := (dC, dI)) (ci := 5) (v := .ref it) (C := RX5) (T := TX5) (N := 3) hx hb hts i_X5_move_X5 hown hK hP 0 rfl rfl 0 (by decide) (hts _ mx_X5_move_1) (fun _ h9 => h9) rfl dX5_move_8 ?_
      refine lv_iload_n hx hb dX5_move_11 rfl (lv_at hl 3 rfl) ?_
      refine nw_alk hx hb hK hP 1 3 rfl rfl 1 rfl (Nat.le_of_ble_eq_true rfl) (Nat.le_of_ble_eq_true rfl) hfi.2.1 dX5_move_12 ?_
      refine lv_iload hx hb dX5_move_13 (lv_at hl 4 rfl) ?_
      refine lv_iload hx hb dX5_move_15 (lv_at hl 5 rfl) ?_
      refine va_copyN hx hb hml hl hown (hts _ mx_X5_move_2) (hts _ mx_X5_move_3) (hts _ mx_X5_move_4) (hts _ mx_X5_move_5) hK hP hD hS 8 3 rfl rfl rfl rfl (by omega) (by omega) (Nat.le_of_ble_eq_true rfl) (Nat.le_of_ble_eq_true rfl) (Nat.le_of_ble_eq_true rfl) (Nat.le_of_ble_eq_true rfl) dX5_move_17 (fun H locs hP hD hS => ?_)
      generalize hg_107 : va_cpy f6 f1 ((nI a) : Int32).toNatClampNeg ((nI b) : Int32).toNatClampNeg ((nI n) : Int32).toNatClampNeg = g_107 at hP hD
      have hu_107 : g_107 = va_cpy f6 f1 ((nI a) : Int32).toNatClampNeg ((nI b) : Int32).toNatClampNeg ((nI n) : Int32).toNatClampNeg := hg_107.symm
      have hP : va_P (dC, dI) vwCl [(xo_5_rrr h it la le), (xJ it cJ 8 fi), (xI y0 cI 40 f0), (xI y1 cI 40 g_107), (xI y2 cI 40 f2), (xI y3 cI 40 f3), (xI y4 cI 40 f4), (xI y5 cI 40 f5), (xI y6 cI 40 f6), (xI y7 cI 40 f7)] H := hP
      have hD := dto hP hD
      have hX9 := cut2 (wc := [(xo_5_rrr h it la le), (xJ it cJ 8 fi), (xI y0 cI 40 f0), (xI y1 cI 40 g_107), (xI y2 cI 40 f2), (xI y3 cI 40 f3), (xI y4 cI 40 f4), (xI y5 cI 40 f5), (xI y6 cI 40 f6), (xI y7 cI 40 f7)]) hP hD [0, 1, 2, 3, 4, 5, 6, 7, 8, 9] (by decide +kernel) rfl
      exact W.vret hx hb hr (fun t ht hW => ⟨⟨(), rfl, trivial, ⟨f0, g_107, f2, f3, f4, f5, f6, f7, va_Ht ht hX9.1, hX9.2, (lf_X5_move_50 hfi hj hk ha hb2 hu_107)⟩⟩, hS.F ht⟩) hS.2.2 dX5_move_20
    · skip
      have hl : lv_has ls 6 [(0, .ref h), (1, .int 6), (2, .int (nI a)), (3, .int 2), (4, .int (nI b)), (5, .int (nI n))] := hl
      refine lv_aload_n hx hb dX5_move_7 rfl (lv_at hl 0 rfl) ?_
      refine va_get (D := (dC, dI)) (ci := 5) (v := .ref it) (C := RX5) (T := TX5) (N := 3) hx hb hts i_X5_move_X5 hown hK hP 0 rfl rfl 0 (by decide) (hts _ mx_X5_move_1) (fun _ h9 => h9) rfl dX5_move_8 ?_
      refine lv_iload_n hx hb dX5_move_11 rfl (lv_at hl 3 rfl) ?_
      refine nw_alk hx hb hK hP 1 3 rfl rfl 2 rfl (Nat.le_of_ble_eq_true rfl) (Nat.le_of_ble_eq_true rfl) hfi.2.2.1 dX5_move_12 ?_
      refine lv_iload hx hb dX5_move_13 (lv_at hl 4 rfl) ?_
      refine lv_iload hx hb dX5_move_15 (lv_at hl 5 rfl) ?_
      refine va_copyN hx hb hml hl hown (hts _ mx_X5_move_2) (hts _ mx_X5_move_3) (hts _ mx_X5_move_4) (hts _ mx_X5_move_5) hK hP hD hS 8 4 rfl rfl rfl rfl (by omega) (by omega) (Nat.le_of_ble_eq_true rfl) (Nat.le_of_ble_eq_true rfl) (Nat.le_of_ble_eq_true rfl) (Nat.le_of_ble_eq_true rfl) dX5_move_17 (fun H locs hP hD hS => ?_)
      generalize hg_109 : va_cpy f6 f2 ((nI a) : Int32).toNatClampNeg ((nI b) : Int32).toNatClampNeg ((nI n) : Int32).toNatClampNeg = g_109 at hP hD
      have hu_109 : g_109 = va_cpy f6 f2 ((nI a) : Int32).toNatClampNeg ((nI b) : Int32).toNatClampNeg ((nI n) : Int32).toNatClampNeg := hg_109.symm
      have hP : va_P (dC, dI) vwCl [(xo_5_rrr h it la le), (xJ it cJ 8 fi), (xI y0 cI 40 f0), (xI y1 cI 40 f1), (xI y2 cI 40 g_109), (xI y3 cI 40 f3), (xI y4 cI 40 f4), (xI y5 cI 40 f5), (xI y6 cI 40 f6), (xI y7 cI 40 f7)] H := hP
      have hD := dto hP hD
      have hX9 := cut2 (wc := [(xo_5_rrr h it la le), (xJ it cJ 8 fi), (xI y0 cI 40 f0), (xI y1 cI 40 f1), (xI y2 cI 40 g_109), (xI y3 cI 40 f3), (xI y4 cI 40 f4), (xI y5 cI 40 f5), (xI y6 cI 40 f6), (xI y7 cI 40 f7)]) hP hD [0, 1, 2, 3, 4, 5, 6, 7, 8, 9] (by decide +kernel) rfl
      exact W.vret hx hb hr (fun t ht hW => ⟨⟨(), rfl, trivial, ⟨f0, f1, g_109, f3, f4, f5, f6, f7, va_Ht ht hX9.1, hX9.2, (lf_X5_move_51 hfi hj hk ha hb2 hu_109)⟩⟩, hS.F ht⟩) hS.2.2 dX5_move_20
    · skip
      have hl : lv_has ls 6 [(0, .ref h), (1, .int 6), (2, .int (nI a)), (3, .int 3), (4, .int (nI b)), (5, .int (nI n))] := hl
      refine lv_aload_n hx hb dX5_move_7 rfl (lv_at hl 0 rfl) ?_
      refine va_get (D := (dC, dI)) (ci := 5) (v := .ref it) (C := RX5) (T := TX5) (N := 3) hx hb hts i_X5_move_X5 hown hK hP 0 rfl rfl 0 (by decide) (hts _ mx_X5_move_1) (fun _ h9 => h9) rfl dX5_move_8 ?_
      refine lv_iload_n hx hb dX5_move_11 rfl (lv_at hl 3 rfl) ?_
      refine nw_alk hx hb hK hP 1 3 rfl rfl 3 rfl (Nat.le_of_ble_eq_true rfl) (Nat.le_of_ble_eq_true rfl) hfi.2.2.2.1 dX5_move_12 ?_
      refine lv_iload hx hb dX5_move_13 (lv_at hl 4 rfl) ?_
      refine lv_iload hx hb dX5_move_15 (lv_at hl 5 rfl) ?_
      refine va_copyN hx hb hml hl hown (hts _ mx_X5_move_2) (hts _ mx_X5_move_3) (hts _ mx_X5_move_4) (hts _ mx_X5_move_5) hK hP hD hS 8 5 rfl rfl rfl rfl (by omega) (by omega) (Nat.le_of_ble_eq_true rfl) (Nat.le_of_ble_eq_true rfl) (Nat.le_of_ble_eq_true rfl) (Nat.le_of_ble_eq_true rfl) dX5_move_17 (fun H locs hP hD hS => ?_)
      generalize hg_111 : va_cpy f6 f3 ((nI a) : Int32).toNatClampNeg ((nI b) : Int32).toNatClampNeg ((nI n) : Int32).toNatClampNeg = g_111 at hP hD
      have hu_111 : g_111 = va_cpy f6 f3 ((nI a) : Int32).toNatClampNeg ((nI b) : Int32).toNatClampNeg ((nI n) : Int32).toNatClampNeg := hg_111.symm
      have hP : va_P (dC, dI) vwCl [(xo_5_rrr h it la le), (xJ it cJ 8 fi), (xI y0 cI 40 f0), (xI y1 cI 40 f1), (xI y2 cI 40 f2), (xI y3 cI 40 g_111), (xI y4 cI 40 f4), (xI y5 cI 40 f5), (xI y6 cI 40 f6), (xI y7 cI 40 f7)] H := hP
      have hD := dto hP hD
      have hX9 := cut2 (wc := [(xo_5_rrr h it la le), (xJ it cJ 8 fi), (xI y0 cI 40 f0), (xI y1 cI 40 f1), (xI y2 cI 40 f2), (xI y3 cI 40 g_111), (xI y4 cI 40 f4), (xI y5 cI 40 f5), (xI y6 cI 40 f6), (xI y7 cI 40 f7)]) hP hD [0, 1, 2, 3, 4, 5, 6, 7, 8, 9] (by decide +kernel) rfl
      exact W.vret hx hb hr (fun t ht hW => ⟨⟨(), rfl, trivial, ⟨f0, f1, f2, g_111, f4, f5, f6, f7, va_Ht ht hX9.1, hX9.2, (lf_X5_move_52 hfi hj hk ha hb2 hu_111)⟩⟩, hS.F ht⟩) hS.2.2 dX5_move_20
    · skip
      have hl : lv_has ls 6 [(0, .ref h), (1, .int 6), (2, .int (nI a)), (3, .int 4), (4, .int (nI b)), (5, .int (nI n))] := hl
      refine lv_aload_n hx hb dX5_move_7 rfl (lv_at hl 0 rfl) ?_
      refine va_get (D := (dC, dI)) (ci := 5) (v := .ref it) (C := RX5) (T := TX5) (N := 3) hx hb hts i_X5_move_X5 hown hK hP 0 rfl rfl 0 (by decide) (hts _ mx_X5_move_1) (fun _ h9 => h9) rfl dX5_move_8 ?_
      refine lv_iload_n hx hb dX5_move_11 rfl (lv_at hl 3 rfl) ?_
      refine nw_alk hx hb hK hP 1 3 rfl rfl 4 rfl (Nat.le_of_ble_eq_true rfl) (Nat.le_of_ble_eq_true rfl) hfi.2.2.2.2.1 dX5_move_12 ?_
      refine lv_iload hx hb dX5_move_13 (lv_at hl 4 rfl) ?_
      refine lv_iload hx hb dX5_move_15 (lv_at hl 5 rfl) ?_
      refine va_copyN hx hb hml hl hown (hts _ mx_X5_move_2) (hts _ mx_X5_move_3) (hts _ mx_X5_move_4) (hts _ mx_X5_move_5) hK hP hD hS 8 6 rfl rfl rfl rfl (by omega) (by omega) (Nat.le_of_ble_eq_true rfl) (Nat.le_of_ble_eq_true rfl) (Nat.le_of_ble_eq_true rfl) (Nat.le_of_ble_eq_true rfl) dX5_move_17 (fun H locs hP hD hS => ?_)
      generalize hg_113 : va_cpy f6 f4 ((nI a) : Int32).toNatClampNeg ((nI b) : Int32).toNatClampNeg ((nI n) : Int32).toNatClampNeg = g_113 at hP hD
      have hu_113 : g_113 = va_cpy f6 f4 ((nI a) : Int32).toNatClampNeg ((nI b) : Int32).toNatClampNeg ((nI n) : Int32).toNatClampNeg := hg_113.symm
      have hP : va_P (dC, dI) vwCl [(xo_5_rrr h it la le), (xJ it cJ 8 fi), (xI y0 cI 40 f0), (xI y1 cI 40 f1), (xI y2 cI 40 f2), (xI y3 cI 40 f3), (xI y4 cI 40 g_113), (xI y5 cI 40 f5), (xI y6 cI 40 f6), (xI y7 cI 40 f7)] H := hP
      have hD := dto hP hD
      have hX9 := cut2 (wc := [(xo_5_rrr h it la le), (xJ it cJ 8 fi), (xI y0 cI 40 f0), (xI y1 cI 40 f1), (xI y2 cI 40 f2), (xI y3 cI 40 f3), (xI y4 cI 40 g_113), (xI y5 cI 40 f5), (xI y6 cI 40 f6), (xI y7 cI 40 f7)]) hP hD [0, 1, 2, 3, 4, 5, 6, 7, 8, 9] (by decide +kernel) rfl
      exact W.vret hx hb hr (fun t ht hW => ⟨⟨(), rfl, trivial, ⟨f0, f1, f2, f3, g_113, f5, f6, f7, va_Ht ht hX9.1, hX9.2, (lf_X5_move_53 hfi hj hk ha hb2 hu_113)⟩⟩, hS.F ht⟩) hS.2.2 dX5_move_20
    · skip
      have hl : lv_has ls 6 [(0, .ref h), (1, .int 6), (2, .int (nI a)), (3, .int 5), (4, .int (nI b)), (5, .int (nI n))] := hl
      refine lv_aload_n hx hb dX5_move_7 rfl (lv_at hl 0 rfl) ?_
      refine va_get (D := (dC, dI)) (ci := 5) (v := .ref it) (C := RX5) (T := TX5) (N := 3) hx hb hts i_X5_move_X5 hown hK hP 0 rfl rfl 0 (by decide) (hts _ mx_X5_move_1) (fun _ h9 => h9) rfl dX5_move_8 ?_
      refine lv_iload_n hx hb dX5_move_11 rfl (lv_at hl 3 rfl) ?_
      refine nw_alk hx hb hK hP 1 3 rfl rfl 5 rfl (Nat.le_of_ble_eq_true rfl) (Nat.le_of_ble_eq_true rfl) hfi.2.2.2.2.2.1 dX5_move_12 ?_
      refine lv_iload hx hb dX5_move_13 (lv_at hl 4 rfl) ?_
      refine lv_iload hx hb dX5_move_15 (lv_at hl 5 rfl) ?_
      refine va_copyN hx hb hml hl hown (hts _ mx_X5_move_2) (hts _ mx_X5_move_3) (hts _ mx_X5_move_4) (hts _ mx_X5_move_5) hK hP hD hS 8 7 rfl rfl rfl rfl (by omega) (by omega) (Nat.le_of_ble_eq_true rfl) (Nat.le_of_ble_eq_true rfl) (Nat.le_of_ble_eq_true rfl) (Nat.le_of_ble_eq_true rfl) dX5_move_17 (fun H locs hP hD hS => ?_)
      generalize hg_115 : va_cpy f6 f5 ((nI a) : Int32).toNatClampNeg ((nI b) : Int32).toNatClampNeg ((nI n) : Int32).toNatClampNeg = g_115 at hP hD
      have hu_115 : g_115 = va_cpy f6 f5 ((nI a) : Int32).toNatClampNeg ((nI b) : Int32).toNatClampNeg ((nI n) : Int32).toNatClampNeg := hg_115.symm
      have hP : va_P (dC, dI) vwCl [(xo_5_rrr h it la le), (xJ it cJ 8 fi), (xI y0 cI 40 f0), (xI y1 cI 40 f1), (xI y2 cI 40 f2), (xI y3 cI 40 f3), (xI y4 cI 40 f4), (xI y5 cI 40 g_115), (xI y6 cI 40 f6), (xI y7 cI 40 f7)] H := hP
      have hD := dto hP hD
      have hX9 := cut2 (wc := [(xo_5_rrr h it la le), (xJ it cJ 8 fi), (xI y0 cI 40 f0), (xI y1 cI 40 f1), (xI y2 cI 40 f2), (xI y3 cI 40 f3), (xI y4 cI 40 f4), (xI y5 cI 40 g_115), (xI y6 cI 40 f6), (xI y7 cI 40 f7)]) hP hD [0, 1, 2, 3, 4, 5, 6, 7, 8, 9] (by decide +kernel) rfl
      exact W.vret hx hb hr (fun t ht hW => ⟨⟨(), rfl, trivial, ⟨f0, f1, f2, f3, f4, g_115, f6, f7, va_Ht ht hX9.1, hX9.2, (lf_X5_move_54 hfi hj hk ha hb2 hu_115)⟩⟩, hS.F ht⟩) hS.2.2 dX5_move_20
    · skip
      have hl : lv_has ls 6 [(0, .ref h), (1, .int 6), (2, .int (nI a)), (3, .int 6), (4, .int (nI b)), (5, .int (nI n))] := hl
      refine lv_aload_n hx hb dX5_move_7 rfl (lv_at hl 0 rfl) ?_
      refine va_get (D := (dC, dI)) (ci := 5) (v := .ref it) (C := RX5) (T := TX5) (N := 3) hx hb hts i_X5_move_X5 hown hK hP 0 rfl rfl 0 (by decide) (hts _ mx_X5_move_1) (fun _ h9 => h9) rfl dX5_move_8 ?_
      refine lv_iload_n hx hb dX5_move_11 rfl (lv_at hl 3 rfl) ?_
      refine nw_alk hx hb hK hP 1 3 rfl rfl 6 rfl (Nat.le_of_ble_eq_true rfl) (Nat.le_of_ble_eq_true rfl) hfi.2.2.2.2.2.2.1 dX5_move_12 ?_
      refine lv_iload hx hb dX5_move_13 (lv_at hl 4 rfl) ?_
      refine lv_iload hx hb dX5_move_15 (lv_at hl 5 rfl) ?_
      refine va_copyN hx hb hml hl hown (hts _ mx_X5_move_2) (hts _ mx_X5_move_3) (hts _ mx_X5_move_4) (hts _ mx_X5_move_5) hK hP hD hS 8 8 rfl rfl rfl rfl (by omega) (by omega) (Nat.le_of_ble_eq_true rfl) (Nat.le_of_ble_eq_true rfl) (Nat.le_of_ble_eq_true rfl) (Nat.le_of_ble_eq_true rfl) dX5_move_17 (fun H locs hP hD hS => ?_)
      generalize hg_117 : va_cpy f6 f6 ((nI a) : Int32).toNatClampNeg ((nI b) : Int32).toNatClampNeg ((nI n) : Int32).toNatClampNeg = g_117 at hP hD
      have hu_117 : g_117 = va_cpy f6 f6 ((nI a) : Int32).toNatClampNeg ((nI b) : Int32).toNatClampNeg ((nI n) : Int32).toNatClampNeg := hg_117.symm
      have hP : va_P (dC, dI) vwCl [(xo_5_rrr h it la le), (xJ it cJ 8 fi), (xI y0 cI 40 f0), (xI y1 cI 40 f1), (xI y2 cI 40 f2), (xI y3 cI 40 f3), (xI y4 cI 40 f4), (xI y5 cI 40 f5), (xI y6 cI 40 g_117), (xI y7 cI 40 f7)] H := hP
      have hD := dto hP hD
      have hX9 := cut2 (wc := [(xo_5_rrr h it la le), (xJ it cJ 8 fi), (xI y0 cI 40 f0), (xI y1 cI 40 f1), (xI y2 cI 40 f2), (xI y3 cI 40 f3), (xI y4 cI 40 f4), (xI y5 cI 40 f5), (xI y6 cI 40 g_117), (xI y7 cI 40 f7)]) hP hD [0, 1, 2, 3, 4, 5, 6, 7, 8, 9] (by decide +kernel) rfl
      exact W.vret hx hb hr (fun t ht hW => ⟨⟨(), rfl, trivial, ⟨f0, f1, f2, f3, f4, f5, g_117, f7, va_Ht ht hX9.1, hX9.2, (lf_X5_move_55 hfi hj hk ha hb2 hu_117)⟩⟩, hS.F ht⟩) hS.2.2 dX5_move_20
    · skip
      have hl : lv_has ls 6 [(0, .ref h), (1, .int 6), (2, .int (nI a)), (3, .int 7), (4, .int (nI b)), (5, .int (nI n))] := hl
      refine lv_aload_n hx hb dX5_move_7 rfl (lv_at hl 0 rfl) ?_
      refine va_get (D := (dC, dI)) (ci := 5) (v := .ref it) (C := RX5) (T := TX5) (N := 3) hx hb hts i_X5_move_X5 hown hK hP 0 rfl rfl 0 (by decide) (hts _ mx_X5_move_1) (fun _ h9 => h9) rfl dX5_move_8 ?_
      refine lv_iload_n hx hb dX5_move_11 rfl (lv_at hl 3 rfl) ?_
      refine nw_alk hx hb hK hP 1 3 rfl rfl 7 rfl (Nat.le_of_ble_eq_true rfl) (Nat.le_of_ble_eq_true rfl) hfi.2.2.2.2.2.2.2 dX5_move_12 ?_
      refine lv_iload hx hb dX5_move_13 (lv_at hl 4 rfl) ?_
      refine lv_iload hx hb dX5_move_15 (lv_at hl 5 rfl) ?_
      refine va_copyN hx hb hml hl hown (hts _ mx_X5_move_2) (hts _ mx_X5_move_3) (hts _ mx_X5_move_4) (hts _ mx_X5_move_5) hK hP hD hS 8 9 rfl rfl rfl rfl (by omega) (by omega) (Nat.le_of_ble_eq_true rfl) (Nat.le_of_ble_eq_true rfl) (Nat.le_of_ble_eq_true rfl) (Nat.le_of_ble_eq_true rfl) dX5_move_17 (fun H locs hP hD hS => ?_)
      generalize hg_119 : va_cpy f6 f7 ((nI a) : Int32).toNatClampNeg ((nI b) : Int32).toNatClampNeg ((nI n) : Int32).toNatClampNeg = g_119 at hP hD
      have hu_119 : g_119 = va_cpy f6 f7 ((nI a) : Int32).toNatClampNeg ((nI b) : Int32).toNatClampNeg ((nI n) : Int32).toNatClampNeg := hg_119.symm
      have hP : va_P (dC, dI) vwCl [(xo_5_rrr h it la le), (xJ it cJ 8 fi), (xI y0 cI 40 f0), (xI y1 cI 40 f1), (xI y2 cI 40 f2), (xI y3 cI 40 f3), (xI y4 cI 40 f4), (xI y5 cI 40 f5), (xI y6 cI 40 f6), (xI y7 cI 40 g_119)] H := hP
      have hD := dto hP hD
      have hX9 := cut2 (wc := [(xo_5_rrr h it la le), (xJ it cJ 8 fi), (xI y0 cI 40 f0), (xI y1 cI 40 f1), (xI y2 cI 40 f2), (xI y3 cI 40 f3), (xI y4 cI 40 f4), (xI y5 cI 40 f5), (xI y6 cI 40 f6), (xI y7 cI 40 g_119)]) hP hD [0, 1, 2, 3, 4, 5, 6, 7, 8, 9] (by decide +kernel) rfl
      exact W.vret hx hb hr (fun t ht hW => ⟨⟨(), rfl, trivial, ⟨f0, f1, f2, f3, f4, f5, f6, g_119, va_Ht ht hX9.1, hX9.2, (lf_X5_move_56 hfi hj hk ha hb2 hu_119)⟩⟩, hS.F ht⟩) hS.2.2 dX5_move_20
  · skip
    have hl : lv_has ls 6 [(0, .ref h), (1, .int 7), (2, .int (nI a)), (3, .int (nI k)), (4, .int (nI b)), (5, .int (nI n))] := hl
    refine lv_aload_n hx hb dX5_move_0 rfl (lv_at hl 0 rfl) ?_
    refine va_get (D := (dC, dI)) (ci := 5) (v := .ref it) (C := RX5) (T := TX5) (N := 3) hx hb hts i_X5_move_X5 hown hK hP 0 rfl rfl 0 (by decide) (hts _ mx_X5_move_1) (fun _ h9 => h9) rfl dX5_move_1 ?_
    refine lv_iload_n hx hb dX5_move_4 rfl (lv_at hl 1 rfl) ?_
    refine nw_alk hx hb hK hP 1 3 rfl rfl 7 rfl (Nat.le_of_ble_eq_true rfl) (Nat.le_of_ble_eq_true rfl) hfi.2.2.2.2.2.2.2 dX5_move_5 ?_
    refine lv_iload_n hx hb dX5_move_6 rfl (lv_at hl 2 rfl) ?_
    rcases (show k = 0 ∨ k = 1 ∨ k = 2 ∨ k = 3 ∨ k = 4 ∨ k = 5 ∨ k = 6 ∨ k = 7 by omega) with rfl | rfl | rfl | rfl | rfl | rfl | rfl | rfl
    · skip
      have hl : lv_has ls 6 [(0, .ref h), (1, .int 7), (2, .int (nI a)), (3, .int 0), (4, .int (nI b)), (5, .int (nI n))] := hl
      refine lv_aload_n hx hb dX5_move_7 rfl (lv_at hl 0 rfl) ?_
      refine va_get (D := (dC, dI)) (ci := 5) (v := .ref it) (C := RX5) (T := TX5) (N := 3) hx hb hts i_X5_move_X5 hown hK hP 0 rfl rfl 0 (by decide) (hts _ mx_X5_move_1) (fun _ h9 => h9) rfl dX5_move_8 ?_
      refine lv_iload_n hx hb dX5_move_11 rfl (lv_at hl 3 rfl) ?_
      refine nw_alk hx hb hK hP 1 3 rfl rfl 0 rfl (Nat.le_of_ble_eq_true rfl) (Nat.le_of_ble_eq_true rfl) hfi.1 dX5_move_12 ?_
      refine lv_iload hx hb dX5_move_13 (lv_at hl 4 rfl) ?_
      refine lv_iload hx hb dX5_move_15 (lv_at hl 5 rfl) ?_
      refine va_copyN hx hb hml hl hown (hts _ mx_X5_move_2) (hts _ mx_X5_move_3) (hts _ mx_X5_move_4) (hts _ mx_X5_move_5) hK hP hD hS 9 2 rfl rfl rfl rfl (by omega) (by omega) (Nat.le_of_ble_eq_true rfl) (Nat.le_of_ble_eq_true rfl) (Nat.le_of_ble_eq_true rfl) (Nat.le_of_ble_eq_true rfl) dX5_move_17 (fun H locs hP hD hS => ?_)
      generalize hg_122 : va_cpy f7 f0 ((nI a) : Int32).toNatClampNeg ((nI b) : Int32).toNatClampNeg ((nI n) : Int32).toNatClampNeg = g_122 at hP hD
      have hu_122 : g_122 = va_cpy f7 f0 ((nI a) : Int32).toNatClampNeg ((nI b) : Int32).toNatClampNeg ((nI n) : Int32).toNatClampNeg := hg_122.symm
      have hP : va_P (dC, dI) vwCl [(xo_5_rrr h it la le), (xJ it cJ 8 fi), (xI y0 cI 40 g_122), (xI y1 cI 40 f1), (xI y2 cI 40 f2), (xI y3 cI 40 f3), (xI y4 cI 40 f4), (xI y5 cI 40 f5), (xI y6 cI 40 f6), (xI y7 cI 40 f7)] H := hP
      have hD := dto hP hD
      have hX9 := cut2 (wc := [(xo_5_rrr h it la le), (xJ it cJ 8 fi), (xI y0 cI 40 g_122), (xI y1 cI 40 f1), (xI y2 cI 40 f2), (xI y3 cI 40 f3), (xI y4 cI 40 f4), (xI y5 cI 40 f5), (xI y6 cI 40 f6), (xI y7 cI 40 f7)]) hP hD [0, 1, 2, 3, 4, 5, 6, 7, 8, 9] (by decide +kernel) rfl
      exact W.vret hx hb hr (fun t ht hW => ⟨⟨(), rfl, trivial, ⟨g_122, f1, f2, f3, f4, f5, f6, f7, va_Ht ht hX9.1, hX9.2, (lf_X5_move_57 hfi hj hk ha hb2 hu_122)⟩⟩, hS.F ht⟩) hS.2.2 dX5_move_20
    · skip
      have hl : lv_has ls 6 [(0, .ref h), (1, .int 7), (2, .int (nI a)), (3, .int 1), (4, .int (nI b)), (5, .int (nI n))] := hl
      refine lv_aload_n hx hb dX5_move_7 rfl (lv_at hl 0 rfl) ?_
      refine va_get (D := (dC, dI)) (ci := 5) (v := .ref it) (C := RX5) (T := TX5) (N := 3) hx hb hts i_X5_move_X5 hown hK hP 0 rfl rfl 0 (by decide) (hts _ mx_X5_move_1) (fun _ h9 => h9) rfl dX5_move_8 ?_
      refine lv_iload_n hx hb dX5_move_11 rfl (lv_at hl 3 rfl) ?_
      refine nw_alk hx hb hK hP 1 3 rfl rfl 1 rfl (Nat.le_of_ble_eq_true rfl) (Nat.le_of_ble_eq_true rfl) hfi.2.1 dX5_move_12 ?_
      refine lv_iload hx hb dX5_move_13 (lv_at hl 4 rfl) ?_
      refine lv_iload hx hb dX5_move_15 (lv_at hl 5 rfl) ?_
      refine va_copyN hx hb hml hl hown (hts _ mx_X5_move_2) (hts _ mx_X5_move_3) (hts _ mx_X5_move_4) (hts _ mx_X5_move_5) hK hP hD hS 9 3 rfl rfl rfl rfl (by omega) (by omega) (Nat.le_of_ble_eq_true rfl) (Nat.le_of_ble_eq_true rfl) (Nat.le_of_ble_eq_true rfl) (Nat.le_of_ble_eq_true rfl) dX5_move_17 (fun H locs hP hD hS => ?_)
      generalize hg_124 : va_cpy f7 f1 ((nI a) : Int32).toNatClampNeg ((nI b) : Int32).toNatClampNeg ((nI n) : Int32).toNatClampNeg = g_124 at hP hD
      have hu_124 : g_124 = va_cpy f7 f1 ((nI a) : Int32).toNatClampNeg ((nI b) : Int32).toNatClampNeg ((nI n) : Int32).toNatClampNeg := hg_124.symm
      have hP : va_P (dC, dI) vwCl [(xo_5_rrr h it la le), (xJ it cJ 8 fi), (xI y0 cI 40 f0), (xI y1 cI 40 g_124), (xI y2 cI 40 f2), (xI y3 cI 40 f3), (xI y4 cI 40 f4), (xI y5 cI 40 f5), (xI y6 cI 40 f6), (xI y7 cI 40 f7)] H := hP
      have hD := dto hP hD
      have hX9 := cut2 (wc := [(xo_5_rrr h it la le), (xJ it cJ 8 fi), (xI y0 cI 40 f0), (xI y1 cI 40 g_124), (xI y2 cI 40 f2), (xI y3 cI 40 f3), (xI y4 cI 40 f4), (xI y5 cI 40 f5), (xI y6 cI 40 f6), (xI y7 cI 40 f7)]) hP hD [0, 1, 2, 3, 4, 5, 6, 7, 8, 9] (by decide +kernel) rfl
      exact W.vret hx hb hr (fun t ht hW => ⟨⟨(), rfl, trivial, ⟨f0, g_124, f2, f3, f4, f5, f6, f7, va_Ht ht hX9.1, hX9.2, (lf_X5_move_58 hfi hj hk ha hb2 hu_124)⟩⟩, hS.F ht⟩) hS.2.2 dX5_move_20
    · skip
      have hl : lv_has ls 6 [(0, .ref h), (1, .int 7), (2, .int (nI a)), (3, .int 2), (4, .int (nI b)), (5, .int (nI n))] := hl
      refine lv_aload_n hx hb dX5_move_7 rfl (lv_at hl 0 rfl) ?_
      refine va_get (D := (dC, dI)) (ci := 5) (v := .ref it) (C := RX5) (T := TX5) (N := 3) hx hb hts i_X5_move_X5 hown hK hP 0 rfl rfl 0 (by decide) (hts _ mx_X5_move_1) (fun _ h9 => h9) rfl dX5_move_8 ?_
      refine lv_iload_n hx hb dX5_move_11 rfl (lv_at hl 3 rfl) ?_
      refine nw_alk hx hb hK hP 1 3 rfl rfl 2 rfl (Nat.le_of_ble_eq_true rfl) (Nat.le_of_ble_eq_true rfl) hfi.2.2.1 dX5_move_12 ?_
      refine lv_iload hx hb dX5_move_13 (lv_at hl 4 rfl) ?_
      refine lv_iload hx hb dX5_move_15 (lv_at hl 5 rfl) ?_
      refine va_copyN hx hb hml hl hown (hts _ mx_X5_move_2) (hts _ mx_X5_move_3) (hts _ mx_X5_move_4) (hts _ mx_X5_move_5) hK hP hD hS 9 4 rfl rfl rfl rfl (by omega) (by omega) (Nat.le_of_ble_eq_true rfl) (Nat.le_of_ble_eq_true rfl) (Nat.le_of_ble_eq_true rfl) (Nat.le_of_ble_eq_true rfl) dX5_move_17 (fun H locs hP hD hS => ?_)
      generalize hg_126 : va_cpy f7 f2 ((nI a) : Int32).toNatClampNeg ((nI b) : Int32).toNatClampNeg ((nI n) : Int32).toNatClampNeg = g_126 at hP hD
      have hu_126 : g_126 = va_cpy f7 f2 ((nI a) : Int32).toNatClampNeg ((nI b) : Int32).toNatClampNeg ((nI n) : Int32).toNatClampNeg := hg_126.symm
      have hP : va_P (dC, dI) vwCl [(xo_5_rrr h it la le), (xJ it cJ 8 fi), (xI y0 cI 40 f0), (xI y1 cI 40 f1), (xI y2 cI 40 g_126), (xI y3 cI 40 f3), (xI y4 cI 40 f4), (xI y5 cI 40 f5), (xI y6 cI 40 f6), (xI y7 cI 40 f7)] H := hP
      have hD := dto hP hD
      have hX9 := cut2 (wc := [(xo_5_rrr h it la le), (xJ it cJ 8 fi), (xI y0 cI 40 f0), (xI y1 cI 40 f1), (xI y2 cI 40 g_126), (xI y3 cI 40 f3), (xI y4 cI 40 f4), (xI y5 cI 40 f5), (xI y6 cI 40 f6), (xI y7 cI 40 f7)]) hP hD [0, 1, 2, 3, 4, 5, 6, 7, 8, 9] (by decide +kernel) rfl
      exact W.vret hx hb hr (fun t ht hW => ⟨⟨(), rfl, trivial, ⟨f0, f1, g_126, f3, f4, f5, f6, f7, va_Ht ht hX9.1, hX9.2, (lf_X5_move_59 hfi hj hk ha hb2 hu_126)⟩⟩, hS.F ht⟩) hS.2.2 dX5_move_20
    · skip
      have hl : lv_has ls 6 [(0, .ref h), (1, .int 7), (2, .int (nI a)), (3, .int 3), (4, .int (nI b)), (5, .int (nI n))] := hl
      refine lv_aload_n hx hb dX5_move_7 rfl (lv_at hl 0 rfl) ?_
      refine va_get (D := (dC, dI)) (ci := 5) (v := .ref it) (C := RX5) (T := TX5) (N := 3) hx hb hts i_X5_move_X5 hown hK hP 0 rfl rfl 0 (by decide) (hts _ mx_X5_move_1) (fun _ h9 => h9) rfl dX5_move_8 ?_
      refine lv_iload_n hx hb dX5_move_11 rfl (lv_at hl 3 rfl) ?_
      refine nw_alk hx hb hK hP 1 3 rfl rfl 3 rfl (Nat.le_of_ble_eq_true rfl) (Nat.le_of_ble_eq_true rfl) hfi.2.2.2.1 dX5_move_12 ?_
      refine lv_iload hx hb dX5_move_13 (lv_at hl 4 rfl) ?_
      refine lv_iload hx hb dX5_move_15 (lv_at hl 5 rfl) ?_
      refine va_copyN hx hb hml hl hown (hts _ mx_X5_move_2) (hts _ mx_X5_move_3) (hts _ mx_X5_move_4) (hts _ mx_X5_move_5) hK hP hD hS 9 5 rfl rfl rfl rfl (by omega) (by omega) (Nat.le_of_ble_eq_true rfl) (Nat.le_of_ble_eq_true rfl) (Nat.le_of_ble_eq_true rfl) (Nat.le_of_ble_eq_true rfl) dX5_move_17 (fun H locs hP hD hS => ?_)
      generalize hg_128 : va_cpy f7 f3 ((nI a) : Int32).toNatClampNeg ((nI b) : Int32).toNatClampNeg ((nI n) : Int32).toNatClampNeg = g_128 at hP hD
      have hu_128 : g_128 = va_cpy f7 f3 ((nI a) : Int32).toNatClampNeg ((nI b) : Int32).toNatClampNeg ((nI n) : Int32).toNatClampNeg := hg_128.symm
      have hP : va_P (dC, dI) vwCl [(xo_5_rrr h it la le), (xJ it cJ 8 fi), (xI y0 cI 40 f0), (xI y1 cI 40 f1), (xI y2 cI 40 f2), (xI y3 cI 40 g_128), (xI y4 cI 40 f4), (xI y5 cI 40 f5), (xI y6 cI 40 f6), (xI y7 cI 40 f7)] H := hP
      have hD := dto hP hD
      have hX9 := cut2 (wc := [(xo_5_rrr h it la le), (xJ it cJ 8 fi), (xI y0 cI 40 f0), (xI y1 cI 40 f1), (xI y2 cI 40 f2), (xI y3 cI 40 g_128), (xI y4 cI 40 f4), (xI y5 cI 40 f5), (xI y6 cI 40 f6), (xI y7 cI 40 f7)]) hP hD [0, 1, 2, 3, 4, 5, 6, 7, 8, 9] (by decide +kernel) rfl
      exact W.vret hx hb hr (fun t ht hW => ⟨⟨(), rfl, trivial, ⟨f0, f1, f2, g_128, f4, f5, f6, f7, va_Ht ht hX9.1, hX9.2, (lf_X5_move_60 hfi hj hk ha hb2 hu_128)⟩⟩, hS.F ht⟩) hS.2.2 dX5_move_20
    · skip
      have hl : lv_has ls 6 [(0, .ref h), (1, .int 7), (2, .int (nI a)), (3, .int 4), (4, .int (nI b)), (5, .int (nI n))] := hl
      refine lv_aload_n hx hb dX5_move_7 rfl (lv_at hl 0 rfl) ?_
      refine va_get (D := (dC, dI)) (ci := 5) (v := .ref it) (C := RX5) (T := TX5) (N := 3) hx hb hts i_X5_move_X5 hown hK hP 0 rfl rfl 0 (by decide) (hts _ mx_X5_move_1) (fun _ h9 => h9) rfl dX5_move_8 ?_
      refine lv_iload_n hx hb dX5_move_11 rfl (lv_at hl 3 rfl) ?_
      refine nw_alk hx hb hK hP 1 3 rfl rfl 4 rfl (Nat.le_of_ble_eq_true rfl) (Nat.le_of_ble_eq_true rfl) hfi.2.2.2.2.1 dX5_move_12 ?_
      refine lv_iload hx hb dX5_move_13 (lv_at hl 4 rfl) ?_
      refine lv_iload hx hb dX5_move_15 (lv_at hl 5 rfl) ?_
      refine va_copyN hx hb hml hl hown (hts _ mx_X5_move_2) (hts _ mx_X5_move_3) (hts _ mx_X5_move_4) (hts _ mx_X5_move_5) hK hP hD hS 9 6 rfl rfl rfl rfl (by omega) (by omega) (Nat.le_of_ble_eq_true rfl) (Nat.le_of_ble_eq_true rfl) (Nat.le_of_ble_eq_true rfl) (Nat.le_of_ble_eq_true rfl) dX5_move_17 (fun H locs hP hD hS => ?_)
      generalize hg_130 : va_cpy f7 f4 ((nI a) : Int32).toNatClampNeg ((nI b) : Int32).toNatClampNeg ((nI n) : Int32).toNatClampNeg = g_130 at hP hD
      have hu_130 : g_130 = va_cpy f7 f4 ((nI a) : Int32).toNatClampNeg ((nI b) : Int32).toNatClampNeg ((nI n) : Int32).toNatClampNeg := hg_130.symm
      have hP : va_P (dC, dI) vwCl [(xo_5_rrr h it la le), (xJ it cJ 8 fi), (xI y0 cI 40 f0), (xI y1 cI 40 f1), (xI y2 cI 40 f2), (xI y3 cI 40 f3), (xI y4 cI 40 g_130), (xI y5 cI 40 f5), (xI y6 cI 40 f6), (xI y7 cI 40 f7)] H := hP
      have hD := dto hP hD
      have hX9 := cut2 (wc := [(xo_5_rrr h it la le), (xJ it cJ 8 fi), (xI y0 cI 40 f0), (xI y1 cI 40 f1), (xI y2 cI 40 f2), (xI y3 cI 40 f3), (xI y4 cI 40 g_130), (xI y5 cI 40 f5), (xI y6 cI 40 f6), (xI y7 cI 40 f7)]) hP hD [0, 1, 2, 3, 4, 5, 6, 7, 8, 9] (by decide +kernel) rfl
      exact W.vret hx hb hr (fun t ht hW => ⟨⟨(), rfl, trivial, ⟨f0, f1, f2, f3, g_130, f5, f6, f7, va_Ht ht hX9.1, hX9.2, (lf_X5_move_61 hfi hj hk ha hb2 hu_130)⟩⟩, hS.F ht⟩) hS.2.2 dX5_move_20
    · skip
      have hl : lv_has ls 6 [(0, .ref h), (1, .int 7), (2, .int (nI a)), (3, .int 5), (4, .int (nI b)), (5, .int (nI n))] := hl
      refine lv_aload_n hx hb dX5_move_7 rfl (lv_at hl 0 rfl) ?_
      refine va_get (D := (dC, dI)) (ci := 5) (v := .ref it) (C := RX5) (T := TX5) (N := 3) hx hb hts i_X5_move_X5 hown hK hP 0 rfl rfl 0 (by decide) (hts _ mx_X5_move_1) (fun _ h9 => h9) rfl dX5_move_8 ?_
      refine lv_iload_n hx hb dX5_move_11 rfl (lv_at hl 3 rfl) ?_
      refine nw_alk hx hb hK hP 1 3 rfl rfl 5 rfl (Nat.le_of_ble_eq_true rfl) (Nat.le_of_ble_eq_true rfl) hfi.2.2.2.2.2.1 dX5_move_12 ?_
      refine lv_iload hx hb dX5_move_13 (lv_at hl 4 rfl) ?_
      refine lv_iload hx hb dX5_move_15 (lv_at hl 5 rfl) ?_
      refine va_copyN hx hb hml hl hown (hts _ mx_X5_move_2) (hts _ mx_X5_move_3) (hts _ mx_X5_move_4) (hts _ mx_X5_move_5) hK hP hD hS 9 7 rfl rfl rfl rfl (by omega) (by omega) (Nat.le_of_ble_eq_true rfl) (Nat.le_of_ble_eq_true rfl) (Nat.le_of_ble_eq_true rfl) (Nat.le_of_ble_eq_true rfl) dX5_move_17 (fun H locs hP hD hS => ?_)
      generalize hg_132 : va_cpy f7 f5 ((nI a) : Int32).toNatClampNeg ((nI b) : Int32).toNatClampNeg ((nI n) : Int32).toNatClampNeg = g_132 at hP hD
      have hu_132 : g_132 = va_cpy f7 f5 ((nI a) : Int32).toNatClampNeg ((nI b) : Int32).toNatClampNeg ((nI n) : Int32).toNatClampNeg := hg_132.symm
      have hP : va_P (dC, dI) vwCl [(xo_5_rrr h it la le), (xJ it cJ 8 fi), (xI y0 cI 40 f0), (xI y1 cI 40 f1), (xI y2 cI 40 f2), (xI y3 cI 40 f3), (xI y4 cI 40 f4), (xI y5 cI 40 g_132), (xI y6 cI 40 f6), (xI y7 cI 40 f7)] H := hP
      have hD := dto hP hD
      have hX9 := cut2 (wc := [(xo_5_rrr h it la le), (xJ it cJ 8 fi), (xI y0 cI 40 f0), (xI y1 cI 40 f1), (xI y2 cI 40 f2), (xI y3 cI 40 f3), (xI y4 cI 40 f4), (xI y5 cI 40 g_132), (xI y6 cI 40 f6), (xI y7 cI 40 f7)]) hP hD [0, 1, 2, 3, 4, 5, 6, 7, 8, 9] (by decide +kernel) rfl
      exact W.vret hx hb hr (fun t ht hW => ⟨⟨(), rfl, trivial, ⟨f0, f1, f2, f3, f4, g_132, f6, f7, va_Ht ht hX9.1, hX9.2, (lf_X5_move_62 hfi hj hk ha hb2 hu_132)⟩⟩, hS.F ht⟩) hS.2.2 dX5_move_20
    · skip
      have hl : lv_has ls 6 [(0, .ref h), (1, .int 7), (2, .int (nI a)), (3, .int 6), (4, .int (nI b)), (5, .int (nI n))] := hl
      refine lv_aload_n hx hb dX5_move_7 rfl (lv_at hl 0 rfl) ?_
      refine va_get (D := (dC, dI)) (ci := 5) (v := .ref it) (C := RX5) (T := TX5) (N := 3) hx hb hts i_X5_move_X5 hown hK hP 0 rfl rfl 0 (by decide) (hts _ mx_X5_move_1) (fun _ h9 => h9) rfl dX5_move_8 ?_
      refine lv_iload_n hx hb dX5_move_11 rfl (lv_at hl 3 rfl) ?_
      refine nw_alk hx hb hK hP 1 3 rfl rfl 6 rfl (Nat.le_of_ble_eq_true rfl) (Nat.le_of_ble_eq_true rfl) hfi.2.2.2.2.2.2.1 dX5_move_12 ?_
      refine lv_iload hx hb dX5_move_13 (lv_at hl 4 rfl) ?_
      refine lv_iload hx hb dX5_move_15 (lv_at hl 5 rfl) ?_
      refine va_copyN hx hb hml hl hown (hts _ mx_X5_move_2) (hts _ mx_X5_move_3) (hts _ mx_X5_move_4) (hts _ mx_X5_move_5) hK hP hD hS 9 8 rfl rfl rfl rfl (by omega) (by omega) (Nat.le_of_ble_eq_true rfl) (Nat.le_of_ble_eq_true rfl) (Nat.le_of_ble_eq_true rfl) (Nat.le_of_ble_eq_true rfl) dX5_move_17 (fun H locs hP hD hS => ?_)
      generalize hg_134 : va_cpy f7 f6 ((nI a) : Int32).toNatClampNeg ((nI b) : Int32).toNatClampNeg ((nI n) : Int32).toNatClampNeg = g_134 at hP hD
      have hu_134 : g_134 = va_cpy f7 f6 ((nI a) : Int32).toNatClampNeg ((nI b) : Int32).toNatClampNeg ((nI n) : Int32).toNatClampNeg := hg_134.symm
      have hP : va_P (dC, dI) vwCl [(xo_5_rrr h it la le), (xJ it cJ 8 fi), (xI y0 cI 40 f0), (xI y1 cI 40 f1), (xI y2 cI 40 f2), (xI y3 cI 40 f3), (xI y4 cI 40 f4), (xI y5 cI 40 f5), (xI y6 cI 40 g_134), (xI y7 cI 40 f7)] H := hP
      have hD := dto hP hD
      have hX9 := cut2 (wc := [(xo_5_rrr h it la le), (xJ it cJ 8 fi), (xI y0 cI 40 f0), (xI y1 cI 40 f1), (xI y2 cI 40 f2), (xI y3 cI 40 f3), (xI y4 cI 40 f4), (xI y5 cI 40 f5), (xI y6 cI 40 g_134), (xI y7 cI 40 f7)]) hP hD [0, 1, 2, 3, 4, 5, 6, 7, 8, 9] (by decide +kernel) rfl
      exact W.vret hx hb hr (fun t ht hW => ⟨⟨(), rfl, trivial, ⟨f0, f1, f2, f3, f4, f5, g_134, f7, va_Ht ht hX9.1, hX9.2, (lf_X5_move_63 hfi hj hk ha hb2 hu_134)⟩⟩, hS.F ht⟩) hS.2.2 dX5_move_20
    · skip
      have hl : lv_has ls 6 [(0, .ref h), (1, .int 7), (2, .int (nI a)), (3, .int 7), (4, .int (nI b)), (5, .int (nI n))] := hl
      refine lv_aload_n hx hb dX5_move_7 rfl (lv_at hl 0 rfl) ?_
      refine va_get (D := (dC, dI)) (ci := 5) (v := .ref it) (C := RX5) (T := TX5) (N := 3) hx hb hts i_X5_move_X5 hown hK hP 0 rfl rfl 0 (by decide) (hts _ mx_X5_move_1) (fun _ h9 => h9) rfl dX5_move_8 ?_
      refine lv_iload_n hx hb dX5_move_11 rfl (lv_at hl 3 rfl) ?_
      refine nw_alk hx hb hK hP 1 3 rfl rfl 7 rfl (Nat.le_of_ble_eq_true rfl) (Nat.le_of_ble_eq_true rfl) hfi.2.2.2.2.2.2.2 dX5_move_12 ?_
      refine lv_iload hx hb dX5_move_13 (lv_at hl 4 rfl) ?_
      refine lv_iload hx hb dX5_move_15 (lv_at hl 5 rfl) ?_
      refine va_copyN hx hb hml hl hown (hts _ mx_X5_move_2) (hts _ mx_X5_move_3) (hts _ mx_X5_move_4) (hts _ mx_X5_move_5) hK hP hD hS 9 9 rfl rfl rfl rfl (by omega) (by omega) (Nat.le_of_ble_eq_true rfl) (Nat.le_of_ble_eq_true rfl) (Nat.le_of_ble_eq_true rfl) (Nat.le_of_ble_eq_true rfl) dX5_move_17 (fun H locs hP hD hS => ?_)
      generalize hg_136 : va_cpy f7 f7 ((nI a) : Int32).toNatClampNeg ((nI b) : Int32).toNatClampNeg ((nI n) : Int32).toNatClampNeg = g_136 at hP hD
      have hu_136 : g_136 = va_cpy f7 f7 ((nI a) : Int32).toNatClampNeg ((nI b) : Int32).toNatClampNeg ((nI n) : Int32).toNatClampNeg := hg_136.symm
      have hP : va_P (dC, dI) vwCl [(xo_5_rrr h it la le), (xJ it cJ 8 fi), (xI y0 cI 40 f0), (xI y1 cI 40 f1), (xI y2 cI 40 f2), (xI y3 cI 40 f3), (xI y4 cI 40 f4), (xI y5 cI 40 f5), (xI y6 cI 40 f6), (xI y7 cI 40 g_136)] H := hP
      have hD := dto hP hD
      have hX9 := cut2 (wc := [(xo_5_rrr h it la le), (xJ it cJ 8 fi), (xI y0 cI 40 f0), (xI y1 cI 40 f1), (xI y2 cI 40 f2), (xI y3 cI 40 f3), (xI y4 cI 40 f4), (xI y5 cI 40 f5), (xI y6 cI 40 f6), (xI y7 cI 40 g_136)]) hP hD [0, 1, 2, 3, 4, 5, 6, 7, 8, 9] (by decide +kernel) rfl
      exact W.vret hx hb hr (fun t ht hW => ⟨⟨(), rfl, trivial, ⟨f0, f1, f2, f3, f4, f5, f6, g_136, va_Ht ht hX9.1, hX9.2, (lf_X5_move_64 hfi hj hk ha hb2 hu_136)⟩⟩, hS.F ht⟩) hS.2.2 dX5_move_20
theorem lf_X5_remove_1 {fl : Nat → Int32} {fe : Nat → Int32} {j : Nat} {g_1 : Nat → Int32} {v_2 : Int32} (hj : j < 8) (hu_1 : g_1 = upd fl j (-1)) (e_2 : v_2 = fe j) : g_1 = upd fl j (-1) := by
  grind
theorem lf_X5_remove_2 {fl : Nat → Int32} {fe : Nat → Int32} {j : Nat} {g_1 : Nat → Int32} {v_2 : Int32} (hj : j < 8) (hu_1 : g_1 = upd fl j (-1)) (e_2 : v_2 = fe j) : v_2 = (fe j) := by
  grind
set_option maxHeartbeats 4000000 in
set_option maxRecDepth 100000 in
theorem r_X5_remove (l : Launch) (dC : Nat → ClassId) (dI : Nat → Nat → Nat) (cI cZ cL cJ : ClassId) (sz : Nat) (h : Nat) (it : Nat) (la : Nat) (le : Nat) (fl : Nat → Int32) (fe : Nat → Int32) (j : Nat) (hj : j < 8) : Met l yX5_remove wsX5_remove ({ frames := 0, cells := 0, slots := 0, locals := 0 }) (va_Pc [.ref h, .int (nI j)] (fun U => U.heap.size = sz ∧ va_P (dC, dI) vwCl [(xo_5_rrr h it la le), (xI la cI 8 fl), (xI le cI 8 fe)] U.heap ∧ va_K (dC, dI) vwCl [(cI, .int), (cZ, .boolean), (cL, .object RX3), (cJ, .array .int)] U ∧ va_D (fun _ => True) [(xo_5_rrr h it la le), (xI la cI 8 fl), (xI le cI 8 fe)])) (va_Qi (fun r (_ : Unit) => r = (fe j)) (fun (_ : Unit) t => ∃ (fln : Nat → Int32), va_P (dC, dI) vwCl [(xo_5_rrr h it la le), (xI la cI 8 fln), (xI le cI 8 fe)] t.heap ∧ va_D (va_A [(xo_5_rrr h it la le), (xI la cI 8 fl), (xI le cI 8 fe)] sz) [(xo_5_rrr h it la le), (xI la cI 8 fln), (xI le cI 8 fe)] ∧ fln = upd fl j (-1)) (va_A [(xo_5_rrr h it la le), (xI la cI 8 fl), (xI le cI 8 fe)] sz)) 0 0 (va_A [(xo_5_rrr h it la le), (xI la cI 8 fl), (xI le cI 8 fe)] sz) := by
  refine Met.ofW (cc := cX5_remove) (maxL := 2) (ret := (some .int)) (by decide) rfl ?_
  intro p e s m args below meth c s₁ B hml hv
  obtain ⟨rfl, hsz, hP, hK, hD0⟩ := hv
  have hx := B.exec
  have hb := B.bytes
  have hr := B.returns
  have hts := atoms_spec (ws := wsX5_remove) B.pre
  have hown : s.vm.findClass RX5 = some m.cls := findClass_of_methodNamed B.named
  have hlocks := B.notSynchronized
  subst hsz
  have hD := hD0.self (sz := s.heap.size)
  generalize hAe : va_A [(xo_5_rrr h it la le), (xI la cI 8 fl), (xI le cI 8 fe)] s.heap.size = A at hD ⊢
  have hA : ∀ q : Nat, s.heap.size ≤ q → A q := fun q h => by rw [← hAe]; exact Or.inr h
  have hS : va_S A s.heap s.heap [] := va_S.rf
  have hP : va_P (dC, dI) vwCl [(xo_5_rrr h it la le), (xI la cI 8 fl), (xI le cI 8 fe)] s.heap := hP
  have hl := lv_entry ([.ref h, .int (nI j)]) (n := 2) (Nat.le_of_ble_eq_true rfl)
  rw [lg_entry_eq]
  generalize (lg_sl ([.ref h, .int (nI j)]) ++ List.replicate (2 - (lg_sl ([.ref h, .int (nI j)])).length) Slot.unset).toArray = ls at hl ⊢
  have hl : lv_has ls 2 [(0, .ref h), (1, .int (nI j))] := hl
  refine lv_aload_n hx hb dX5_remove_0 rfl (lv_at hl 0 rfl) ?_
  refine va_get (D := (dC, dI)) (ci := 5) (v := .ref la) (C := RX5) (T := TX5) (N := 3) hx hb hts i_X5_remove_X5 hown hK hP 0 rfl rfl 1 (by decide) (hts _ mx_X5_remove_1) (fun _ h9 => h9) rfl dX5_remove_1 ?_
  refine lv_iload_n hx hb dX5_remove_4 rfl (lv_at hl 1 rfl) ?_
  refine lv_iconst (v := (-1)) hx hb dX5_remove_5 (by decide) ?_
  refine va_iast hx hb hK hP hD hS 1 0 rfl rfl (vp_in_nI (by omega) (by omega)) dX5_remove_6 (fun H locs hP hD hS => ?_)
  generalize hg_1 : upd fl ((nI j) : Int32).toNatClampNeg (-1) = g_1 at hP hD
  have hu_1 : g_1 = upd fl j (-1) := (by rw [← hg_1, nI_clamp (by omega)])
  have hP : va_P (dC, dI) vwCl [(xo_5_rrr h it la le), (xI la cI 8 g_1), (xI le cI 8 fe)] H := hP
  have hD := dto hP hD
  refine lv_aload_n hx hb dX5_remove_7 rfl (lv_at hl 0 rfl) ?_
  refine va_get (D := (dC, dI)) (ci := 5) (v := .ref le) (C := RX5) (T := TX5) (N := 3) hx hb hts i_X5_remove_X5 hown hK hP 0 rfl rfl 2 (by decide) (hts _ mx_X5_remove_2) (fun _ h9 => h9) rfl dX5_remove_8 ?_
  refine lv_iload_n hx hb dX5_remove_11 rfl (lv_at hl 1 rfl) ?_
  refine va_iald hx hb hK hP 2 0 rfl rfl (vp_in_nI (by omega) (by omega)) dX5_remove_12 ?_
  refine lv_topi (fun v_2 e_2 => ?_)
  have e_2 : v_2 = fe j := e_2.trans (congrArg fe (nI_clamp (by omega)))
  have hX9 := cut2 (wc := [(xo_5_rrr h it la le), (xI la cI 8 g_1), (xI le cI 8 fe)]) hP hD [0, 1, 2] (by decide +kernel) rfl
  exact W.iret (v := v_2) hx hb hr (fun t ht hW => ⟨⟨v_2, (), rfl, (lf_X5_remove_2 hj hu_1 e_2), ⟨g_1, va_Ht ht hX9.1, hX9.2, (lf_X5_remove_1 hj hu_1 e_2)⟩⟩, hS.F ht⟩) hS.2.2 dX5_remove_13
theorem lf_X5_make_1 {fl : Nat → Int32} {fe : Nat → Int32} {y0 : Nat} {y1 : Nat} {y2 : Nat} {y3 : Nat} {y4 : Nat} {y5 : Nat} {y6 : Nat} {y7 : Nat} {fi : Nat → Option Nat} {n : Nat} {v : Int32} {g_1 : Nat → Int32} {g_2 : Nat → Int32} {g_4 : Nat → Int32} (hfi : fi 0 = some y0 ∧ fi 1 = some y1 ∧ fi 2 = some y2 ∧ fi 3 = some y3 ∧ fi 4 = some y4 ∧ fi 5 = some y5 ∧ fi 6 = some y6 ∧ fi 7 = some y7) (hj : 0 < 8) (hfe : ∀ jq : Nat, jq < 8 → ∃ q : Nat, q ≤ 40 ∧ fe jq = nI q) (hn : n ≤ 40) (hu_1 : g_1 = upd fl 0 v) (hu_2 : g_2 = upd fe 0 (nI n)) (hF_4_0 : (∀ jz : Nat, jz < 40 → g_4 jz = 0)) : g_1 = upd fl 0 v := by
  first
  | exact it_s0 (by assumption)
  | exact it_s1 (by assumption)
  | exact it_s2 (by assumption)
  | exact it_s3 (by assumption)
  | exact it_s4 (by assumption)
  | exact it_s5 (by assumption)
  | exact it_s6 (by assumption)
  | exact it_s7 (by assumption)
  | grind
theorem lf_X5_make_2 {fl : Nat → Int32} {fe : Nat → Int32} {y0 : Nat} {y1 : Nat} {y2 : Nat} {y3 : Nat} {y4 : Nat} {y5 : Nat} {y6 : Nat} {y7 : Nat} {fi : Nat → Option Nat} {n : Nat} {v : Int32} {g_1 : Nat → Int32} {g_2 : Nat → Int32} {g_4 : Nat → Int32} (hfi : fi 0 = some y0 ∧ fi 1 = some y1 ∧ fi 2 = some y2 ∧ fi 3 = some y3 ∧ fi 4 = some y4 ∧ fi 5 = some y5 ∧ fi 6 = some y6 ∧ fi 7 = some y7) (hj : 0 < 8) (hfe : ∀ jq : Nat, jq < 8 → ∃ q : Nat, q ≤ 40 ∧ fe jq = nI q) (hn : n ≤ 40) (hu_1 : g_1 = upd fl 0 v) (hu_2 : g_2 = upd fe 0 (nI n)) (hF_4_0 : (∀ jz : Nat, jz < 40 → g_4 jz = 0)) : g_2 = upd fe 0 (nI n) := by
  first
  | exact it_s0 (by assumption)
  | exact it_s1 (by assumption)
  | exact it_s2 (by assumption)
  | exact it_s3 (by assumption)
  | exact it_s4 (by assumption)
  | exact it_s5 (by assumption)
  | exact it_s6 (by assumption)
  | exact it_s7 (by assumption)
  | grind
theorem lf_X5_make_3 {fl : Nat → Int32} {fe : Nat → Int32} {y0 : Nat} {y1 : Nat} {y2 : Nat} {y3 : Nat} {y4 : Nat} {y5 : Nat} {y6 : Nat} {y7 : Nat} {f0 : Nat → Int32} {f1 : Nat → Int32} {f2 : Nat → Int32} {f3 : Nat → Int32} {f4 : Nat → Int32} {f5 : Nat → Int32} {f6 : Nat → Int32} {f7 : Nat → Int32} {fi : Nat → Option Nat} {n : Nat} {v : Int32} {g_1 : Nat → Int32} {g_2 : Nat → Int32} {g_4 : Nat → Int32} (hfi : fi 0 = some y0 ∧ fi 1 = some y1 ∧ fi 2 = some y2 ∧ fi 3 = some y3 ∧ fi 4 = some y4 ∧ fi 5 = some y5 ∧ fi 6 = some y6 ∧ fi 7 = some y7) (hj : 0 < 8) (hfe : ∀ jq : Nat, jq < 8 → ∃ q : Nat, q ≤ 40 ∧ fe jq = nI q) (hn : n ≤ 40) (hu_1 : g_1 = upd fl 0 v) (hu_2 : g_2 = upd fe 0 (nI n)) (hF_4_0 : (∀ jz : Nat, jz < 40 → g_4 jz = 0)) : (itX g_4 f1 f2 f3 f4 f5 f6 f7) = upI (itX f0 f1 f2 f3 f4 f5 f6 f7) 0 (fun _ => 0) := by
  first
  | exact it_s0 (by assumption)
  | exact it_s1 (by assumption)
  | exact it_s2 (by assumption)
  | exact it_s3 (by assumption)
  | exact it_s4 (by assumption)
  | exact it_s5 (by assumption)
  | exact it_s6 (by assumption)
  | exact it_s7 (by assumption)
  | grind
theorem lf_X5_make_4 {fl : Nat → Int32} {fe : Nat → Int32} {y0 : Nat} {y1 : Nat} {y2 : Nat} {y3 : Nat} {y4 : Nat} {y5 : Nat} {y6 : Nat} {y7 : Nat} {fi : Nat → Option Nat} {n : Nat} {v : Int32} {g_1 : Nat → Int32} {g_2 : Nat → Int32} {g_6 : Nat → Int32} (hfi : fi 0 = some y0 ∧ fi 1 = some y1 ∧ fi 2 = some y2 ∧ fi 3 = some y3 ∧ fi 4 = some y4 ∧ fi 5 = some y5 ∧ fi 6 = some y6 ∧ fi 7 = some y7) (hj : 1 < 8) (hfe : ∀ jq : Nat, jq < 8 → ∃ q : Nat, q ≤ 40 ∧ fe jq = nI q) (hn : n ≤ 40) (hu_1 : g_1 = upd fl 1 v) (hu_2 : g_2 = upd fe 1 (nI n)) (hF_6_0 : (∀ jz : Nat, jz < 40 → g_6 jz = 0)) : g_1 = upd fl 1 v := by
  first
  | exact it_s0 (by assumption)
  | exact it_s1 (by assumption)
  | exact it_s2 (by assumption)
  | exact it_s3 (by assumption)
  | exact it_s4 (by assumption)
  | exact it_s5 (by assumption)
  | exact it_s6 (by assumption)
  | exact it_s7 (by assumption)
  | grind
theorem lf_X5_make_5 {fl : Nat → Int32} {fe : Nat → Int32} {y0 : Nat} {y1 : Nat} {y2 : Nat} {y3 : Nat} {y4 : Nat} {y5 : Nat} {y6 : Nat} {y7 : Nat} {fi : Nat → Option Nat} {n : Nat} {v : Int32} {g_1 : Nat → Int32} {g_2 : Nat → Int32} {g_6 : Nat → Int32} (hfi : fi 0 = some y0 ∧ fi 1 = some y1 ∧ fi 2 = some y2 ∧ fi 3 = some y3 ∧ fi 4 = some y4 ∧ fi 5 = some y5 ∧ fi 6 = some y6 ∧ fi 7 = some y7) (hj : 1 < 8) (hfe : ∀ jq : Nat, jq < 8 → ∃ q : Nat, q ≤ 40 ∧ fe jq = nI q) (hn : n ≤ 40) (hu_1 : g_1 = upd fl 1 v) (hu_2 : g_2 = upd fe 1 (nI n)) (hF_6_0 : (∀ jz : Nat, jz < 40 → g_6 jz = 0)) : g_2 = upd fe 1 (nI n) := by
  first
  | exact it_s0 (by assumption)
  | exact it_s1 (by assumption)
  | exact it_s2 (by assumption)
  | exact it_s3 (by assumption)
  | exact it_s4 (by assumption)
  | exact it_s5 (by assumption)
  | exact it_s6 (by assumption)
  | exact it_s7 (by assumption)
  | grind
theorem lf_X5_make_6 {fl : Nat → Int32} {fe : Nat → Int32} {y0 : Nat} {y1 : Nat} {y2 : Nat} {y3 : Nat} {y4 : Nat} {y5 : Nat} {y6 : Nat} {y7 : Nat} {f0 : Nat → Int32} {f1 : Nat → Int32} {f2 : Nat → Int32} {f3 : Nat → Int32} {f4 : Nat → Int32} {f5 : Nat → Int32} {f6 : Nat → Int32} {f7 : Nat → Int32} {fi : Nat → Option Nat} {n : Nat} {v : Int32} {g_1 : Nat → Int32} {g_2 : Nat → Int32} {g_6 : Nat → Int32} (hfi : fi 0 = some y0 ∧ fi 1 = some y1 ∧ fi 2 = some y2 ∧ fi 3 = some y3 ∧ fi 4 = some y4 ∧ fi 5 = some y5 ∧ fi 6 = some y6 ∧ fi 7 = some y7) (hj : 1 < 8) (hfe : ∀ jq : Nat, jq < 8 → ∃ q : Nat, q ≤ 40 ∧ fe jq = nI q) (hn : n ≤ 40) (hu_1 : g_1 = upd fl 1 v) (hu_2 : g_2 = upd fe 1 (nI n)) (hF_6_0 : (∀ jz : Nat, jz < 40 → g_6 jz = 0)) : (itX f0 g_6 f2 f3 f4 f5 f6 f7) = upI (itX f0 f1 f2 f3 f4 f5 f6 f7) 1 (fun _ => 0) := by
  first
  | exact it_s0 (by assumption)
  | exact it_s1 (by assumption)
  | exact it_s2 (by assumption)
  | exact it_s3 (by assumption)
  | exact it_s4 (by assumption)
  | exact it_s5 (by assumption)
  | exact it_s6 (by assumption)
  | exact it_s7 (by assumption)
  | grind
theorem lf_X5_make_7 {fl : Nat → Int32} {fe : Nat → Int32} {y0 : Nat} {y1 : Nat} {y2 : Nat} {y3 : Nat} {y4 : Nat} {y5 : Nat} {y6 : Nat} {y7 : Nat} {fi : Nat → Option Nat} {n : Nat} {v : Int32} {g_1 : Nat → Int32} {g_2 : Nat → Int32} {g_8 : Nat → Int32} (hfi : fi 0 = some y0 ∧ fi 1 = some y1 ∧ fi 2 = some y2 ∧ fi 3 = some y3 ∧ fi 4 = some y4 ∧ fi 5 = some y5 ∧ fi 6 = some y6 ∧ fi 7 = some y7) (hj : 2 < 8) (hfe : ∀ jq : Nat, jq < 8 → ∃ q : Nat, q ≤ 40 ∧ fe jq = nI q) (hn : n ≤ 40) (hu_1 : g_1 = upd fl 2 v) (hu_2 : g_2 = upd fe 2 (nI n)) (hF_8_0 : (∀ jz : Nat, jz < 40 → g_8 jz = 0)) : g_1 = upd fl 2 v := by
  first
  | exact it_s0 (by assumption)
  | exact it_s1 (by assumption)
  | exact it_s2 (by assumption)
  | exact it_s3 (by assumption)
  | exact it_s4 (by assumption)
  | exact it_s5 (by assumption)
  | exact it_s6 (by assumption)
  | exact it_s7 (by assumption)
  | grind
theorem lf_X5_make_8 {fl : Nat → Int32} {fe : Nat → Int32} {y0 : Nat} {y1 : Nat} {y2 : Nat} {y3 : Nat} {y4 : Nat} {y5 : Nat} {y6 : Nat} {y7 : Nat} {fi : Nat → Option Nat} {n : Nat} {v : Int32} {g_1 : Nat → Int32} {g_2 : Nat → Int32} {g_8 : Nat → Int32} (hfi : fi 0 = some y0 ∧ fi 1 = some y1 ∧ fi 2 = some y2 ∧ fi 3 = some y3 ∧ fi 4 = some y4 ∧ fi 5 = some y5 ∧ fi 6 = some y6 ∧ fi 7 = some y7) (hj : 2 < 8) (hfe : ∀ jq : Nat, jq < 8 → ∃ q : Nat, q ≤ 40 ∧ fe jq = nI q) (hn : n ≤ 40) (hu_1 : g_1 = upd fl 2 v) (hu_2 : g_2 = upd fe 2 (nI n)) (hF_8_0 : (∀ jz : Nat, jz < 40 → g_8 jz = 0)) : g_2 = upd fe 2 (nI n) := by
  first
  | exact it_s0 (by assumption)
  | exact it_s1 (by assumption)
  | exact it_s2 (by assumption)
  | exact it_s3 (by assumption)
  | exact it_s4 (by assumption)
  | exact it_s5 (by assumption)
  | exact it_s6 (by assumption)
  | exact it_s7 (by assumption)
  | grind
theorem lf_X5_make_9 {fl : Nat → Int32} {fe : Nat → Int32} {y0 : Nat} {y1 : Nat} {y2 : Nat} {y3 : Nat} {y4 : Nat} {y5 : Nat} {y6 : Nat} {y7 : Nat} {f0 : Nat → Int32} {f1 : Nat → Int32} {f2 : Nat → Int32} {f3 : Nat → Int32} {f4 : Nat → Int32} {f5 : Nat → Int32} {f6 : Nat → Int32} {f7 : Nat → Int32} {fi : Nat → Option Nat} {n : Nat} {v : Int32} {g_1 : Nat → Int32} {g_2 : Nat → Int32} {g_8 : Nat → Int32} (hfi : fi 0 = some y0 ∧ fi 1 = some y1 ∧ fi 2 = some y2 ∧ fi 3 = some y3 ∧ fi 4 = some y4 ∧ fi 5 = some y5 ∧ fi 6 = some y6 ∧ fi 7 = some y7) (hj : 2 < 8) (hfe : ∀ jq : Nat, jq < 8 → ∃ q : Nat, q ≤ 40 ∧ fe jq = nI q) (hn : n ≤ 40) (hu_1 : g_1 = upd fl 2 v) (hu_2 : g_2 = upd fe 2 (nI n)) (hF_8_0 : (∀ jz : Nat, jz < 40 → g_8 jz = 0)) : (itX f0 f1 g_8 f3 f4 f5 f6 f7) = upI (itX f0 f1 f2 f3 f4 f5 f6 f7) 2 (fun _ => 0) := by
  first
  | exact it_s0 (by assumption)
  | exact it_s1 (by assumption)
  | exact it_s2 (by assumption)
  | exact it_s3 (by assumption)
  | exact it_s4 (by assumption)
  | exact it_s5 (by assumption)
  | exact it_s6 (by assumption)
  | exact it_s7 (by assumption)
  | grind
theorem lf_X5_make_10 {fl : Nat → Int32} {fe : Nat → Int32} {y0 : Nat} {y1 : Nat} {y2 : Nat} {y3 : Nat} {y4 : Nat} {y5 : Nat} {y6 : Nat} {y7 : Nat} {fi : Nat → Option Nat} {n : Nat} {v : Int32} {g_1 : Nat → Int32} {g_2 : Nat → Int32} {g_10 : Nat → Int32} (hfi : fi 0 = some y0 ∧ fi 1 = some y1 ∧ fi 2 = some y2 ∧ fi 3 = some y3 ∧ fi 4 = some y4 ∧ fi 5 = some y5 ∧ fi 6 = some y6 ∧ fi 7 = some y7) (hj : 3 < 8) (hfe : ∀ jq : Nat, jq < 8 → ∃ q : Nat, q ≤ 40 ∧ fe jq = nI q) (hn : n ≤ 40) (hu_1 : g_1 = upd fl 3 v) (hu_2 : g_2 = upd fe 3 (nI n)) (hF_10_0 : (∀ jz : Nat, jz < 40 → g_10 jz = 0)) : g_1 = upd fl 3 v := by
  first
  | exact it_s0 (by assumption)
  | exact it_s1 (by assumption)
  | exact it_s2 (by assumption)
  | exact it_s3 (by assumption)
  | exact it_s4 (by assumption)
  | exact it_s5 (by assumption)
  | exact it_s6 (by assumption)
  | exact it_s7 (by assumption)
  | grind
theorem lf_X5_make_11 {fl : Nat → Int32} {fe : Nat → Int32} {y0 : Nat} {y1 : Nat} {y2 : Nat} {y3 : Nat} {y4 : Nat} {y5 : Nat} {y6 : Nat} {y7 : Nat} {fi : Nat → Option Nat} {n : Nat} {v : Int32} {g_1 : Nat → Int32} {g_2 : Nat → Int32} {g_10 : Nat → Int32} (hfi : fi 0 = some y0 ∧ fi 1 = some y1 ∧ fi 2 = some y2 ∧ fi 3 = some y3 ∧ fi 4 = some y4 ∧ fi 5 = some y5 ∧ fi 6 = some y6 ∧ fi 7 = some y7) (hj : 3 < 8) (hfe : ∀ jq : Nat, jq < 8 → ∃ q : Nat, q ≤ 40 ∧ fe jq = nI q) (hn : n ≤ 40) (hu_1 : g_1 = upd fl 3 v) (hu_2 : g_2 = upd fe 3 (nI n)) (hF_10_0 : (∀ jz : Nat, jz < 40 → g_10 jz = 0)) : g_2 = upd fe 3 (nI n) := by
  first
  | exact it_s0 (by assumption)
  | exact it_s1 (by assumption)
  | exact it_s2 (by assumption)
  | exact it_s3 (by assumption)
  | exact it_s4 (by assumption)
  | exact it_s5 (by assumption)
  | exact it_s6 (by assumption)
  | exact it_s7 (by assumption)
  | grind
theorem lf_X5_make_12 {fl : Nat → Int32} {fe : Nat → Int32} {y0 : Nat} {y1 : Nat} {y2 : Nat} {y3 : Nat} {y4 : Nat} {y5 : Nat} {y6 : Nat} {y7 : Nat} {f0 : Nat → Int32} {f1 : Nat → Int32} {f2 : Nat → Int32} {f3 : Nat → Int32} {f4 : Nat → Int32} {f5 : Nat → Int32} {f6 : Nat → Int32} {f7 : Nat → Int32} {fi : Nat → Option Nat} {n : Nat} {v : Int32} {g_1 : Nat → Int32} {g_2 : Nat → Int32} {g_10 : Nat → Int32} (hfi : fi 0 = some y0 ∧ fi 1 = some y1 ∧ fi 2 = some y2 ∧ fi 3 = some y3 ∧ fi 4 = some y4 ∧ fi 5 = some y5 ∧ fi 6 = some y6 ∧ fi 7 = some y7) (hj : 3 < 8) (hfe : ∀ jq : Nat, jq < 8 → ∃ q : Nat, q ≤ 40 ∧ fe jq = nI q) (hn : n ≤ 40) (hu_1 : g_1 = upd fl 3 v) (hu_2 : g_2 = upd fe 3 (nI n)) (hF_10_0 : (∀ jz : Nat, jz < 40 → g_10 jz = 0)) : (itX f0 f1 f2 g_10 f4 f5 f6 f7) = upI (itX f0 f1 f2 f3 f4 f5 f6 f7) 3 (fun _ => 0) := by
  first
  | exact it_s0 (by assumption)
  | exact it_s1 (by assumption)
  | exact it_s2 (by assumption)
  | exact it_s3 (by assumption)
  | exact it_s4 (by assumption)
  | exact it_s5 (by assumption)
  | exact it_s6 (by assumption)
  | exact it_s7 (by assumption)
  | grind
theorem lf_X5_make_13 {fl : Nat → Int32} {fe : Nat → Int32} {y0 : Nat} {y1 : Nat} {y2 : Nat} {y3 : Nat} {y4 : Nat} {y5 : Nat} {y6 : Nat} {y7 : Nat} {fi : Nat → Option Nat} {n : Nat} {v : Int32} {g_1 : Nat → Int32} {g_2 : Nat → Int32} {g_12 : Nat → Int32} (hfi : fi 0 = some y0 ∧ fi 1 = some y1 ∧ fi 2 = some y2 ∧ fi 3 = some y3 ∧ fi 4 = some y4 ∧ fi 5 = some y5 ∧ fi 6 = some y6 ∧ fi 7 = some y7) (hj : 4 < 8) (hfe : ∀ jq : Nat, jq < 8 → ∃ q : Nat, q ≤ 40 ∧ fe jq = nI q) (hn : n ≤ 40) (hu_1 : g_1 = upd fl 4 v) (hu_2 : g_2 = upd fe 4 (nI n)) (hF_12_0 : (∀ jz : Nat, jz < 40 → g_12 jz = 0)) : g_1 = upd fl 4 v := by
  first
  | exact it_s0 (by assumption)
  | exact it_s1 (by assumption)
  | exact it_s2 (by assumption)
  | exact it_s3 (by assumption)
  | exact it_s4 (by assumption)
  | exact it_s5 (by assumption)
  | exact it_s6 (by assumption)
  | exact it_s7 (by assumption)
  | grind
theorem lf_X5_make_14 {fl : Nat → Int32} {fe : Nat → Int32} {y0 : Nat} {y1 : Nat} {y2 : Nat} {y3 : Nat} {y4 : Nat} {y5 : Nat} {y6 : Nat} {y7 : Nat} {fi : Nat → Option Nat} {n : Nat} {v : Int32} {g_1 : Nat → Int32} {g_2 : Nat → Int32} {g_12 : Nat → Int32} (hfi : fi 0 = some y0 ∧ fi 1 = some y1 ∧ fi 2 = some y2 ∧ fi 3 = some y3 ∧ fi 4 = some y4 ∧ fi 5 = some y5 ∧ fi 6 = some y6 ∧ fi 7 = some y7) (hj : 4 < 8) (hfe : ∀ jq : Nat, jq < 8 → ∃ q : Nat, q ≤ 40 ∧ fe jq = nI q) (hn : n ≤ 40) (hu_1 : g_1 = upd fl 4 v) (hu_2 : g_2 = upd fe 4 (nI n)) (hF_12_0 : (∀ jz : Nat, jz < 40 → g_12 jz = 0)) : g_2 = upd fe 4 (nI n) := by
  first
  | exact it_s0 (by assumption)
  | exact it_s1 (by assumption)
  | exact it_s2 (by assumption)
  | exact it_s3 (by assumption)
  | exact it_s4 (by assumption)
  | exact it_s5 (by assumption)
  | exact it_s6 (by assumption)
  | exact it_s7 (by assumption)
  | grind
theorem lf_X5_make_15 {fl : Nat → Int32} {fe : Nat → Int32} {y0 : Nat} {y1 : Nat} {y2 : Nat} {y3 : Nat} {y4 : Nat} {y5 : Nat} {y6 : Nat} {y7 : Nat} {f0 : Nat → Int32} {f1 : Nat → Int32} {f2 : Nat → Int32} {f3 : Nat → Int32} {f4 : Nat → Int32} {f5 : Nat → Int32} {f6 : Nat → Int32} {f7 : Nat → Int32} {fi : Nat → Option Nat} {n : Nat} {v : Int32} {g_1 : Nat → Int32} {g_2 : Nat → Int32} {g_12 : Nat → Int32} (hfi : fi 0 = some y0 ∧ fi 1 = some y1 ∧ fi 2 = some y2 ∧ fi 3 = some y3 ∧ fi 4 = some y4 ∧ fi 5 = some y5 ∧ fi 6 = some y6 ∧ fi 7 = some y7) (hj : 4 < 8) (hfe : ∀ jq : Nat, jq < 8 → ∃ q : Nat, q ≤ 40 ∧ fe jq = nI q) (hn : n ≤ 40) (hu_1 : g_1 = upd fl 4 v) (hu_2 : g_2 = upd fe 4 (nI n)) (hF_12_0 : (∀ jz : Nat, jz < 40 → g_12 jz = 0)) : (itX f0 f1 f2 f3 g_12 f5 f6 f7) = upI (itX f0 f1 f2 f3 f4 f5 f6 f7) 4 (fun _ => 0) := by
  first
  | exact it_s0 (by assumption)
  | exact it_s1 (by assumption)
  | exact it_s2 (by assumption)
  | exact it_s3 (by assumption)
  | exact it_s4 (by assumption)
  | exact it_s5 (by assumption)
  | exact it_s6 (by assumption)
  | exact it_s7 (by assumption)
  | grind
theorem lf_X5_make_16 {fl : Nat → Int32} {fe : Nat → Int32} {y0 : Nat} {y1 : Nat} {y2 : Nat} {y3 : Nat} {y4 : Nat} {y5 : Nat} {y6 : Nat} {y7 : Nat} {fi : Nat → Option Nat} {n : Nat} {v : Int32} {g_1 : Nat → Int32} {g_2 : Nat → Int32} {g_14 : Nat → Int32} (hfi : fi 0 = some y0 ∧ fi 1 = some y1 ∧ fi 2 = some y2 ∧ fi 3 = some y3 ∧ fi 4 = some y4 ∧ fi 5 = some y5 ∧ fi 6 = some y6 ∧ fi 7 = some y7) (hj : 5 < 8) (hfe : ∀ jq : Nat, jq < 8 → ∃ q : Nat, q ≤ 40 ∧ fe jq = nI q) (hn : n ≤ 40) (hu_1 : g_1 = upd fl 5 v) (hu_2 : g_2 = upd fe 5 (nI n)) (hF_14_0 : (∀ jz : Nat, jz < 40 → g_14 jz = 0)) : g_1 = upd fl 5 v := by
  first
  | exact it_s0 (by assumption)
  | exact it_s1 (by assumption)
  | exact it_s2 (by assumption)
  | exact it_s3 (by assumption)
  | exact it_s4 (by assumption)
  | exact it_s5 (by assumption)
  | exact it_s6 (by assumption)
  | exact it_s7 (by assumption)
  | grind
theorem lf_X5_make_17 {fl : Nat → Int32} {fe : Nat → Int32} {y0 : Nat} {y1 : Nat} {y2 : Nat} {y3 : Nat} {y4 : Nat} {y5 : Nat} {y6 : Nat} {y7 : Nat} {fi : Nat → Option Nat} {n : Nat} {v : Int32} {g_1 : Nat → Int32} {g_2 : Nat → Int32} {g_14 : Nat → Int32} (hfi : fi 0 = some y0 ∧ fi 1 = some y1 ∧ fi 2 = some y2 ∧ fi 3 = some y3 ∧ fi 4 = some y4 ∧ fi 5 = some y5 ∧ fi 6 = some y6 ∧ fi 7 = some y7) (hj : 5 < 8) (hfe : ∀ jq : Nat, jq < 8 → ∃ q : Nat, q ≤ 40 ∧ fe jq = nI q) (hn : n ≤ 40) (hu_1 : g_1 = upd fl 5 v) (hu_2 : g_2 = upd fe 5 (nI n)) (hF_14_0 : (∀ jz : Nat, jz < 40 → g_14 jz = 0)) : g_2 = upd fe 5 (nI n) := by
  first
  | exact it_s0 (by assumption)
  | exact it_s1 (by assumption)
  | exact it_s2 (by assumption)
  | exact it_s3 (by assumption)
  | exact it_s4 (by assumption)
  | exact it_s5 (by assumption)
  | exact it_s6 (by assumption)
  | exact it_s7 (by assumption)
  | grind
theorem lf_X5_make_18 {fl : Nat → Int32} {fe : Nat → Int32} {y0 : Nat} {y1 : Nat} {y2 : Nat} {y3 : Nat} {y4 : Nat} {y5 : Nat} {y6 : Nat} {y7 : Nat} {f0 : Nat → Int32} {f1 : Nat → Int32} {f2 : Nat → Int32} {f3 : Nat → Int32} {f4 : Nat → Int32} {f5 : Nat → Int32} {f6 : Nat → Int32} {f7 : Nat → Int32} {fi : Nat → Option Nat} {n : Nat} {v : Int32} {g_1 : Nat → Int32} {g_2 : Nat → Int32} {g_14 : Nat → Int32} (hfi : fi 0 = some y0 ∧ fi 1 = some y1 ∧ fi 2 = some y2 ∧ fi 3 = some y3 ∧ fi 4 = some y4 ∧ fi 5 = some y5 ∧ fi 6 = some y6 ∧ fi 7 = some y7) (hj : 5 < 8) (hfe : ∀ jq : Nat, jq < 8 → ∃ q : Nat, q ≤ 40 ∧ fe jq = nI q) (hn : n ≤ 40) (hu_1 : g_1 = upd fl 5 v) (hu_2 : g_2 = upd fe 5 (nI n)) (hF_14_0 : (∀ jz : Nat, jz < 40 → g_14 jz = 0)) : (itX f0 f1 f2 f3 f4 g_14 f6 f7) = upI (itX f0 f1 f2 f3 f4 f5 f6 f7) 5 (fun _ => 0) := by
  first
  | exact it_s0 (by assumption)
  | exact it_s1 (by assumption)
  | exact it_s2 (by assumption)
  | exact it_s3 (by assumption)
  | exact it_s4 (by assumption)
  | exact it_s5 (by assumption)
  | exact it_s6 (by assumption)
  | exact it_s7 (by assumption)
  | grind
theorem lf_X5_make_19 {fl : Nat → Int32} {fe : Nat → Int32} {y0 : Nat} {y1 : Nat} {y2 : Nat} {y3 : Nat} {y4 : Nat} {y5 : Nat} {y6 : Nat} {y7 : Nat} {fi : Nat → Option Nat} {n : Nat} {v : Int32} {g_1 : Nat → Int32} {g_2 : Nat → Int32} {g_16 : Nat → Int32} (hfi : fi 0 = some y0 ∧ fi 1 = some y1 ∧ fi 2 = some y2 ∧ fi 3 = some y3 ∧ fi 4 = some y4 ∧ fi 5 = some y5 ∧ fi 6 = some y6 ∧ fi 7 = some y7) (hj : 6 < 8) (hfe : ∀ jq : Nat, jq < 8 → ∃ q : Nat, q ≤ 40 ∧ fe jq = nI q) (hn : n ≤ 40) (hu_1 : g_1 = upd fl 6 v) (hu_2 : g_2 = upd fe 6 (nI n)) (hF_16_0 : (∀ jz : Nat, jz < 40 → g_16 jz = 0)) : g_1 = upd fl 6 v := by
  first
  | exact it_s0 (by assumption)
  | exact it_s1 (by assumption)
  | exact it_s2 (by assumption)
  | exact it_s3 (by assumption)
  | exact it_s4 (by assumption)
  | exact it_s5 (by assumption)
  | exact it_s6 (by assumption)
  | exact it_s7 (by assumption)
  | grind
theorem lf_X5_make_20 {fl : Nat → Int32} {fe : Nat → Int32} {y0 : Nat} {y1 : Nat} {y2 : Nat} {y3 : Nat} {y4 : Nat} {y5 : Nat} {y6 : Nat} {y7 : Nat} {fi : Nat → Option Nat} {n : Nat} {v : Int32} {g_1 : Nat → Int32} {g_2 : Nat → Int32} {g_16 : Nat → Int32} (hfi : fi 0 = some y0 ∧ fi 1 = some y1 ∧ fi 2 = some y2 ∧ fi 3 = some y3 ∧ fi 4 = some y4 ∧ fi 5 = some y5 ∧ fi 6 = some y6 ∧ fi 7 = some y7) (hj : 6 < 8) (hfe : ∀ jq : Nat, jq < 8 → ∃ q : Nat, q ≤ 40 ∧ fe jq = nI q) (hn : n ≤ 40) (hu_1 : g_1 = upd fl 6 v) (hu_2 : g_2 = upd fe 6 (nI n)) (hF_16_0 : (∀ jz : Nat, jz < 40 → g_16 jz = 0)) : g_2 = upd fe 6 (nI n) := by
  first
  | exact it_s0 (by assumption)
  | exact it_s1 (by assumption)
  | exact it_s2 (by assumption)
  | exact it_s3 (by assumption)
  | exact it_s4 (by assumption)
  | exact it_s5 (by assumption)
  | exact it_s6 (by assumption)
  | exact it_s7 (by assumption)
  | grind
theorem lf_X5_make_21 {fl : Nat → Int32} {fe : Nat → Int32} {y0 : Nat} {y1 : Nat} {y2 : Nat} {y3 : Nat} {y4 : Nat} {y5 : Nat} {y6 : Nat} {y7 : Nat} {f0 : Nat → Int32} {f1 : Nat → Int32} {f2 : Nat → Int32} {f3 : Nat → Int32} {f4 : Nat → Int32} {f5 : Nat → Int32} {f6 : Nat → Int32} {f7 : Nat → Int32} {fi : Nat → Option Nat} {n : Nat} {v : Int32} {g_1 : Nat → Int32} {g_2 : Nat → Int32} {g_16 : Nat → Int32} (hfi : fi 0 = some y0 ∧ fi 1 = some y1 ∧ fi 2 = some y2 ∧ fi 3 = some y3 ∧ fi 4 = some y4 ∧ fi 5 = some y5 ∧ fi 6 = some y6 ∧ fi 7 = some y7) (hj : 6 < 8) (hfe : ∀ jq : Nat, jq < 8 → ∃ q : Nat, q ≤ 40 ∧ fe jq = nI q) (hn : n ≤ 40) (hu_1 : g_1 = upd fl 6 v) (hu_2 : g_2 = upd fe 6 (nI n)) (hF_16_0 : (∀ jz : Nat, jz < 40 → g_16 jz = 0)) : (itX f0 f1 f2 f3 f4 f5 g_16 f7) = upI (itX f0 f1 f2 f3 f4 f5 f6 f7) 6 (fun _ => 0) := by
  first
  | exact it_s0 (by assumption)
  | exact it_s1 (by assumption)
  | exact it_s2 (by assumption)
  | exact it_s3 (by assumption)
  | exact it_s4 (by assumption)
  | exact it_s5 (by assumption)
  | exact it_s6 (by assumption)
  | exact it_s7 (by assumption)
  | grind
theorem lf_X5_make_22 {fl : Nat → Int32} {fe : Nat → Int32} {y0 : Nat} {y1 : Nat} {y2 : Nat} {y3 : Nat} {y4 : Nat} {y5 : Nat} {y6 : Nat} {y7 : Nat} {fi : Nat → Option Nat} {n : Nat} {v : Int32} {g_1 : Nat → Int32} {g_2 : Nat → Int32} {g_18 : Nat → Int32} (hfi : fi 0 = some y0 ∧ fi 1 = some y1 ∧ fi 2 = some y2 ∧ fi 3 = some y3 ∧ fi 4 = some y4 ∧ fi 5 = some y5 ∧ fi 6 = some y6 ∧ fi 7 = some y7) (hj : 7 < 8) (hfe : ∀ jq : Nat, jq < 8 → ∃ q : Nat, q ≤ 40 ∧ fe jq = nI q) (hn : n ≤ 40) (hu_1 : g_1 = upd fl 7 v) (hu_2 : g_2 = upd fe 7 (nI n)) (hF_18_0 : (∀ jz : Nat, jz < 40 → g_18 jz = 0)) : g_1 = upd fl 7 v := by
  first
  | exact it_s0 (by assumption)
  | exact it_s1 (by assumption)
  | exact it_s2 (by assumption)
  | exact it_s3 (by assumption)
  | exact it_s4 (by assumption)
  | exact it_s5 (by assumption)
  | exact it_s6 (by assumption)
  | exact it_s7 (by assumption)
  | grind
theorem lf_X5_make_23 {fl : Nat → Int32} {fe : Nat → Int32} {y0 : Nat} {y1 : Nat} {y2 : Nat} {y3 : Nat} {y4 : Nat} {y5 : Nat} {y6 : Nat} {y7 : Nat} {fi : Nat → Option Nat} {n : Nat} {v : Int32} {g_1 : Nat → Int32} {g_2 : Nat → Int32} {g_18 : Nat → Int32} (hfi : fi 0 = some y0 ∧ fi 1 = some y1 ∧ fi 2 = some y2 ∧ fi 3 = some y3 ∧ fi 4 = some y4 ∧ fi 5 = some y5 ∧ fi 6 = some y6 ∧ fi 7 = some y7) (hj : 7 < 8) (hfe : ∀ jq : Nat, jq < 8 → ∃ q : Nat, q ≤ 40 ∧ fe jq = nI q) (hn : n ≤ 40) (hu_1 : g_1 = upd fl 7 v) (hu_2 : g_2 = upd fe 7 (nI n)) (hF_18_0 : (∀ jz : Nat, jz < 40 → g_18 jz = 0)) : g_2 = upd fe 7 (nI n) := by
  first
  | exact it_s0 (by assumption)
  | exact it_s1 (by assumption)
  | exact it_s2 (by assumption)
  | exact it_s3 (by assumption)
  | exact it_s4 (by assumption)
  | exact it_s5 (by assumption)
  | exact it_s6 (by assumption)
  | exact it_s7 (by assumption)
  | grind
theorem lf_X5_make_24 {fl : Nat → Int32} {fe : Nat → Int32} {y0 : Nat} {y1 : Nat} {y2 : Nat} {y3 : Nat} {y4 : Nat} {y5 : Nat} {y6 : Nat} {y7 : Nat} {f0 : Nat → Int32} {f1 : Nat → Int32} {f2 : Nat → Int32} {f3 : Nat → Int32} {f4 : Nat → Int32} {f5 : Nat → Int32} {f6 : Nat → Int32} {f7 : Nat → Int32} {fi : Nat → Option Nat} {n : Nat} {v : Int32} {g_1 : Nat → Int32} {g_2 : Nat → Int32} {g_18 : Nat → Int32} (hfi : fi 0 = some y0 ∧ fi 1 = some y1 ∧ fi 2 = some y2 ∧ fi 3 = some y3 ∧ fi 4 = some y4 ∧ fi 5 = some y5 ∧ fi 6 = some y6 ∧ fi 7 = some y7) (hj : 7 < 8) (hfe : ∀ jq : Nat, jq < 8 → ∃ q : Nat, q ≤ 40 ∧ fe jq = nI q) (hn : n ≤ 40) (hu_1 : g_1 = upd fl 7 v) (hu_2 : g_2 = upd fe 7 (nI n)) (hF_18_0 : (∀ jz : Nat, jz < 40 → g_18 jz = 0)) : (itX f0 f1 f2 f3 f4 f5 f6 g_18) = upI (itX f0 f1 f2 f3 f4 f5 f6 f7) 7 (fun _ => 0) := by
  first
  | exact it_s0 (by assumption)
  | exact it_s1 (by assumption)
  | exact it_s2 (by assumption)
  | exact it_s3 (by assumption)
  | exact it_s4 (by assumption)
  | exact it_s5 (by assumption)
  | exact it_s6 (by assumption)
  | exact it_s7 (by assumption)
  | grind
set_option maxHeartbeats 4000000 in
set_option maxRecDepth 100000 in
theorem r_X5_make (l : Launch) (dC : Nat → ClassId) (dI : Nat → Nat → Nat) (cI cZ cL cJ : ClassId) (sz : Nat) (h : Nat) (it : Nat) (la : Nat) (le : Nat) (fl : Nat → Int32) (fe : Nat → Int32) (y0 : Nat) (y1 : Nat) (y2 : Nat) (y3 : Nat) (y4 : Nat) (y5 : Nat) (y6 : Nat) (y7 : Nat) (f0 : Nat → Int32) (f1 : Nat → Int32) (f2 : Nat → Int32) (f3 : Nat → Int32) (f4 : Nat → Int32) (f5 : Nat → Int32) (f6 : Nat → Int32) (f7 : Nat → Int32) (fi : Nat → Option Nat) (j : Nat) (n : Nat) (v : Int32) (hfi : fi 0 = some y0 ∧ fi 1 = some y1 ∧ fi 2 = some y2 ∧ fi 3 = some y3 ∧ fi 4 = some y4 ∧ fi 5 = some y5 ∧ fi 6 = some y6 ∧ fi 7 = some y7) (hj : j < 8) (hfe : ∀ jq : Nat, jq < 8 → ∃ q : Nat, q ≤ 40 ∧ fe jq = nI q) (hn : n ≤ 40) : Met l yX5_make wsX5_make ({ frames := 1, cells := 0, slots := 0, locals := 23 }) (va_Pc [.ref h, .int (nI j), .int v, .int (nI n)] (fun U => U.heap.size = sz ∧ va_P (dC, dI) vwCl [(xo_5_rrr h it la le), (xI la cI 8 fl), (xI le cI 8 fe), (xJ it cJ 8 fi), (xI y0 cI 40 f0), (xI y1 cI 40 f1), (xI y2 cI 40 f2), (xI y3 cI 40 f3), (xI y4 cI 40 f4), (xI y5 cI 40 f5), (xI y6 cI 40 f6), (xI y7 cI 40 f7)] U.heap ∧ va_K (dC, dI) vwCl [(cI, .int), (cZ, .boolean), (cL, .object RX3), (cJ, .array .int)] U ∧ va_D (fun _ => True) [(xo_5_rrr h it la le), (xI la cI 8 fl), (xI le cI 8 fe), (xJ it cJ 8 fi), (xI y0 cI 40 f0), (xI y1 cI 40 f1), (xI y2 cI 40 f2), (xI y3 cI 40 f3), (xI y4 cI 40 f4), (xI y5 cI 40 f5), (xI y6 cI 40 f6), (xI y7 cI 40 f7)])) (va_Qv (fun (_ : Unit) => True) (fun (_ : Unit) t => ∃ (fln : Nat → Int32) (fen : Nat → Int32) (f0n : Nat → Int32) (f1n : Nat → Int32) (f2n : Nat → Int32) (f3n : Nat → Int32) (f4n : Nat → Int32) (f5n : Nat → Int32) (f6n : Nat → Int32) (f7n : Nat → Int32), va_P (dC, dI) vwCl [(xo_5_rrr h it la le), (xI la cI 8 fln), (xI le cI 8 fen), (xJ it cJ 8 fi), (xI y0 cI 40 f0n), (xI y1 cI 40 f1n), (xI y2 cI 40 f2n), (xI y3 cI 40 f3n), (xI y4 cI 40 f4n), (xI y5 cI 40 f5n), (xI y6 cI 40 f6n), (xI y7 cI 40 f7n)] t.heap ∧ va_D (va_A [(xo_5_rrr h it la le), (xI la cI 8 fl), (xI le cI 8 fe), (xJ it cJ 8 fi), (xI y0 cI 40 f0), (xI y1 cI 40 f1), (xI y2 cI 40 f2), (xI y3 cI 40 f3), (xI y4 cI 40 f4), (xI y5 cI 40 f5), (xI y6 cI 40 f6), (xI y7 cI 40 f7)] sz) [(xo_5_rrr h it la le), (xI la cI 8 fln), (xI le cI 8 fen), (xJ it cJ 8 fi), (xI y0 cI 40 f0n), (xI y1 cI 40 f1n), (xI y2 cI 40 f2n), (xI y3 cI 40 f3n), (xI y4 cI 40 f4n), (xI y5 cI 40 f5n), (xI y6 cI 40 f6n), (xI y7 cI 40 f7n)] ∧ (∀ jq : Nat, jq < 8 → ∃ q : Nat, q ≤ 40 ∧ fen jq = nI q) ∧ fln = upd fl j v ∧ fen = upd fe j (nI n) ∧ (itX f0n f1n f2n f3n f4n f5n f6n f7n) = upI (itX f0 f1 f2 f3 f4 f5 f6 f7) j (fun _ => 0)) (va_A [(xo_5_rrr h it la le), (xI la cI 8 fl), (xI le cI 8 fe), (xJ it cJ 8 fi), (xI y0 cI 40 f0), (xI y1 cI 40 f1), (xI y2 cI 40 f2), (xI y3 cI 40 f3), (xI y4 cI 40 f4), (xI y5 cI 40 f5), (xI y6 cI 40 f6), (xI y7 cI 40 f7)] sz)) 0 0 (va_A [(xo_5_rrr h it la le), (xI la cI 8 fl), (xI le cI 8 fe), (xJ it cJ 8 fi), (xI y0 cI 40 f0), (xI y1 cI 40 f1), (xI y2 cI 40 f2), (xI y3 cI 40 f3), (xI y4 cI 40 f4), (xI y5 cI 40 f5), (xI y6 cI 40 f6), (xI y7 cI 40 f7)] sz) := by
  refine Met.ofW (cc := cX5_make) (maxL := 4) (ret := none) (by decide) rfl ?_
  intro p e s m args below meth c s₁ B hml hv
  obtain ⟨rfl, hsz, hP, hK, hD0⟩ := hv
  have hx := B.exec
  have hb := B.bytes
  have hr := B.returns
  have hts := atoms_spec (ws := wsX5_make) B.pre
  have hown : s.vm.findClass RX5 = some m.cls := findClass_of_methodNamed B.named
  have hlocks := B.notSynchronized
  subst hsz
  have hD := hD0.self (sz := s.heap.size)
  generalize hAe : va_A [(xo_5_rrr h it la le), (xI la cI 8 fl), (xI le cI 8 fe), (xJ it cJ 8 fi), (xI y0 cI 40 f0), (xI y1 cI 40 f1), (xI y2 cI 40 f2), (xI y3 cI 40 f3), (xI y4 cI 40 f4), (xI y5 cI 40 f5), (xI y6 cI 40 f6), (xI y7 cI 40 f7)] s.heap.size = A at hD ⊢
  have hA : ∀ q : Nat, s.heap.size ≤ q → A q := fun q h => by rw [← hAe]; exact Or.inr h
  have hS : va_S A s.heap s.heap [] := va_S.rf
  have hP : va_P (dC, dI) vwCl [(xo_5_rrr h it la le), (xI la cI 8 fl), (xI le cI 8 fe), (xJ it cJ 8 fi), (xI y0 cI 40 f0), (xI y1 cI 40 f1), (xI y2 cI 40 f2), (xI y3 cI 40 f3), (xI y4 cI 40 f4), (xI y5 cI 40 f5), (xI y6 cI 40 f6), (xI y7 cI 40 f7)] s.heap := hP
  have hl := lv_entry ([.ref h, .int (nI j), .int v, .int (nI n)]) (n := 4) (Nat.le_of_ble_eq_true rfl)
  rw [lg_entry_eq]
  generalize (lg_sl ([.ref h, .int (nI j), .int v, .int (nI n)]) ++ List.replicate (4 - (lg_sl ([.ref h, .int (nI j), .int v, .int (nI n)])).length) Slot.unset).toArray = ls at hl ⊢
  have hl : lv_has ls 4 [(0, .ref h), (1, .int (nI j)), (2, .int v), (3, .int (nI n))] := hl
  refine lv_aload_n hx hb dX5_make_0 rfl (lv_at hl 0 rfl) ?_
  refine va_get (D := (dC, dI)) (ci := 5) (v := .ref la) (C := RX5) (T := TX5) (N := 3) hx hb hts i_X5_make_X5 hown hK hP 0 rfl rfl 1 (by decide) (hts _ mx_X5_make_1) (fun _ h9 => h9) rfl dX5_make_1 ?_
  refine lv_iload_n hx hb dX5_make_4 rfl (lv_at hl 1 rfl) ?_
  refine lv_iload_n hx hb dX5_make_5 rfl (lv_at hl 2 rfl) ?_
  refine va_iast hx hb hK hP hD hS 1 0 rfl rfl (vp_in_nI (by omega) (by omega)) dX5_make_6 (fun H locs hP hD hS => ?_)
  generalize hg_1 : upd fl ((nI j) : Int32).toNatClampNeg v = g_1 at hP hD
  have hu_1 : g_1 = upd fl j v := (by rw [← hg_1, nI_clamp (by omega)])
  have hP : va_P (dC, dI) vwCl [(xo_5_rrr h it la le), (xI la cI 8 g_1), (xI le cI 8 fe), (xJ it cJ 8 fi), (xI y0 cI 40 f0), (xI y1 cI 40 f1), (xI y2 cI 40 f2), (xI y3 cI 40 f3), (xI y4 cI 40 f4), (xI y5 cI 40 f5), (xI y6 cI 40 f6), (xI y7 cI 40 f7)] H := hP
  have hD := dto hP hD
  refine lv_aload_n hx hb dX5_make_7 rfl (lv_at hl 0 rfl) ?_
  refine va_get (D := (dC, dI)) (ci := 5) (v := .ref le) (C := RX5) (T := TX5) (N := 3) hx hb hts i_X5_make_X5 hown hK hP 0 rfl rfl 2 (by decide) (hts _ mx_X5_make_2) (fun _ h9 => h9) rfl dX5_make_8 ?_
  refine lv_iload_n hx hb dX5_make_11 rfl (lv_at hl 1 rfl) ?_
  refine lv_iload_n hx hb dX5_make_12 rfl (lv_at hl 3 rfl) ?_
  refine va_iast hx hb hK hP hD hS 2 0 rfl rfl (vp_in_nI (by omega) (by omega)) dX5_make_13 (fun H locs hP hD hS => ?_)
  generalize hg_2 : upd fe ((nI j) : Int32).toNatClampNeg (nI n) = g_2 at hP hD
  have hu_2 : g_2 = upd fe j (nI n) := (by rw [← hg_2, nI_clamp (by omega)])
  have hP : va_P (dC, dI) vwCl [(xo_5_rrr h it la le), (xI la cI 8 g_1), (xI le cI 8 g_2), (xJ it cJ 8 fi), (xI y0 cI 40 f0), (xI y1 cI 40 f1), (xI y2 cI 40 f2), (xI y3 cI 40 f3), (xI y4 cI 40 f4), (xI y5 cI 40 f5), (xI y6 cI 40 f6), (xI y7 cI 40 f7)] H := hP
  have hD := dto hP hD
  rcases (show j = 0 ∨ j = 1 ∨ j = 2 ∨ j = 3 ∨ j = 4 ∨ j = 5 ∨ j = 6 ∨ j = 7 by omega) with rfl | rfl | rfl | rfl | rfl | rfl | rfl | rfl
  · skip
    have hl : lv_has ls 4 [(0, .ref h), (1, .int 0), (2, .int v), (3, .int (nI n))] := hl
    refine lv_aload_n hx hb dX5_make_14 rfl (lv_at hl 0 rfl) ?_
    refine va_get (D := (dC, dI)) (ci := 5) (v := .ref it) (C := RX5) (T := TX5) (N := 3) hx hb hts i_X5_make_X5 hown hK hP 0 rfl rfl 0 (by decide) (hts _ mx_X5_make_3) (fun _ h9 => h9) rfl dX5_make_15 ?_
    refine lv_iload_n hx hb dX5_make_18 rfl (lv_at hl 1 rfl) ?_
    refine nw_alk hx hb hK hP 3 3 rfl rfl 0 rfl (Nat.le_of_ble_eq_true rfl) (Nat.le_of_ble_eq_true rfl) hfi.1 dX5_make_19 ?_
    refine lv_iconst (v := 0) hx hb dX5_make_20 (by decide) ?_
    have hc_4 := cutW (wc := [(xI y0 cI 40 f0)]) hP hD hS hA [4] (by decide +kernel) rfl
    refine va_callv (va_runS (As := [.ref y0, .int 0]) (rest := []) ⟨hx, hb, hml, hown, hts⟩ (r_J7_fill l dC dI cI cZ cL cJ H.size y0 40 f0 0 (by decide)) (va_cwS 2 hts gX5_make_J7_fill_53178 rfl rfl rfl (by decide +kernel) ⟨Nat.le_of_ble_eq_true rfl, Nat.le_of_ble_eq_true rfl⟩) (psW hK hc_4) rfl rfl hl.1 rfl (lv_room (Nat.le_of_ble_eq_true rfl)) dX5_make_21 ⟨Nat.le_of_ble_eq_true rfl, Nat.le_of_ble_eq_true rfl⟩) hS (fun q _ h => hc_4.2.2 q h) hc_4.2.2 (fun u_4 t_4 H1 locs ht hvm h_4 hB hz1 hk1 hS => ?_)
    refine xl_1_3 hB (fun g_4 hP1 hD1 hF_4_0 => ?_)
    clear hB
    rw [ht] at hP1
    obtain ⟨hP, hD⟩ := va_join (wr := [(xo_5_rrr h it la le), (xI la cI 8 g_1), (xI le cI 8 g_2), (xJ it cJ 8 fi), (xI y1 cI 40 f1), (xI y2 cI 40 f2), (xI y3 cI 40 f3), (xI y4 cI 40 f4), (xI y5 cI 40 f5), (xI y6 cI 40 f6), (xI y7 cI 40 f7)]) (w1 := [(xI y0 cI 40 g_4)]) hP hD [4] [0, 1, 2, 3, 5, 6, 7, 8, 9, 10, 11] rfl rfl (by decide +kernel) (by decide +kernel) hk1 hc_4.2.2 hP1 hD1
    generalize H1 = H at hP hS ⊢
    have hP : va_P (dC, dI) vwCl [(xo_5_rrr h it la le), (xI la cI 8 g_1), (xI le cI 8 g_2), (xJ it cJ 8 fi), (xI y1 cI 40 f1), (xI y2 cI 40 f2), (xI y3 cI 40 f3), (xI y4 cI 40 f4), (xI y5 cI 40 f5), (xI y6 cI 40 f6), (xI y7 cI 40 f7), (xI y0 cI 40 g_4)] H := hP
    have hD := dto hP hD
    have hX9 := cut2 (wc := [(xo_5_rrr h it la le), (xI la cI 8 g_1), (xI le cI 8 g_2), (xJ it cJ 8 fi), (xI y0 cI 40 g_4), (xI y1 cI 40 f1), (xI y2 cI 40 f2), (xI y3 cI 40 f3), (xI y4 cI 40 f4), (xI y5 cI 40 f5), (xI y6 cI 40 f6), (xI y7 cI 40 f7)]) hP hD [0, 1, 2, 3, 11, 4, 5, 6, 7, 8, 9, 10] (by decide +kernel) rfl
    exact W.vret hx hb hr (fun t ht hW => ⟨⟨(), rfl, trivial, ⟨g_1, g_2, g_4, f1, f2, f3, f4, f5, f6, f7, va_Ht ht hX9.1, hX9.2, (fe_up hfe (by omega) hn hg_2.symm), (lf_X5_make_1 hfi hj hfe hn hu_1 hu_2 hF_4_0), (lf_X5_make_2 hfi hj hfe hn hu_1 hu_2 hF_4_0), (lf_X5_make_3 hfi hj hfe hn hu_1 hu_2 hF_4_0)⟩⟩, hS.F ht⟩) hS.2.2 dX5_make_24
  · skip
    have hl : lv_has ls 4 [(0, .ref h), (1, .int 1), (2, .int v), (3, .int (nI n))] := hl
    refine lv_aload_n hx hb dX5_make_14 rfl (lv_at hl 0 rfl) ?_
    refine va_get (D := (dC, dI)) (ci := 5) (v := .ref it) (C := RX5) (T := TX5) (N := 3) hx hb hts i_X5_make_X5 hown hK hP 0 rfl rfl 0 (by decide) (hts _ mx_X5_make_3) (fun _ h9 => h9) rfl dX5_make_15 ?_
    refine lv_iload_n hx hb dX5_make_18 rfl (lv_at hl 1 rfl) ?_
    refine nw_alk hx hb hK hP 3 3 rfl rfl 1 rfl (Nat.le_of_ble_eq_true rfl) (Nat.le_of_ble_eq_true rfl) hfi.2.1 dX5_make_19 ?_
    refine lv_iconst (v := 0) hx hb dX5_make_20 (by decide) ?_
    have hc_6 := cutW (wc := [(xI y1 cI 40 f1)]) hP hD hS hA [5] (by decide +kernel) rfl
    refine va_callv (va_runS (As := [.ref y1, .int 0]) (rest := []) ⟨hx, hb, hml, hown, hts⟩ (r_J7_fill l dC dI cI cZ cL cJ H.size y1 40 f1 0 (by decide)) (va_cwS 2 hts gX5_make_J7_fill_53178 rfl rfl rfl (by decide +kernel) ⟨Nat.le_of_ble_eq_true rfl, Nat.le_of_ble_eq_true rfl⟩) (psW hK hc_6) rfl rfl hl.1 rfl (lv_room (Nat.le_of_ble_eq_true rfl)) dX5_make_21 ⟨Nat.le_of_ble_eq_true rfl, Nat.le_of_ble_eq_true rfl⟩) hS (fun q _ h => hc_6.2.2 q h) hc_6.2.2 (fun u_6 t_6 H1 locs ht hvm h_6 hB hz1 hk1 hS => ?_)
    refine xl_1_3 hB (fun g_6 hP1 hD1 hF_6_0 => ?_)
    clear hB
    rw [ht] at hP1
    obtain ⟨hP, hD⟩ := va_join (wr := [(xo_5_rrr h it la le), (xI la cI 8 g_1), (xI le cI 8 g_2), (xJ it cJ 8 fi), (xI y0 cI 40 f0), (xI y2 cI 40 f2), (xI y3 cI 40 f3), (xI y4 cI 40 f4), (xI y5 cI 40 f5), (xI y6 cI 40 f6), (xI y7 cI 40 f7)]) (w1 := [(xI y1 cI 40 g_6)]) hP hD [5] [0, 1, 2, 3, 4, 6, 7, 8, 9, 10, 11] rfl rfl (by decide +kernel) (by decide +kernel) hk1 hc_6.2.2 hP1 hD1
    generalize H1 = H at hP hS ⊢
    have hP : va_P (dC, dI) vwCl [(xo_5_rrr h it la le), (xI la cI 8 g_1), (xI le cI 8 g_2), (xJ it cJ 8 fi), (xI y0 cI 40 f0), (xI y2 cI 40 f2), (xI y3 cI 40 f3), (xI y4 cI 40 f4), (xI y5 cI 40 f5), (xI y6 cI 40 f6), (xI y7 cI 40 f7), (xI y1 cI 40 g_6)] H := hP
    have hD := dto hP hD
    have hX9 := cut2 (wc := [(xo_5_rrr h it la le), (xI la cI 8 g_1), (xI le cI 8 g_2), (xJ it cJ 8 fi), (xI y0 cI 40 f0), (xI y1 cI 40 g_6), (xI y2 cI 40 f2), (xI y3 cI 40 f3), (xI y4 cI 40 f4), (xI y5 cI 40 f5), (xI y6 cI 40 f6), (xI y7 cI 40 f7)]) hP hD [0, 1, 2, 3, 4, 11, 5, 6, 7, 8, 9, 10] (by decide +kernel) rfl
    exact W.vret hx hb hr (fun t ht hW => ⟨⟨(), rfl, trivial, ⟨g_1, g_2, f0, g_6, f2, f3, f4, f5, f6, f7, va_Ht ht hX9.1, hX9.2, (fe_up hfe (by omega) hn hg_2.symm), (lf_X5_make_4 hfi hj hfe hn hu_1 hu_2 hF_6_0), (lf_X5_make_5 hfi hj hfe hn hu_1 hu_2 hF_6_0), (lf_X5_make_6 hfi hj hfe hn hu_1 hu_2 hF_6_0)⟩⟩, hS.F ht⟩) hS.2.2 dX5_make_24
  · skip
    have hl : lv_has ls 4 [(0, .ref h), (1, .int 2), (2, .int v), (3, .int (nI n))] := hl
    refine lv_aload_n hx hb dX5_make_14 rfl (lv_at hl 0 rfl) ?_
    refine va_get (D := (dC, dI)) (ci := 5) (v := .ref it) (C := RX5) (T := TX5) (N := 3) hx hb hts i_X5_make_X5 hown hK hP 0 rfl rfl 0 (by decide) (hts _ mx_X5_make_3) (fun _ h9 => h9) rfl dX5_make_15 ?_
    refine lv_iload_n hx hb dX5_make_18 rfl (lv_at hl 1 rfl) ?_
    refine nw_alk hx hb hK hP 3 3 rfl rfl 2 rfl (Nat.le_of_ble_eq_true rfl) (Nat.le_of_ble_eq_true rfl) hfi.2.2.1 dX5_make_19 ?_
    refine lv_iconst (v := 0) hx hb dX5_make_20 (by decide) ?_
    have hc_8 := cutW (wc := [(xI y2 cI 40 f2)]) hP hD hS hA [6] (by decide +kernel) rfl
    refine va_callv (va_runS (As := [.ref y2, .int 0]) (rest := []) ⟨hx, hb, hml, hown, hts⟩ (r_J7_fill l dC dI cI cZ cL cJ H.size y2 40 f2 0 (by decide)) (va_cwS 2 hts gX5_make_J7_fill_53178 rfl rfl rfl (by decide +kernel) ⟨Nat.le_of_ble_eq_true rfl, Nat.le_of_ble_eq_true rfl⟩) (psW hK hc_8) rfl rfl hl.1 rfl (lv_room (Nat.le_of_ble_eq_true rfl)) dX5_make_21 ⟨Nat.le_of_ble_eq_true rfl, Nat.le_of_ble_eq_true rfl⟩) hS (fun q _ h => hc_8.2.2 q h) hc_8.2.2 (fun u_8 t_8 H1 locs ht hvm h_8 hB hz1 hk1 hS => ?_)
    refine xl_1_3 hB (fun g_8 hP1 hD1 hF_8_0 => ?_)
    clear hB
    rw [ht] at hP1
    obtain ⟨hP, hD⟩ := va_join (wr := [(xo_5_rrr h it la le), (xI la cI 8 g_1), (xI le cI 8 g_2), (xJ it cJ 8 fi), (xI y0 cI 40 f0), (xI y1 cI 40 f1), (xI y3 cI 40 f3), (xI y4 cI 40 f4), (xI y5 cI 40 f5), (xI y6 cI 40 f6), (xI y7 cI 40 f7)]) (w1 := [(xI y2 cI 40 g_8)]) hP hD [6] [0, 1, 2, 3, 4, 5, 7, 8, 9, 10, 11] rfl rfl (by decide +kernel) (by decide +kernel) hk1 hc_8.2.2 hP1 hD1
    generalize H1 = H at hP hS ⊢
    have hP : va_P (dC, dI) vwCl [(xo_5_rrr h it la le), (xI la cI 8 g_1), (xI le cI 8 g_2), (xJ it cJ 8 fi), (xI y0 cI 40 f0), (xI y1 cI 40 f1), (xI y3 cI 40 f3), (xI y4 cI 40 f4), (xI y5 cI 40 f5), (xI y6 cI 40 f6), (xI y7 cI 40 f7), (xI y2 cI 40 g_8)] H := hP
    have hD := dto hP hD
    have hX9 := cut2 (wc := [(xo_5_rrr h it la le), (xI la cI 8 g_1), (xI le cI 8 g_2), (xJ it cJ 8 fi), (xI y0 cI 40 f0), (xI y1 cI 40 f1), (xI y2 cI 40 g_8), (xI y3 cI 40 f3), (xI y4 cI 40 f4), (xI y5 cI 40 f5), (xI y6 cI 40 f6), (xI y7 cI 40 f7)]) hP hD [0, 1, 2, 3, 4, 5, 11, 6, 7, 8, 9, 10] (by decide +kernel) rfl
    exact W.vret hx hb hr (fun t ht hW => ⟨⟨(), rfl, trivial, ⟨g_1, g_2, f0, f1, g_8, f3, f4, f5, f6, f7, va_Ht ht hX9.1, hX9.2, (fe_up hfe (by omega) hn hg_2.symm), (lf_X5_make_7 hfi hj hfe hn hu_1 hu_2 hF_8_0), (lf_X5_make_8 hfi hj hfe hn hu_1 hu_2 hF_8_0), (lf_X5_make_9 hfi hj hfe hn hu_1 hu_2 hF_8_0)⟩⟩, hS.F ht⟩) hS.2.2 dX5_make_24
  · skip
    have hl : lv_has ls 4 [(0, .ref h), (1, .int 3), (2, .int v), (3, .int (nI n))] := hl
    refine lv_aload_n hx hb dX5_make_14 rfl (lv_at hl 0 rfl) ?_
    refine va_get (D := (dC, dI)) (ci := 5) (v := .ref it) (C := RX5) (T := TX5) (N := 3) hx hb hts i_X5_make_X5 hown hK hP 0 rfl rfl 0 (by decide) (hts _ mx_X5_make_3) (fun _ h9 => h9) rfl dX5_make_15 ?_
    refine lv_iload_n hx hb dX5_make_18 rfl (lv_at hl 1 rfl) ?_
    refine nw_alk hx hb hK hP 3 3 rfl rfl 3 rfl (Nat.le_of_ble_eq_true rfl) (Nat.le_of_ble_eq_true rfl) hfi.2.2.2.1 dX5_make_19 ?_
    refine lv_iconst (v := 0) hx hb dX5_make_20 (by decide) ?_
    have hc_10 := cutW (wc := [(xI y3 cI 40 f3)]) hP hD hS hA [7] (by decide +kernel) rfl
    refine va_callv (va_runS (As := [.ref y3, .int 0]) (rest := []) ⟨hx, hb, hml, hown, hts⟩ (r_J7_fill l dC dI cI cZ cL cJ H.size y3 40 f3 0 (by decide)) (va_cwS 2 hts gX5_make_J7_fill_53178 rfl rfl rfl (by decide +kernel) ⟨Nat.le_of_ble_eq_true rfl, Nat.le_of_ble_eq_true rfl⟩) (psW hK hc_10) rfl rfl hl.1 rfl (lv_room (Nat.le_of_ble_eq_true rfl)) dX5_make_21 ⟨Nat.le_of_ble_eq_true rfl, Nat.le_of_ble_eq_true rfl⟩) hS (fun q _ h => hc_10.2.2 q h) hc_10.2.2 (fun u_10 t_10 H1 locs ht hvm h_10 hB hz1 hk1 hS => ?_)
    refine xl_1_3 hB (fun g_10 hP1 hD1 hF_10_0 => ?_)
    clear hB
    rw [ht] at hP1
    obtain ⟨hP, hD⟩ := va_join (wr := [(xo_5_rrr h it la le), (xI la cI 8 g_1), (xI le cI 8 g_2), (xJ it cJ 8 fi), (xI y0 cI 40 f0), (xI y1 cI 40 f1), (xI y2 cI 40 f2), (xI y4 cI 40 f4), (xI y5 cI 40 f5), (xI y6 cI 40 f6), (xI y7 cI 40 f7)]) (w1 := [(xI y3 cI 40 g_10)]) hP hD [7] [0, 1, 2, 3, 4, 5, 6, 8, 9, 10, 11] rfl rfl (by decide +kernel) (by decide +kernel) hk1 hc_10.2.2 hP1 hD1
    generalize H1 = H at hP hS ⊢
    have hP : va_P (dC, dI) vwCl [(xo_5_rrr h it la le), (xI la cI 8 g_1), (xI le cI 8 g_2), (xJ it cJ 8 fi), (xI y0 cI 40 f0), (xI y1 cI 40 f1), (xI y2 cI 40 f2), (xI y4 cI 40 f4), (xI y5 cI 40 f5), (xI y6 cI 40 f6), (xI y7 cI 40 f7), (xI y3 cI 40 g_10)] H := hP
    have hD := dto hP hD
    have hX9 := cut2 (wc := [(xo_5_rrr h it la le), (xI la cI 8 g_1), (xI le cI 8 g_2), (xJ it cJ 8 fi), (xI y0 cI 40 f0), (xI y1 cI 40 f1), (xI y2 cI 40 f2), (xI y3 cI 40 g_10), (xI y4 cI 40 f4), (xI y5 cI 40 f5), (xI y6 cI 40 f6), (xI y7 cI 40 f7)]) hP hD [0, 1, 2, 3, 4, 5, 6, 11, 7, 8, 9, 10] (by decide +kernel) rfl
    exact W.vret hx hb hr (fun t ht hW => ⟨⟨(), rfl, trivial, ⟨g_1, g_2, f0, f1, f2, g_10, f4, f5, f6, f7, va_Ht ht hX9.1, hX9.2, (fe_up hfe (by omega) hn hg_2.symm), (lf_X5_make_10 hfi hj hfe hn hu_1 hu_2 hF_10_0), (lf_X5_make_11 hfi hj hfe hn hu_1 hu_2 hF_10_0), (lf_X5_make_12 hfi hj hfe hn hu_1 hu_2 hF_10_0)⟩⟩, hS.F ht⟩) hS.2.2 dX5_make_24
  · skip
    have hl : lv_has ls 4 [(0, .ref h), (1, .int 4), (2, .int v), (3, .int (nI n))] := hl
    refine lv_aload_n hx hb dX5_make_14 rfl (lv_at hl 0 rfl) ?_
    refine va_get (D := (dC, dI)) (ci := 5) (v := .ref it) (C := RX5) (T := TX5) (N := 3) hx hb hts i_X5_make_X5 hown hK hP 0 rfl rfl 0 (by decide) (hts _ mx_X5_make_3) (fun _ h9 => h9) rfl dX5_make_15 ?_
    refine lv_iload_n hx hb dX5_make_18 rfl (lv_at hl 1 rfl) ?_
    refine nw_alk hx hb hK hP 3 3 rfl rfl 4 rfl (Nat.le_of_ble_eq_true rfl) (Nat.le_of_ble_eq_true rfl) hfi.2.2.2.2.1 dX5_make_19 ?_
    refine lv_iconst (v := 0) hx hb dX5_make_20 (by decide) ?_
    have hc_12 := cutW (wc := [(xI y4 cI 40 f4)]) hP hD hS hA [8] (by decide +kernel) rfl
    refine va_callv (va_runS (As := [.ref y4, .int 0]) (rest := []) ⟨hx, hb, hml, hown, hts⟩ (r_J7_fill l dC dI cI cZ cL cJ H.size y4 40 f4 0 (by decide)) (va_cwS 2 hts gX5_make_J7_fill_53178 rfl rfl rfl (by decide +kernel) ⟨Nat.le_of_ble_eq_true rfl, Nat.le_of_ble_eq_true rfl⟩) (psW hK hc_12) rfl rfl hl.1 rfl (lv_room (Nat.le_of_ble_eq_true rfl)) dX5_make_21 ⟨Nat.le_of_ble_eq_true rfl, Nat.le_of_ble_eq_true rfl⟩) hS (fun q _ h => hc_12.2.2 q h) hc_12.2.2 (fun u_12 t_12 H1 locs ht hvm h_12 hB hz1 hk1 hS => ?_)
    refine xl_1_3 hB (fun g_12 hP1 hD1 hF_12_0 => ?_)
    clear hB
    rw [ht] at hP1
    obtain ⟨hP, hD⟩ := va_join (wr := [(xo_5_rrr h it la le), (xI la cI 8 g_1), (xI le cI 8 g_2), (xJ it cJ 8 fi), (xI y0 cI 40 f0), (xI y1 cI 40 f1), (xI y2 cI 40 f2), (xI y3 cI 40 f3), (xI y5 cI 40 f5), (xI y6 cI 40 f6), (xI y7 cI 40 f7)]) (w1 := [(xI y4 cI 40 g_12)]) hP hD [8] [0, 1, 2, 3, 4, 5, 6, 7, 9, 10, 11] rfl rfl (by decide +kernel) (by decide +kernel) hk1 hc_12.2.2 hP1 hD1
    generalize H1 = H at hP hS ⊢
    have hP : va_P (dC, dI) vwCl [(xo_5_rrr h it la le), (xI la cI 8 g_1), (xI le cI 8 g_2), (xJ it cJ 8 fi), (xI y0 cI 40 f0), (xI y1 cI 40 f1), (xI y2 cI 40 f2), (xI y3 cI 40 f3), (xI y5 cI 40 f5), (xI y6 cI 40 f6), (xI y7 cI 40 f7), (xI y4 cI 40 g_12)] H := hP
    have hD := dto hP hD
    have hX9 := cut2 (wc := [(xo_5_rrr h it la le), (xI la cI 8 g_1), (xI le cI 8 g_2), (xJ it cJ 8 fi), (xI y0 cI 40 f0), (xI y1 cI 40 f1), (xI y2 cI 40 f2), (xI y3 cI 40 f3), (xI y4 cI 40 g_12), (xI y5 cI 40 f5), (xI y6 cI 40 f6), (xI y7 cI 40 f7)]) hP hD [0, 1, 2, 3, 4, 5, 6, 7, 11, 8, 9, 10] (by decide +kernel) rfl
    exact W.vret hx hb hr (fun t ht hW => ⟨⟨(), rfl, trivial, ⟨g_1, g_2, f0, f1, f2, f3, g_12, f5, f6, f7, va_Ht ht hX9.1, hX9.2, (fe_up hfe (by omega) hn hg_2.symm), (lf_X5_make_13 hfi hj hfe hn hu_1 hu_2 hF_12_0), (lf_X5_make_14 hfi hj hfe hn hu_1 hu_2 hF_12_0), (lf_X5_make_15 hfi hj hfe hn hu_1 hu_2 hF_12_0)⟩⟩, hS.F ht⟩) hS.2.2 dX5_make_24
  · skip
    have hl : lv_has ls 4 [(0, .ref h), (1, .int 5), (2, .int v), (3, .int (nI n))] := hl
    refine lv_aload_n hx hb dX5_make_14 rfl (lv_at hl 0 rfl) ?_
    refine va_get (D := (dC, dI)) (ci := 5) (v := .ref it) (C := RX5) (T := TX5) (N := 3) hx hb hts i_X5_make_X5 hown hK hP 0 rfl rfl 0 (by decide) (hts _ mx_X5_make_3) (fun _ h9 => h9) rfl dX5_make_15 ?_
    refine lv_iload_n hx hb dX5_make_18 rfl (lv_at hl 1 rfl) ?_
    refine nw_alk hx hb hK hP 3 3 rfl rfl 5 rfl (Nat.le_of_ble_eq_true rfl) (Nat.le_of_ble_eq_true rfl) hfi.2.2.2.2.2.1 dX5_make_19 ?_
    refine lv_iconst (v := 0) hx hb dX5_make_20 (by decide) ?_
    have hc_14 := cutW (wc := [(xI y5 cI 40 f5)]) hP hD hS hA [9] (by decide +kernel) rfl
    refine va_callv (va_runS (As := [.ref y5, .int 0]) (rest := []) ⟨hx, hb, hml, hown, hts⟩ (r_J7_fill l dC dI cI cZ cL cJ H.size y5 40 f5 0 (by decide)) (va_cwS 2 hts gX5_make_J7_fill_53178 rfl rfl rfl (by decide +kernel) ⟨Nat.le_of_ble_eq_true rfl, Nat.le_of_ble_eq_true rfl⟩) (psW hK hc_14) rfl rfl hl.1 rfl (lv_room (Nat.le_of_ble_eq_true rfl)) dX5_make_21 ⟨Nat.le_of_ble_eq_true rfl, Nat.le_of_ble_eq_true rfl⟩) hS (fun q _ h => hc_14.2.2 q h) hc_14.2.2 (fun u_14 t_14 H1 locs ht hvm h_14 hB hz1 hk1 hS => ?_)
    refine xl_1_3 hB (fun g_14 hP1 hD1 hF_14_0 => ?_)
    clear hB
    rw [ht] at hP1
    obtain ⟨hP, hD⟩ := va_join (wr := [(xo_5_rrr h it la le), (xI la cI 8 g_1), (xI le cI 8 g_2), (xJ it cJ 8 fi), (xI y0 cI 40 f0), (xI y1 cI 40 f1), (xI y2 cI 40 f2), (xI y3 cI 40 f3), (xI y4 cI 40 f4), (xI y6 cI 40 f6), (xI y7 cI 40 f7)]) (w1 := [(xI y5 cI 40 g_14)]) hP hD [9] [0, 1, 2, 3, 4, 5, 6, 7, 8, 10, 11] rfl rfl (by decide +kernel) (by decide +kernel) hk1 hc_14.2.2 hP1 hD1
    generalize H1 = H at hP hS ⊢
    have hP : va_P (dC, dI) vwCl [(xo_5_rrr h it la le), (xI la cI 8 g_1), (xI le cI 8 g_2), (xJ it cJ 8 fi), (xI y0 cI 40 f0), (xI y1 cI 40 f1), (xI y2 cI 40 f2), (xI y3 cI 40 f3), (xI y4 cI 40 f4), (xI y6 cI 40 f6), (xI y7 cI 40 f7), (xI y5 cI 40 g_14)] H := hP
    have hD := dto hP hD
    have hX9 := cut2 (wc := [(xo_5_rrr h it la le), (xI la cI 8 g_1), (xI le cI 8 g_2), (xJ it cJ 8 fi), (xI y0 cI 40 f0), (xI y1 cI 40 f1), (xI y2 cI 40 f2), (xI y3 cI 40 f3), (xI y4 cI 40 f4), (xI y5 cI 40 g_14), (xI y6 cI 40 f6), (xI y7 cI 40 f7)]) hP hD [0, 1, 2, 3, 4, 5, 6, 7, 8, 11, 9, 10] (by decide +kernel) rfl
    exact W.vret hx hb hr (fun t ht hW => ⟨⟨(), rfl, trivial, ⟨g_1, g_2, f0, f1, f2, f3, f4, g_14, f6, f7, va_Ht ht hX9.1, hX9.2, (fe_up hfe (by omega) hn hg_2.symm), (lf_X5_make_16 hfi hj hfe hn hu_1 hu_2 hF_14_0), (lf_X5_make_17 hfi hj hfe hn hu_1 hu_2 hF_14_0), (lf_X5_make_18 hfi hj hfe hn hu_1 hu_2 hF_14_0)⟩⟩, hS.F ht⟩) hS.2.2 dX5_make_24
  · skip
    have hl : lv_has ls 4 [(0, .ref h), (1, .int 6), (2, .int v), (3, .int (nI n))] := hl
    refine lv_aload_n hx hb dX5_make_14 rfl (lv_at hl 0 rfl) ?_
    refine va_get (D := (dC, dI)) (ci := 5) (v := .ref it) (C := RX5) (T := TX5) (N := 3) hx hb hts i_X5_make_X5 hown hK hP 0 rfl rfl 0 (by decide) (hts _ mx_X5_make_3) (fun _ h9 => h9) rfl dX5_make_15 ?_
    refine lv_iload_n hx hb dX5_make_18 rfl (lv_at hl 1 rfl) ?_
    refine nw_alk hx hb hK hP 3 3 rfl rfl 6 rfl (Nat.le_of_ble_eq_true rfl) (Nat.le_of_ble_eq_true rfl) hfi.2.2.2.2.2.2.1 dX5_make_19 ?_
    refine lv_iconst (v := 0) hx hb dX5_make_20 (by decide) ?_
    have hc_16 := cutW (wc := [(xI y6 cI 40 f6)]) hP hD hS hA [10] (by decide +kernel) rfl
    refine va_callv (va_runS (As := [.ref y6, .int 0]) (rest := []) ⟨hx, hb, hml, hown, hts⟩ (r_J7_fill l dC dI cI cZ cL cJ H.size y6 40 f6 0 (by decide)) (va_cwS 2 hts gX5_make_J7_fill_53178 rfl rfl rfl (by decide +kernel) ⟨Nat.le_of_ble_eq_true rfl, Nat.le_of_ble_eq_true rfl⟩) (psW hK hc_16) rfl rfl hl.1 rfl (lv_room (Nat.le_of_ble_eq_true rfl)) dX5_make_21 ⟨Nat.le_of_ble_eq_true rfl, Nat.le_of_ble_eq_true rfl⟩) hS (fun q _ h => hc_16.2.2 q h) hc_16.2.2 (fun u_16 t_16 H1 locs ht hvm h_16 hB hz1 hk1 hS => ?_)
    refine xl_1_3 hB (fun g_16 hP1 hD1 hF_16_0 => ?_)
    clear hB
    rw [ht] at hP1
    obtain ⟨hP, hD⟩ := va_join (wr := [(xo_5_rrr h it la le), (xI la cI 8 g_1), (xI le cI 8 g_2), (xJ it cJ 8 fi), (xI y0 cI 40 f0), (xI y1 cI 40 f1), (xI y2 cI 40 f2), (xI y3 cI 40 f3), (xI y4 cI 40 f4), (xI y5 cI 40 f5), (xI y7 cI 40 f7)]) (w1 := [(xI y6 cI 40 g_16)]) hP hD [10] [0, 1, 2, 3, 4, 5, 6, 7, 8, 9, 11] rfl rfl (by decide +kernel) (by decide +kernel) hk1 hc_16.2.2 hP1 hD1
    generalize H1 = H at hP hS ⊢
    have hP : va_P (dC, dI) vwCl [(xo_5_rrr h it la le), (xI la cI 8 g_1), (xI le cI 8 g_2), (xJ it cJ 8 fi), (xI y0 cI 40 f0), (xI y1 cI 40 f1), (xI y2 cI 40 f2), (xI y3 cI 40 f3), (xI y4 cI 40 f4), (xI y5 cI 40 f5), (xI y7 cI 40 f7), (xI y6 cI 40 g_16)] H := hP
    have hD := dto hP hD
    have hX9 := cut2 (wc := [(xo_5_rrr h it la le), (xI la cI 8 g_1), (xI le cI 8 g_2), (xJ it cJ 8 fi), (xI y0 cI 40 f0), (xI y1 cI 40 f1), (xI y2 cI 40 f2), (xI y3 cI 40 f3), (xI y4 cI 40 f4), (xI y5 cI 40 f5), (xI y6 cI 40 g_16), (xI y7 cI 40 f7)]) hP hD [0, 1, 2, 3, 4, 5, 6, 7, 8, 9, 11, 10] (by decide +kernel) rfl
    exact W.vret hx hb hr (fun t ht hW => ⟨⟨(), rfl, trivial, ⟨g_1, g_2, f0, f1, f2, f3, f4, f5, g_16, f7, va_Ht ht hX9.1, hX9.2, (fe_up hfe (by omega) hn hg_2.symm), (lf_X5_make_19 hfi hj hfe hn hu_1 hu_2 hF_16_0), (lf_X5_make_20 hfi hj hfe hn hu_1 hu_2 hF_16_0), (lf_X5_make_21 hfi hj hfe hn hu_1 hu_2 hF_16_0)⟩⟩, hS.F ht⟩) hS.2.2 dX5_make_24
  · skip
    have hl : lv_has ls 4 [(0, .ref h), (1, .int 7), (2, .int v), (3, .int (nI n))] := hl
    refine lv_aload_n hx hb dX5_make_14 rfl (lv_at hl 0 rfl) ?_
    refine va_get (D := (dC, dI)) (ci := 5) (v := .ref it) (C := RX5) (T := TX5) (N := 3) hx hb hts i_X5_make_X5 hown hK hP 0 rfl rfl 0 (by decide) (hts _ mx_X5_make_3) (fun _ h9 => h9) rfl dX5_make_15 ?_
    refine lv_iload_n hx hb dX5_make_18 rfl (lv_at hl 1 rfl) ?_
    refine nw_alk hx hb hK hP 3 3 rfl rfl 7 rfl (Nat.le_of_ble_eq_true rfl) (Nat.le_of_ble_eq_true rfl) hfi.2.2.2.2.2.2.2 dX5_make_19 ?_
    refine lv_iconst (v := 0) hx hb dX5_make_20 (by decide) ?_
    have hc_18 := cutW (wc := [(xI y7 cI 40 f7)]) hP hD hS hA [11] (by decide +kernel) rfl
    refine va_callv (va_runS (As := [.ref y7, .int 0]) (rest := []) ⟨hx, hb, hml, hown, hts⟩ (r_J7_fill l dC dI cI cZ cL cJ H.size y7 40 f7 0 (by decide)) (va_cwS 2 hts gX5_make_J7_fill_53178 rfl rfl rfl (by decide +kernel) ⟨Nat.le_of_ble_eq_true rfl, Nat.le_of_ble_eq_true rfl⟩) (psW hK hc_18) rfl rfl hl.1 rfl (lv_room (Nat.le_of_ble_eq_true rfl)) dX5_make_21 ⟨Nat.le_of_ble_eq_true rfl, Nat.le_of_ble_eq_true rfl⟩) hS (fun q _ h => hc_18.2.2 q h) hc_18.2.2 (fun u_18 t_18 H1 locs ht hvm h_18 hB hz1 hk1 hS => ?_)
    refine xl_1_3 hB (fun g_18 hP1 hD1 hF_18_0 => ?_)
    clear hB
    rw [ht] at hP1
    obtain ⟨hP, hD⟩ := va_join (wr := [(xo_5_rrr h it la le), (xI la cI 8 g_1), (xI le cI 8 g_2), (xJ it cJ 8 fi), (xI y0 cI 40 f0), (xI y1 cI 40 f1), (xI y2 cI 40 f2), (xI y3 cI 40 f3), (xI y4 cI 40 f4), (xI y5 cI 40 f5), (xI y6 cI 40 f6)]) (w1 := [(xI y7 cI 40 g_18)]) hP hD [11] [0, 1, 2, 3, 4, 5, 6, 7, 8, 9, 10] rfl rfl (by decide +kernel) (by decide +kernel) hk1 hc_18.2.2 hP1 hD1
    generalize H1 = H at hP hS ⊢
    have hP : va_P (dC, dI) vwCl [(xo_5_rrr h it la le), (xI la cI 8 g_1), (xI le cI 8 g_2), (xJ it cJ 8 fi), (xI y0 cI 40 f0), (xI y1 cI 40 f1), (xI y2 cI 40 f2), (xI y3 cI 40 f3), (xI y4 cI 40 f4), (xI y5 cI 40 f5), (xI y6 cI 40 f6), (xI y7 cI 40 g_18)] H := hP
    have hD := dto hP hD
    have hX9 := cut2 (wc := [(xo_5_rrr h it la le), (xI la cI 8 g_1), (xI le cI 8 g_2), (xJ it cJ 8 fi), (xI y0 cI 40 f0), (xI y1 cI 40 f1), (xI y2 cI 40 f2), (xI y3 cI 40 f3), (xI y4 cI 40 f4), (xI y5 cI 40 f5), (xI y6 cI 40 f6), (xI y7 cI 40 g_18)]) hP hD [0, 1, 2, 3, 4, 5, 6, 7, 8, 9, 10, 11] (by decide +kernel) rfl
    exact W.vret hx hb hr (fun t ht hW => ⟨⟨(), rfl, trivial, ⟨g_1, g_2, f0, f1, f2, f3, f4, f5, f6, g_18, va_Ht ht hX9.1, hX9.2, (fe_up hfe (by omega) hn hg_2.symm), (lf_X5_make_22 hfi hj hfe hn hu_1 hu_2 hF_18_0), (lf_X5_make_23 hfi hj hfe hn hu_1 hu_2 hF_18_0), (lf_X5_make_24 hfi hj hfe hn hu_1 hu_2 hF_18_0)⟩⟩, hS.F ht⟩) hS.2.2 dX5_make_24
-- 16.tape_d
/-! the reading of the tape as exact functions: f its bytes, z how many; q = (place of the fault, fault, place) -/
noncomputable abbrev TQ := Int32 × Int32 × Int32
noncomputable abbrev isFig (x : Int32) : Prop := ¬ x < 48 ∧ ¬ 57 < x
/-- figures from k + i on, n looked at -/
noncomputable def figX (f : Nat → Int32) (z : Nat) (k : Int32) : Nat → Nat → Nat
  | 0, _ => 0
  | n + 1, i => if isFig (bAt f z (k + nI i)) then figX f z k n (i + 1) + 1 else 0
theorem figX_le (f : Nat → Int32) (z : Nat) (k : Int32) : ∀ n i : Nat, figX f z k n i ≤ n
  | 0, _ => Nat.le_refl 0
  | n + 1, i => by
    have h := figX_le f z k n (i + 1)
    unfold figX
    split <;> omega
theorem figX_go {f : Nat → Int32} {z : Nat} {k : Int32} {n i : Nat} (hn : 0 < n) (h : isFig (bAt f z (k + nI i))) : figX f z k n i = figX f z k (n - 1) (i + 1) + 1 := by
  cases n with
  | zero => omega
  | succ n => exact if_pos h
theorem figX_no {f : Nat → Int32} {z : Nat} {k : Int32} {n i : Nat} (h : ¬ isFig (bAt f z (k + nI i))) : figX f z k n i = 0 := by
  cases n with
  | zero => rfl
  | succ n => exact if_neg h
noncomputable def numX (f : Nat → Int32) (z : Nat) (k : Int32) : Nat → Int32
  | 0 => 0
  | i + 1 => numX f z k i * 10 + bAt f z (k + nI i) - 48
/-- a fault, if there is none yet -/
noncomputable def rF (n : Int32) (q : TQ) : TQ := if q.2.1 = 0 then (q.2.2, n, q.2.2) else q
noncomputable def rB (f : Nat → Int32) (z : Nat) (c : Int32) (q : TQ) : TQ := if bAt f z q.2.2 = c then (q.1, q.2.1, q.2.2 + 1) else rF 1 q
noncomputable abbrev rG1 (f : Nat → Int32) (z : Nat) (k : Int32) : Prop := ¬ figX f z k 120 0 < 1 ∧ figX f z k 120 0 ≤ 2
noncomputable abbrev rG2 (f : Nat → Int32) (z : Nat) (k lo hi : Int32) : Prop := ¬ numX f z k (figX f z k 120 0) < lo ∧ numX f z k (figX f z k 120 0) ≤ hi
noncomputable def rN (f : Nat → Int32) (z : Nat) (lo hi : Int32) (q : TQ) : TQ := if ¬ rG1 f z q.2.2 then rF 1 q else if ¬ rG2 f z q.2.2 lo hi then rF 2 q else (q.1, q.2.1, q.2.2 + nI (figX f z q.2.2 120 0))
noncomputable def rV (f : Nat → Int32) (z : Nat) (lo hi k : Int32) : Int32 := if rG1 f z k ∧ rG2 f z k lo hi then numX f z k (figX f z k 120 0) else 0
theorem rF_0 {n a b c : Int32} {q : TQ} (hn : ¬ n = 0) (h : rF n q = (a, b, c)) : ¬ b = 0 := by
  unfold rF at h
  split at h
  · cases h; exact hn
  · cases h; assumption
theorem rF_s {n a b c fp f k : Int32} (h : rF n (fp, f, k) = (a, b, c)) (hf : ¬ f = 0) : a = fp ∧ b = f ∧ c = k := by
  unfold rF at h
  rw [if_neg hf] at h
  cases h
  exact ⟨rfl, rfl, rfl⟩
theorem rB_0 {f : Nat → Int32} {z : Nat} {x fp ft k a c : Int32} (h : rB f z x (fp, ft, k) = (a, 0, c)) : ft = 0 ∧ bAt f z k = x := by
  unfold rB at h
  split at h
  · rename_i h1
    cases h
    exact ⟨rfl, h1⟩
  · exact absurd rfl (rF_0 (by decide) h)
theorem rN_0 {f : Nat → Int32} {z : Nat} {x y fp ft k a c : Int32} (h : rN f z x y (fp, ft, k) = (a, 0, c)) : ft = 0 := by
  unfold rN at h
  split at h
  · exact absurd rfl (rF_0 (by decide) h)
  · split at h
    · exact absurd rfl (rF_0 (by decide) h)
    · cases h
      rfl
/-! the law -/
noncomputable def xL0 (f : Nat → Int32) (z : Nat) (q : TQ) : Int32 := rV f z 5 15 (rB f z 109 q).2.2
noncomputable def xLa (f : Nat → Int32) (z : Nat) (q : TQ) : TQ := rB f z 44 (rN f z 5 15 (rB f z 109 q))
noncomputable def xL1 (f : Nat → Int32) (z : Nat) (q : TQ) : Int32 := rV f z 0 (xL0 f z q - 1) (xLa f z q).2.2
noncomputable def xLb (f : Nat → Int32) (z : Nat) (q : TQ) : TQ := rB f z 44 (rN f z 0 (xL0 f z q - 1) (xLa f z q))
noncomputable def xL2 (f : Nat → Int32) (z : Nat) (q : TQ) : Int32 := rV f z 0 4 (xLb f z q).2.2
noncomputable def xLc (f : Nat → Int32) (z : Nat) (q : TQ) : TQ := rB f z 59 (rN f z 0 4 (xLb f z q))
/-! winds -/
noncomputable abbrev TW := TQ × Nat × (Nat → Int32)
noncomputable def xW0 (f : Nat → Int32) (z : Nat) (q : TQ) (w : Nat) : TQ := if q.2.1 = 0 ∧ bAt f z q.2.2 = 119 ∧ ¬ w < 6 then rF 3 q else q
noncomputable def xWa (f : Nat → Int32) (z : Nat) (q : TQ) (w : Nat) : TQ := rB f z 119 (xW0 f z q w)
noncomputable def xWb (f : Nat → Int32) (z : Nat) (q : TQ) (w : Nat) : TQ := rB f z 59 (rN f z 0 4 (xWa f z q w))
noncomputable def xW (f : Nat → Int32) (z : Nat) (s : TW) : TW := if (xWb f z s.1 s.2.1).2.1 = 0 then (xWb f z s.1 s.2.1, s.2.1 + 1, upd s.2.2 s.2.1 (rV f z 0 4 (xWa f z s.1 s.2.1).2.2)) else (xWb f z s.1 s.2.1, s.2.1, s.2.2)
noncomputable abbrev xWg (f : Nat → Int32) (z : Nat) (s : TW) : Prop := s.1.2.1 = 0 ∧ bAt f z s.1.2.2 = 119
noncomputable def xWs (f : Nat → Int32) (z : Nat) : Nat → TW → TW
  | 0, s => s
  | n + 1, s => if xWg f z s then xWs f z n (xW f z s) else s
theorem xWs_stop {f : Nat → Int32} {z n : Nat} {s : TW} (h : ¬ xWg f z s) : xWs f z n s = s := by
  cases n with
  | zero => rfl
  | succ n => exact if_neg h
theorem xWs_go {f : Nat → Int32} {z n : Nat} {s : TW} (hn : 0 < n) (h : xWg f z s) : xWs f z n s = xWs f z (n - 1) (xW f z s) := by
  cases n with
  | zero => omega
  | succ n => exact if_pos h
/-! sounds -/
noncomputable def kindX (x : Int32) : Int32 := if x = 118 then 1 else if x = 98 then 2 else if x = 104 then 3 else if x = 100 then 4 else if x = 115 then 5 else 0
noncomputable abbrev TS := TQ × Nat × (Nat → Int32) × (Nat → Int32) × (Nat → Int32) × (Nat → Int32)
noncomputable def xS0 (f : Nat → Int32) (z : Nat) (q : TQ) (w : Nat) : TQ := if kindX (bAt f z q.2.2) = 0 then rF 1 q else if ¬ w < 6 then rF 3 q else q
noncomputable def xSa (f : Nat → Int32) (z : Nat) (q : TQ) (w : Nat) : TQ := ((xS0 f z q w).1, (xS0 f z q w).2.1, (xS0 f z q w).2.2 + 1)
noncomputable def xSb (f : Nat → Int32) (z : Nat) (c : Int32) (q : TQ) (w : Nat) : TQ := rB f z 44 (rN f z 0 (c - 1) (xSa f z q w))
noncomputable def xSc (f : Nat → Int32) (z : Nat) (c : Int32) (q : TQ) (w : Nat) : TQ := rB f z 59 (rN f z 1 20 (xSb f z c q w))
noncomputable def xS (f : Nat → Int32) (z : Nat) (c : Int32) (s : TS) : TS := if (xSc f z c s.1 s.2.1).2.1 = 0 then (xSc f z c s.1 s.2.1, s.2.1 + 1, upd s.2.2.1 s.2.1 (kindX (bAt f z s.1.2.2)), upd s.2.2.2.1 s.2.1 (rV f z 0 (c - 1) (xSa f z s.1 s.2.1).2.2), upd s.2.2.2.2.1 s.2.1 (rV f z 1 20 (xSb f z c s.1 s.2.1).2.2), upd s.2.2.2.2.2 s.2.1 0) else (xSc f z c s.1 s.2.1, s.2.1, s.2.2)
noncomputable abbrev xSg (f : Nat → Int32) (z : Nat) (s : TS) : Prop := s.1.2.1 = 0 ∧ ¬ bAt f z s.1.2.2 = -1
noncomputable def xSs (f : Nat → Int32) (z : Nat) (c : Int32) : Nat → TS → TS
  | 0, s => s
  | n + 1, s => if xSg f z s then xSs f z c n (xS f z c s) else s
theorem xSs_stop {f : Nat → Int32} {z n : Nat} {c : Int32} {s : TS} (h : ¬ xSg f z s) : xSs f z c n s = s := by
  cases n with
  | zero => rfl
  | succ n => exact if_neg h
theorem xSs_go {f : Nat → Int32} {z n : Nat} {c : Int32} {s : TS} (hn : 0 < n) (h : xSg f z s) : xSs f z c n s = xSs f z c (n - 1) (xS f z c s) := by
  cases n with
  | zero => omega
  | succ n => exact if_pos h
/-! all of it -/
noncomputable def xRw (f : Nat → Int32) (z : Nat) (g1 : Nat → Int32) : TW := xWs f z 6 (xW f z (xLc f z (0, 0, 0), 0, g1))
noncomputable def xRs (f : Nat → Int32) (z : Nat) (g1 g2 g3 g4 g5 : Nat → Int32) : TS := xSs f z (xL0 f z (0, 0, 0)) 6 (xS f z (xL0 f z (0, 0, 0)) ((xRw f z g1).1, 0, g2, g3, g4, g5))
theorem fig64 {x : Int32} : (x.toInt64 < 48 ∨ 57 < x.toInt64) ↔ ¬ isFig x := by
  have e1 : (48 : Int64).toInt = 48 := rfl
  have e2 : (57 : Int64).toInt = 57 := rfl
  have e3 : (48 : Int32).toInt = 48 := rfl
  have e4 : (57 : Int32).toInt = 57 := rfl
  rw [Int64.lt_iff_toInt_lt, Int64.lt_iff_toInt_lt, Int32.toInt_toInt64, e1, e2]
  unfold isFig
  rw [Int32.lt_iff_toInt_lt, Int32.lt_iff_toInt_lt, e3, e4]
  omega
theorem let64 {x : Int32} : (x.toInt64 < 97 ∨ 122 < x.toInt64) ↔ (x < 97 ∨ 122 < x) := by
  have e1 : (97 : Int64).toInt = 97 := rfl
  have e2 : (122 : Int64).toInt = 122 := rfl
  have e3 : (97 : Int32).toInt = 97 := rfl
  have e4 : (122 : Int32).toInt = 122 := rfl
  rw [Int64.lt_iff_toInt_lt, Int64.lt_iff_toInt_lt, Int32.toInt_toInt64, e1, e2, Int32.lt_iff_toInt_lt, Int32.lt_iff_toInt_lt, e3, e4]
/-! the other side: tokens -/
noncomputable abbrev MU := Int32 × Int32 × Int32 × Nat
noncomputable def dgM (f : Nat → Int32) (z : Nat) : Nat → Int32 → Nat → Int32 × Nat
  | 0, v, q => (v, q)
  | n + 1, v, q => if q < z ∧ isFig (f q) then dgM f z n (if v ≤ 99 then 10 * v + f q - 48 else v) (q + 1) else (v, q)
theorem dgM_stop {f : Nat → Int32} {z n q : Nat} {v : Int32} (h : ¬ (q < z ∧ isFig (f q))) : dgM f z n v q = (v, q) := by
  cases n with
  | zero => rfl
  | succ n => exact if_neg h
theorem dgM_go {f : Nat → Int32} {z n q : Nat} {v : Int32} (hn : 0 < n) (h : q < z ∧ isFig (f q)) : dgM f z n v q = dgM f z (n - 1) (if v ≤ 99 then 10 * v + f q - 48 else v) (q + 1) := by
  cases n with
  | zero => omega
  | succ n => exact if_pos h
noncomputable abbrev tokL (x : Int32) : Prop := (¬ x < 97 ∧ ¬ 122 < x) ∨ x = 44 ∨ x = 59
noncomputable def nT (f : Nat → Int32) (z p : Nat) : MU := if p < (dgM f z (z - p) 0 p).2 then (if (dgM f z (z - p) 0 p).2 - p ≤ 2 then 2 else 0, (dgM f z (z - p) 0 p).1, nI p, (dgM f z (z - p) 0 p).2) else if p = z then (3, 0, nI p, p) else (if tokL (f p) then 1 else 0, f p, nI p, p + 1)
noncomputable def uT (f : Nat → Int32) (z : Nat) (u : MU) : MU := nT f z u.2.2.2
noncomputable abbrev kG (c : Int32) (u : MU) : Prop := u.1 = 1 ∧ u.2.1 = c
noncomputable def kU (f : Nat → Int32) (z : Nat) (c : Int32) (u : MU) : MU := if kG c u then uT f z u else u
noncomputable abbrev nG (lo hi : Int32) (u : MU) : Prop := u.1 = 2 ∧ ¬ (u.2.1 < lo ∨ hi < u.2.1)
noncomputable def nU (f : Nat → Int32) (z : Nat) (lo hi c : Int32) (u : MU) : MU := if nG lo hi u then kU f z c (uT f z u) else u
noncomputable abbrev nGG (f : Nat → Int32) (z : Nat) (lo hi c : Int32) (u : MU) : Prop := nG lo hi u ∧ kG c (uT f z u)
noncomputable def nE (lo hi : Int32) (u : MU) : Int32 := if nG lo hi u then 1 else if u.1 = 2 then 2 else 1
noncomputable def nR (lo hi : Int32) (ix : Nat) (u : MU) (r : Nat → Int32) : Nat → Int32 := if nG lo hi u then upd r ix u.2.1 else r
/-- a row of 38 -/
noncomputable abbrev MS := MU × (Nat → Int32)
noncomputable abbrev wG0 (s : MS) : Prop := kG 119 s.1 ∧ ¬ s.2 3 = 6
noncomputable def wS (f : Nat → Int32) (z : Nat) (s : MS) : MS := if wG0 s then (nU f z 0 4 59 (uT f z s.1), nR 0 4 (8 + (s.2 3).toNatClampNeg) (uT f z s.1) (upd s.2 3 (s.2 3 + 1))) else s
noncomputable abbrev wGG (f : Nat → Int32) (z : Nat) (s : MS) : Prop := wG0 s ∧ nGG f z 0 4 59 (uT f z s.1)
noncomputable def wE (f : Nat → Int32) (z : Nat) (s : MS) : Int32 := if wG0 s then nE 0 4 (uT f z s.1) else if kG 119 s.1 then 3 else 1
noncomputable def kdM (u : MU) : Int32 := if u.1 = 1 then kindX u.2.1 else 0
noncomputable abbrev sG0 (s : MS) : Prop := ¬ kdM s.1 = 0 ∧ ¬ s.2 4 = 6
noncomputable def sRa (s : MS) : Nat → Int32 := upd (upd s.2 (14 + (s.2 4).toNatClampNeg) (kdM s.1)) 4 (s.2 4 + 1)
noncomputable def sUb (f : Nat → Int32) (z : Nat) (s : MS) : MU := nU f z 0 (s.2 0 - 1) 44 (uT f z s.1)
noncomputable def sRb (f : Nat → Int32) (z : Nat) (s : MS) : Nat → Int32 := nR 0 (s.2 0 - 1) (20 + (s.2 4).toNatClampNeg) (uT f z s.1) (sRa s)
noncomputable abbrev sG1 (f : Nat → Int32) (z : Nat) (s : MS) : Prop := nGG f z 0 (s.2 0 - 1) 44 (uT f z s.1)
noncomputable def sS (f : Nat → Int32) (z : Nat) (s : MS) : MS := if sG0 s then (if sG1 f z s then (nU f z 1 20 59 (sUb f z s), nR 1 20 (32 + (s.2 4).toNatClampNeg) (sUb f z s) (sRb f z s)) else (sUb f z s, sRb f z s)) else s
noncomputable abbrev sGG (f : Nat → Int32) (z : Nat) (s : MS) : Prop := sG0 s ∧ sG1 f z s ∧ nGG f z 1 20 59 (sUb f z s)
noncomputable def sE (f : Nat → Int32) (z : Nat) (s : MS) : Int32 := if sG0 s then (if sG1 f z s then nE 1 20 (sUb f z s) else nE 0 (s.2 0 - 1) (uT f z s.1)) else if kdM s.1 = 0 then 1 else 3
/-- with the fault that came, 0: none -/
noncomputable abbrev MR := MS × Int32
noncomputable def mB (r : MR) (k : MS → MR) : MR := if r.2 = 0 then k r.1 else r
noncomputable def kR (f : Nat → Int32) (z : Nat) (c : Int32) (s : MS) : MR := ((kU f z c s.1, s.2), if kG c s.1 then 0 else 1)
noncomputable def nRr (f : Nat → Int32) (z : Nat) (lo hi : Int32) (ix : Nat) (c : Int32) (s : MS) : MR := ((nU f z lo hi c s.1, nR lo hi ix s.1 s.2), if nGG f z lo hi c s.1 then 0 else nE lo hi s.1)
noncomputable def wR (f : Nat → Int32) (z : Nat) (s : MS) : MR := (wS f z s, if wGG f z s then 0 else wE f z s)
noncomputable def sR (f : Nat → Int32) (z : Nat) (s : MS) : MR := (sS f z s, if sGG f z s then 0 else sE f z s)
noncomputable def r0 : Nat → Int32 := upd (fun _ => 0) 6 1
noncomputable def lRa (f : Nat → Int32) (z : Nat) : MR := kR f z 109 (nT f z 0, r0)
noncomputable def lRb (f : Nat → Int32) (z : Nat) : MR := mB (lRa f z) (fun s => nRr f z 5 15 0 44 s)
noncomputable def lRc (f : Nat → Int32) (z : Nat) : MR := mB (lRb f z) (fun s => nRr f z 0 (s.2 0 - 1) 1 44 s)
noncomputable def lRd (f : Nat → Int32) (z : Nat) : MR := mB (lRc f z) (fun s => nRr f z 0 4 2 59 s)
noncomputable def lRe (f : Nat → Int32) (z : Nat) : MR := mB (lRd f z) (fun s => wR f z s)
noncomputable abbrev wLg (r : MR) : Prop := r.2 = 0 ∧ kG 119 r.1.1
noncomputable def wL (f : Nat → Int32) (z : Nat) : Nat → MR → MR
  | 0, r => r
  | n + 1, r => if wLg r then wL f z n (wR f z r.1) else r
theorem wL_stop {f : Nat → Int32} {z n : Nat} {r : MR} (h : ¬ wLg r) : wL f z n r = r := by
  cases n with
  | zero => rfl
  | succ n => exact if_neg h
theorem wL_go {f : Nat → Int32} {z n : Nat} {r : MR} (hn : 0 < n) (h : wLg r) : wL f z n r = wL f z (n - 1) (wR f z r.1) := by
  cases n with
  | zero => omega
  | succ n => exact if_pos h
noncomputable abbrev sLg (r : MR) : Prop := r.2 = 0 ∧ ¬ (r.1.1.1 = 3 ∧ ¬ r.1.2 4 = 0)
noncomputable def sL (f : Nat → Int32) (z : Nat) : Nat → MR → MR
  | 0, r => r
  | n + 1, r => if sLg r then sL f z n (sR f z r.1) else r
theorem sL_stop {f : Nat → Int32} {z n : Nat} {r : MR} (h : ¬ sLg r) : sL f z n r = r := by
  cases n with
  | zero => rfl
  | succ n => exact if_neg h
theorem sL_go {f : Nat → Int32} {z n : Nat} {r : MR} (hn : 0 < n) (h : sLg r) : sL f z n r = sL f z (n - 1) (sR f z r.1) := by
  cases n with
  | zero => omega
  | succ n => exact if_pos h
noncomputable def rR (f : Nat → Int32) (z : Nat) : MR := sL f z 7 (wL f z 6 (lRe f z))
/-- what reading answers, the latest fault, the level -/
noncomputable def lvA (f : Nat → Int32) (z : Nat) : Int32 := if (rR f z).2 = 0 then (rR f z).1.2 4 else -1000100 - (rR f z).1.1.2.2.1
noncomputable def lvF (f : Nat → Int32) (z : Nat) (lf : Int32) : Int32 := if (rR f z).2 = 0 then lf else (rR f z).2
/-- a byte that is no byte lies nowhere on the tape -/
noncomputable def okT (f : Nat → Int32) (z : Nat) : Prop := ∀ j : Nat, j < z → ¬ f j = -1
noncomputable def apb (f : Nat → Int32) (z : Nat) (a : Int32) : Nat → Int32 := if z < 120 then upd f z a else f
noncomputable def sf_b (f : Nat → Int32) (z : Nat) (a : Int32) : Nat → Int32 := if a < 0 ∨ ¬ a ≤ 255 ∨ z = 120 then f else upd f z a
theorem okT_up {f : Nat → Int32} {z : Nat} {a : Int32} (h : okT f z) : okT (sf_b f z a) (sf_z z a) := by
  unfold sf_b sf_z
  split
  · exact h
  · rename_i h1
    intro j hj
    unfold upd
    split
    · intro q
      exact h1 (Or.inl (by rw [q]; decide))
    · exact h j (by omega)
theorem okT_0 (f : Nat → Int32) : okT f 0 := fun j h => absurd h (Nat.not_lt_zero j)
theorem r0_m38 {F : Nat → Int32} (h : ∀ j : Nat, j < 38 → F j = 0) : m38 (upd F 6 1) = r0 := by
  funext j
  have h1 := h j
  unfold m38 r0 upd
  grind
theorem nE_nz (lo hi : Int32) (u : MU) : ¬ nE lo hi u = 0 := by
  unfold nE
  split
  · decide
  · split <;> decide
theorem wE_nz (f : Nat → Int32) (z : Nat) (s : MS) : ¬ wE f z s = 0 := by
  unfold wE
  split
  · exact nE_nz _ _ _
  · split <;> decide
theorem sE_nz (f : Nat → Int32) (z : Nat) (s : MS) : ¬ sE f z s = 0 := by
  unfold sE
  split
  · split <;> exact nE_nz _ _ _
  · split <;> decide
theorem rR_e {f : Nat → Int32} {z : Nat} {s : MS} {e : Int32} (h : lRe f z = (s, e)) (he : ¬ e = 0) : rR f z = (s, e) := by
  unfold rR
  rw [h, wL_stop (fun q => he q.1), sL_stop (fun q => he q.1)]
theorem rR_d {f : Nat → Int32} {z : Nat} {s : MS} {e : Int32} (h : lRd f z = (s, e)) (he : ¬ e = 0) : rR f z = (s, e) := rR_e (by unfold lRe mB; rw [h]; exact if_neg he) he
theorem rR_c {f : Nat → Int32} {z : Nat} {s : MS} {e : Int32} (h : lRc f z = (s, e)) (he : ¬ e = 0) : rR f z = (s, e) := rR_d (by unfold lRd mB; rw [h]; exact if_neg he) he
theorem rR_b {f : Nat → Int32} {z : Nat} {s : MS} {e : Int32} (h : lRb f z = (s, e)) (he : ¬ e = 0) : rR f z = (s, e) := rR_c (by unfold lRc mB; rw [h]; exact if_neg he) he
theorem rR_a {f : Nat → Int32} {z : Nat} {s : MS} {e : Int32} (h : lRa f z = (s, e)) (he : ¬ e = 0) : rR f z = (s, e) := rR_b (by unfold lRb mB; rw [h]; exact if_neg he) he
theorem dX6_append_0 : decode cX6_append 0 = .ok (.aload_n 0, 1) := dq_42 (by decide +kernel)
theorem dX6_append_1 : decode cX6_append 1 = .ok (.invokevirtual 26, 3) := dq_182 (b1 := 0) (b2 := 26) (by decide +kernel) (by decide)
theorem dX6_append_11 : decode cX6_append 11 = .ok (.aload_n 0, 1) := dq_42 (by decide +kernel)
theorem dX6_append_12 : decode cX6_append 12 = .ok (.getfield 22, 3) := dq_180 (b1 := 0) (b2 := 22) (by decide +kernel) (by decide)
theorem dX6_append_15 : decode cX6_append 15 = .ok (.iload_n 1, 1) := dq_27 (by decide +kernel)
theorem dX6_append_16 : decode cX6_append 16 = .ok (.iastore, 1) := dq_79 (by decide +kernel)
theorem dX6_append_17 : decode cX6_append 17 = .ok (.aload_n 0, 1) := dq_42 (by decide +kernel)
theorem dX6_append_18 : decode cX6_append 18 = .ok (.dup, 1) := dq_89 (by decide +kernel)
theorem dX6_append_19 : decode cX6_append 19 = .ok (.getfield 22, 3) := dq_180 (b1 := 0) (b2 := 22) (by decide +kernel) (by decide)
theorem dX6_append_22 : decode cX6_append 22 = .ok (.iconst 1, 1) := dq_4 (by decide +kernel)
theorem dX6_append_23 : decode cX6_append 23 = .ok (.iadd, 1) := dq_96 (by decide +kernel)
theorem dX6_append_24 : decode cX6_append 24 = .ok (.putfield 22, 3) := dq_181 (b1 := 0) (b2 := 22) (by decide +kernel) (by decide)
theorem dX6_append_27 : decode cX6_append 27 = .ok (.aload_n 0, 1) := dq_42 (by decide +kernel)
theorem dX6_append_28 : decode cX6_append 28 = .ok (.getfield 22, 3) := dq_180 (b1 := 0) (b2 := 22) (by decide +kernel) (by decide)
theorem dX6_append_31 : decode cX6_append 31 = .ok (.ireturn, 1) := dq_172 (by decide +kernel)
theorem dX6_append_4 : decode cX6_append 4 = .ok (.ifCond .ne 23, 3) := dq_154 (b1 := 0) (b2 := 23) (by decide +kernel) (by decide)
theorem dX6_append_7 : decode cX6_append 7 = .ok (.aload_n 0, 1) := dq_42 (by decide +kernel)
theorem dX6_append_8 : decode cX6_append 8 = .ok (.getfield 11, 3) := dq_180 (b1 := 0) (b2 := 11) (by decide +kernel) (by decide)
theorem dX6_byteAt_0 : decode cX6_byteAt 0 = .ok (.iload_n 1, 1) := dq_27 (by decide +kernel)
theorem dX6_byteAt_1 : decode cX6_byteAt 1 = .ok (.ifCond .lt 20, 3) := dq_155 (b1 := 0) (b2 := 20) (by decide +kernel) (by decide)
theorem dX6_byteAt_12 : decode cX6_byteAt 12 = .ok (.aload_n 0, 1) := dq_42 (by decide +kernel)
theorem dX6_byteAt_13 : decode cX6_byteAt 13 = .ok (.getfield 11, 3) := dq_180 (b1 := 0) (b2 := 11) (by decide +kernel) (by decide)
theorem dX6_byteAt_16 : decode cX6_byteAt 16 = .ok (.iload_n 1, 1) := dq_27 (by decide +kernel)
theorem dX6_byteAt_17 : decode cX6_byteAt 17 = .ok (.iaload, 1) := dq_46 (by decide +kernel)
theorem dX6_byteAt_18 : decode cX6_byteAt 18 = .ok (.goto 4, 3) := dq_167 (b1 := 0) (b2 := 4) (by decide +kernel) (by decide)
theorem dX6_byteAt_21 : decode cX6_byteAt 21 = .ok (.iconst (-1), 1) := dq_2 (by decide +kernel)
theorem dX6_byteAt_22 : decode cX6_byteAt 22 = .ok (.ireturn, 1) := dq_172 (by decide +kernel)
theorem dX6_byteAt_4 : decode cX6_byteAt 4 = .ok (.iload_n 1, 1) := dq_27 (by decide +kernel)
theorem dX6_byteAt_5 : decode cX6_byteAt 5 = .ok (.aload_n 0, 1) := dq_42 (by decide +kernel)
theorem dX6_byteAt_6 : decode cX6_byteAt 6 = .ok (.getfield 22, 3) := dq_180 (b1 := 0) (b2 := 22) (by decide +kernel) (by decide)
theorem dX6_byteAt_9 : decode cX6_byteAt 9 = .ok (.if_icmp .ge 12, 3) := dq_162 (b1 := 0) (b2 := 12) (by decide +kernel) (by decide)
theorem dX6_fail_0 : decode cX6_fail 0 = .ok (.aload_n 0, 1) := dq_42 (by decide +kernel)
theorem dX6_fail_1 : decode cX6_fail 1 = .ok (.getfield 30, 3) := dq_180 (b1 := 0) (b2 := 30) (by decide +kernel) (by decide)
theorem dX6_fail_12 : decode cX6_fail 12 = .ok (.aload_n 0, 1) := dq_42 (by decide +kernel)
theorem dX6_fail_13 : decode cX6_fail 13 = .ok (.aload_n 0, 1) := dq_42 (by decide +kernel)
theorem dX6_fail_14 : decode cX6_fail 14 = .ok (.getfield 36, 3) := dq_180 (b1 := 0) (b2 := 36) (by decide +kernel) (by decide)
theorem dX6_fail_17 : decode cX6_fail 17 = .ok (.putfield 33, 3) := dq_181 (b1 := 0) (b2 := 33) (by decide +kernel) (by decide)
theorem dX6_fail_20 : decode cX6_fail 20 = .ok (.return_, 1) := dq_177 (by decide +kernel)
theorem dX6_fail_4 : decode cX6_fail 4 = .ok (.ifCond .ne 16, 3) := dq_154 (b1 := 0) (b2 := 16) (by decide +kernel) (by decide)
theorem dX6_fail_7 : decode cX6_fail 7 = .ok (.aload_n 0, 1) := dq_42 (by decide +kernel)
theorem dX6_fail_8 : decode cX6_fail 8 = .ok (.iload_n 1, 1) := dq_27 (by decide +kernel)
theorem dX6_fail_9 : decode cX6_fail 9 = .ok (.putfield 30, 3) := dq_181 (b1 := 0) (b2 := 30) (by decide +kernel) (by decide)
theorem dX6_figuresHere_0 : decode cX6_figuresHere 0 = .ok (.iconst 0, 1) := dq_3 (by decide +kernel)
theorem dX6_figuresHere_1 : decode cX6_figuresHere 1 = .ok (.istore_n 1, 1) := dq_60 (by decide +kernel)
theorem dX6_figuresHere_10 : decode cX6_figuresHere 10 = .ok (.getfield 36, 3) := dq_180 (b1 := 0) (b2 := 36) (by decide +kernel) (by decide)
theorem dX6_figuresHere_13 : decode cX6_figuresHere 13 = .ok (.iload_n 1, 1) := dq_27 (by decide +kernel)
theorem dX6_figuresHere_14 : decode cX6_figuresHere 14 = .ok (.iadd, 1) := dq_96 (by decide +kernel)
theorem dX6_figuresHere_15 : decode cX6_figuresHere 15 = .ok (.invokevirtual 71, 3) := dq_182 (b1 := 0) (b2 := 71) (by decide +kernel) (by decide)
theorem dX6_figuresHere_18 : decode cX6_figuresHere 18 = .ok (.invokestatic 104, 3) := dq_184 (b1 := 0) (b2 := 104) (by decide +kernel) (by decide)
theorem dX6_figuresHere_2 : decode cX6_figuresHere 2 = .ok (.iload_n 1, 1) := dq_27 (by decide +kernel)
theorem dX6_figuresHere_21 : decode cX6_figuresHere 21 = .ok (.ifCond .eq 9, 3) := dq_153 (b1 := 0) (b2 := 9) (by decide +kernel) (by decide)
theorem dX6_figuresHere_24 : decode cX6_figuresHere 24 = .ok (.iinc 1 1, 3) := dq_132 (b1 := 1) (b2 := 1) (by decide +kernel) (by decide) (by decide)
theorem dX6_figuresHere_27 : decode cX6_figuresHere 27 = .ok (.goto (-25), 3) := dq_167 (b1 := 255) (b2 := 231) (by decide +kernel) (by decide)
theorem dX6_figuresHere_3 : decode cX6_figuresHere 3 = .ok (.bipush 120, 2) := dq_16 (b1 := 120) (by decide +kernel) (by decide)
theorem dX6_figuresHere_30 : decode cX6_figuresHere 30 = .ok (.iload_n 1, 1) := dq_27 (by decide +kernel)
theorem dX6_figuresHere_31 : decode cX6_figuresHere 31 = .ok (.ireturn, 1) := dq_172 (by decide +kernel)
theorem dX6_figuresHere_5 : decode cX6_figuresHere 5 = .ok (.if_icmp .ge 25, 3) := dq_162 (b1 := 0) (b2 := 25) (by decide +kernel) (by decide)
theorem dX6_figuresHere_8 : decode cX6_figuresHere 8 = .ok (.aload_n 0, 1) := dq_42 (by decide +kernel)
theorem dX6_figuresHere_9 : decode cX6_figuresHere 9 = .ok (.aload_n 0, 1) := dq_42 (by decide +kernel)
theorem dX6_isFigure_0 : decode cX6_isFigure 0 = .ok (.iload_n 0, 1) := dq_26 (by decide +kernel)
theorem dX6_isFigure_1 : decode cX6_isFigure 1 = .ok (.bipush 48, 2) := dq_16 (b1 := 48) (by decide +kernel) (by decide)
theorem dX6_isFigure_12 : decode cX6_isFigure 12 = .ok (.iconst 1, 1) := dq_4 (by decide +kernel)
theorem dX6_isFigure_13 : decode cX6_isFigure 13 = .ok (.goto 4, 3) := dq_167 (b1 := 0) (b2 := 4) (by decide +kernel) (by decide)
theorem dX6_isFigure_16 : decode cX6_isFigure 16 = .ok (.iconst 0, 1) := dq_3 (by decide +kernel)
theorem dX6_isFigure_17 : decode cX6_isFigure 17 = .ok (.ireturn, 1) := dq_172 (by decide +kernel)
theorem dX6_isFigure_3 : decode cX6_isFigure 3 = .ok (.if_icmp .lt 13, 3) := dq_161 (b1 := 0) (b2 := 13) (by decide +kernel) (by decide)
theorem dX6_isFigure_6 : decode cX6_isFigure 6 = .ok (.iload_n 0, 1) := dq_26 (by decide +kernel)
theorem dX6_isFigure_7 : decode cX6_isFigure 7 = .ok (.bipush 57, 2) := dq_16 (b1 := 57) (by decide +kernel) (by decide)
theorem dX6_isFigure_9 : decode cX6_isFigure 9 = .ok (.if_icmp .gt 7, 3) := dq_163 (b1 := 0) (b2 := 7) (by decide +kernel) (by decide)
theorem dX6_isFull_0 : decode cX6_isFull 0 = .ok (.aload_n 0, 1) := dq_42 (by decide +kernel)
theorem dX6_isFull_1 : decode cX6_isFull 1 = .ok (.getfield 22, 3) := dq_180 (b1 := 0) (b2 := 22) (by decide +kernel) (by decide)
theorem dX6_isFull_10 : decode cX6_isFull 10 = .ok (.goto 4, 3) := dq_167 (b1 := 0) (b2 := 4) (by decide +kernel) (by decide)
theorem dX6_isFull_13 : decode cX6_isFull 13 = .ok (.iconst 0, 1) := dq_3 (by decide +kernel)
theorem dX6_isFull_14 : decode cX6_isFull 14 = .ok (.ireturn, 1) := dq_172 (by decide +kernel)
theorem dX6_isFull_4 : decode cX6_isFull 4 = .ok (.bipush 120, 2) := dq_16 (b1 := 120) (by decide +kernel) (by decide)
theorem dX6_isFull_6 : decode cX6_isFull 6 = .ok (.if_icmp .lt 7, 3) := dq_161 (b1 := 0) (b2 := 7) (by decide +kernel) (by decide)
theorem dX6_isFull_9 : decode cX6_isFull 9 = .ok (.iconst 1, 1) := dq_4 (by decide +kernel)
theorem dX6_kindOf_0 : decode cX6_kindOf 0 = .ok (.iload_n 0, 1) := dq_26 (by decide +kernel)
theorem dX6_kindOf_1 : decode cX6_kindOf 1 = .ok (.lookupswitch 61 #[(98, 53), (100, 57), (104, 55), (115, 59), (118, 51)], 51) := by decide +kernel
theorem dX6_kindOf_52 : decode cX6_kindOf 52 = .ok (.iconst 1, 1) := dq_4 (by decide +kernel)
theorem dX6_kindOf_53 : decode cX6_kindOf 53 = .ok (.ireturn, 1) := dq_172 (by decide +kernel)
theorem dX6_kindOf_54 : decode cX6_kindOf 54 = .ok (.iconst 2, 1) := dq_5 (by decide +kernel)
theorem dX6_kindOf_55 : decode cX6_kindOf 55 = .ok (.ireturn, 1) := dq_172 (by decide +kernel)
theorem dX6_kindOf_56 : decode cX6_kindOf 56 = .ok (.iconst 3, 1) := dq_6 (by decide +kernel)
theorem dX6_kindOf_57 : decode cX6_kindOf 57 = .ok (.ireturn, 1) := dq_172 (by decide +kernel)
theorem dX6_kindOf_58 : decode cX6_kindOf 58 = .ok (.iconst 4, 1) := dq_7 (by decide +kernel)
theorem dX6_kindOf_59 : decode cX6_kindOf 59 = .ok (.ireturn, 1) := dq_172 (by decide +kernel)
theorem dX6_kindOf_60 : decode cX6_kindOf 60 = .ok (.iconst 5, 1) := dq_8 (by decide +kernel)
theorem dX6_kindOf_61 : decode cX6_kindOf 61 = .ok (.ireturn, 1) := dq_172 (by decide +kernel)
theorem dX6_kindOf_62 : decode cX6_kindOf 62 = .ok (.iconst 0, 1) := dq_3 (by decide +kernel)
theorem dX6_kindOf_63 : decode cX6_kindOf 63 = .ok (.ireturn, 1) := dq_172 (by decide +kernel)
theorem dX6_readByte_0 : decode cX6_readByte 0 = .ok (.aload_n 0, 1) := dq_42 (by decide +kernel)
theorem dX6_readByte_1 : decode cX6_readByte 1 = .ok (.aload_n 0, 1) := dq_42 (by decide +kernel)
theorem dX6_readByte_12 : decode cX6_readByte 12 = .ok (.aload_n 0, 1) := dq_42 (by decide +kernel)
theorem dX6_readByte_13 : decode cX6_readByte 13 = .ok (.dup, 1) := dq_89 (by decide +kernel)
theorem dX6_readByte_14 : decode cX6_readByte 14 = .ok (.getfield 36, 3) := dq_180 (b1 := 0) (b2 := 36) (by decide +kernel) (by decide)
theorem dX6_readByte_17 : decode cX6_readByte 17 = .ok (.iconst 1, 1) := dq_4 (by decide +kernel)
theorem dX6_readByte_18 : decode cX6_readByte 18 = .ok (.iadd, 1) := dq_96 (by decide +kernel)
theorem dX6_readByte_19 : decode cX6_readByte 19 = .ok (.putfield 36, 3) := dq_181 (b1 := 0) (b2 := 36) (by decide +kernel) (by decide)
theorem dX6_readByte_2 : decode cX6_readByte 2 = .ok (.getfield 36, 3) := dq_180 (b1 := 0) (b2 := 36) (by decide +kernel) (by decide)
theorem dX6_readByte_22 : decode cX6_readByte 22 = .ok (.goto 8, 3) := dq_167 (b1 := 0) (b2 := 8) (by decide +kernel) (by decide)
theorem dX6_readByte_25 : decode cX6_readByte 25 = .ok (.aload_n 0, 1) := dq_42 (by decide +kernel)
theorem dX6_readByte_26 : decode cX6_readByte 26 = .ok (.iconst 1, 1) := dq_4 (by decide +kernel)
theorem dX6_readByte_27 : decode cX6_readByte 27 = .ok (.invokevirtual 78, 3) := dq_182 (b1 := 0) (b2 := 78) (by decide +kernel) (by decide)
theorem dX6_readByte_30 : decode cX6_readByte 30 = .ok (.return_, 1) := dq_177 (by decide +kernel)
theorem dX6_readByte_5 : decode cX6_readByte 5 = .ok (.invokevirtual 71, 3) := dq_182 (b1 := 0) (b2 := 71) (by decide +kernel) (by decide)
theorem dX6_readByte_8 : decode cX6_readByte 8 = .ok (.iload_n 1, 1) := dq_27 (by decide +kernel)
theorem dX6_readByte_9 : decode cX6_readByte 9 = .ok (.if_icmp .ne 16, 3) := dq_160 (b1 := 0) (b2 := 16) (by decide +kernel) (by decide)
theorem dX6_readLaw_0 : decode cX6_readLaw 0 = .ok (.aload_n 0, 1) := dq_42 (by decide +kernel)
theorem dX6_readLaw_1 : decode cX6_readLaw 1 = .ok (.bipush 109, 2) := dq_16 (b1 := 109) (by decide +kernel) (by decide)
theorem dX6_readLaw_10 : decode cX6_readLaw 10 = .ok (.aload_n 0, 1) := dq_42 (by decide +kernel)
theorem dX6_readLaw_11 : decode cX6_readLaw 11 = .ok (.iconst 5, 1) := dq_8 (by decide +kernel)
theorem dX6_readLaw_12 : decode cX6_readLaw 12 = .ok (.bipush 15, 2) := dq_16 (b1 := 15) (by decide +kernel) (by decide)
theorem dX6_readLaw_14 : decode cX6_readLaw 14 = .ok (.invokevirtual 55, 3) := dq_182 (b1 := 0) (b2 := 55) (by decide +kernel) (by decide)
theorem dX6_readLaw_17 : decode cX6_readLaw 17 = .ok (.putfield 59, 3) := dq_181 (b1 := 0) (b2 := 59) (by decide +kernel) (by decide)
theorem dX6_readLaw_20 : decode cX6_readLaw 20 = .ok (.aload_n 0, 1) := dq_42 (by decide +kernel)
theorem dX6_readLaw_21 : decode cX6_readLaw 21 = .ok (.bipush 44, 2) := dq_16 (b1 := 44) (by decide +kernel) (by decide)
theorem dX6_readLaw_23 : decode cX6_readLaw 23 = .ok (.invokevirtual 51, 3) := dq_182 (b1 := 0) (b2 := 51) (by decide +kernel) (by decide)
theorem dX6_readLaw_26 : decode cX6_readLaw 26 = .ok (.aload_n 0, 1) := dq_42 (by decide +kernel)
theorem dX6_readLaw_27 : decode cX6_readLaw 27 = .ok (.getfield 18, 3) := dq_180 (b1 := 0) (b2 := 18) (by decide +kernel) (by decide)
theorem dX6_readLaw_3 : decode cX6_readLaw 3 = .ok (.invokevirtual 51, 3) := dq_182 (b1 := 0) (b2 := 51) (by decide +kernel) (by decide)
theorem dX6_readLaw_30 : decode cX6_readLaw 30 = .ok (.aload_n 0, 1) := dq_42 (by decide +kernel)
theorem dX6_readLaw_31 : decode cX6_readLaw 31 = .ok (.iconst 0, 1) := dq_3 (by decide +kernel)
theorem dX6_readLaw_32 : decode cX6_readLaw 32 = .ok (.aload_n 0, 1) := dq_42 (by decide +kernel)
theorem dX6_readLaw_33 : decode cX6_readLaw 33 = .ok (.getfield 18, 3) := dq_180 (b1 := 0) (b2 := 18) (by decide +kernel) (by decide)
theorem dX6_readLaw_36 : decode cX6_readLaw 36 = .ok (.getfield 59, 3) := dq_180 (b1 := 0) (b2 := 59) (by decide +kernel) (by decide)
theorem dX6_readLaw_39 : decode cX6_readLaw 39 = .ok (.iconst 1, 1) := dq_4 (by decide +kernel)
theorem dX6_readLaw_40 : decode cX6_readLaw 40 = .ok (.isub, 1) := dq_100 (by decide +kernel)
theorem dX6_readLaw_41 : decode cX6_readLaw 41 = .ok (.invokevirtual 55, 3) := dq_182 (b1 := 0) (b2 := 55) (by decide +kernel) (by decide)
theorem dX6_readLaw_44 : decode cX6_readLaw 44 = .ok (.putfield 62, 3) := dq_181 (b1 := 0) (b2 := 62) (by decide +kernel) (by decide)
theorem dX6_readLaw_47 : decode cX6_readLaw 47 = .ok (.aload_n 0, 1) := dq_42 (by decide +kernel)
theorem dX6_readLaw_48 : decode cX6_readLaw 48 = .ok (.bipush 44, 2) := dq_16 (b1 := 44) (by decide +kernel) (by decide)
theorem dX6_readLaw_50 : decode cX6_readLaw 50 = .ok (.invokevirtual 51, 3) := dq_182 (b1 := 0) (b2 := 51) (by decide +kernel) (by decide)
theorem dX6_readLaw_53 : decode cX6_readLaw 53 = .ok (.aload_n 0, 1) := dq_42 (by decide +kernel)
theorem dX6_readLaw_54 : decode cX6_readLaw 54 = .ok (.getfield 18, 3) := dq_180 (b1 := 0) (b2 := 18) (by decide +kernel) (by decide)
theorem dX6_readLaw_57 : decode cX6_readLaw 57 = .ok (.aload_n 0, 1) := dq_42 (by decide +kernel)
theorem dX6_readLaw_58 : decode cX6_readLaw 58 = .ok (.iconst 0, 1) := dq_3 (by decide +kernel)
theorem dX6_readLaw_59 : decode cX6_readLaw 59 = .ok (.iconst 4, 1) := dq_7 (by decide +kernel)
theorem dX6_readLaw_6 : decode cX6_readLaw 6 = .ok (.aload_n 0, 1) := dq_42 (by decide +kernel)
theorem dX6_readLaw_60 : decode cX6_readLaw 60 = .ok (.invokevirtual 55, 3) := dq_182 (b1 := 0) (b2 := 55) (by decide +kernel) (by decide)
theorem dX6_readLaw_63 : decode cX6_readLaw 63 = .ok (.putfield 65, 3) := dq_181 (b1 := 0) (b2 := 65) (by decide +kernel) (by decide)
theorem dX6_readLaw_66 : decode cX6_readLaw 66 = .ok (.aload_n 0, 1) := dq_42 (by decide +kernel)
theorem dX6_readLaw_67 : decode cX6_readLaw 67 = .ok (.bipush 59, 2) := dq_16 (b1 := 59) (by decide +kernel) (by decide)
theorem dX6_readLaw_69 : decode cX6_readLaw 69 = .ok (.invokevirtual 51, 3) := dq_182 (b1 := 0) (b2 := 51) (by decide +kernel) (by decide)
theorem dX6_readLaw_7 : decode cX6_readLaw 7 = .ok (.getfield 18, 3) := dq_180 (b1 := 0) (b2 := 18) (by decide +kernel) (by decide)
theorem dX6_readLaw_72 : decode cX6_readLaw 72 = .ok (.return_, 1) := dq_177 (by decide +kernel)
theorem dX6_readNumber_0 : decode cX6_readNumber 0 = .ok (.aload_n 0, 1) := dq_42 (by decide +kernel)
theorem dX6_readNumber_1 : decode cX6_readNumber 1 = .ok (.invokevirtual 100, 3) := dq_182 (b1 := 0) (b2 := 100) (by decide +kernel) (by decide)
theorem dX6_readNumber_10 : decode cX6_readNumber 10 = .ok (.iload_n 3, 1) := dq_29 (by decide +kernel)
theorem dX6_readNumber_11 : decode cX6_readNumber 11 = .ok (.iconst 2, 1) := dq_5 (by decide +kernel)
theorem dX6_readNumber_12 : decode cX6_readNumber 12 = .ok (.if_icmp .le 10, 3) := dq_164 (b1 := 0) (b2 := 10) (by decide +kernel) (by decide)
theorem dX6_readNumber_15 : decode cX6_readNumber 15 = .ok (.aload_n 0, 1) := dq_42 (by decide +kernel)
theorem dX6_readNumber_16 : decode cX6_readNumber 16 = .ok (.iconst 1, 1) := dq_4 (by decide +kernel)
theorem dX6_readNumber_17 : decode cX6_readNumber 17 = .ok (.invokevirtual 78, 3) := dq_182 (b1 := 0) (b2 := 78) (by decide +kernel) (by decide)
theorem dX6_readNumber_20 : decode cX6_readNumber 20 = .ok (.iconst 0, 1) := dq_3 (by decide +kernel)
theorem dX6_readNumber_21 : decode cX6_readNumber 21 = .ok (.ireturn, 1) := dq_172 (by decide +kernel)
theorem dX6_readNumber_22 : decode cX6_readNumber 22 = .ok (.iconst 0, 1) := dq_3 (by decide +kernel)
theorem dX6_readNumber_23 : decode cX6_readNumber 23 = .ok (.istore 4, 2) := dq_54 (b1 := 4) (by decide +kernel) (by decide)
theorem dX6_readNumber_25 : decode cX6_readNumber 25 = .ok (.iconst 0, 1) := dq_3 (by decide +kernel)
theorem dX6_readNumber_26 : decode cX6_readNumber 26 = .ok (.istore 5, 2) := dq_54 (b1 := 5) (by decide +kernel) (by decide)
theorem dX6_readNumber_28 : decode cX6_readNumber 28 = .ok (.iload 5, 2) := dq_21 (b1 := 5) (by decide +kernel) (by decide)
theorem dX6_readNumber_30 : decode cX6_readNumber 30 = .ok (.iload_n 3, 1) := dq_29 (by decide +kernel)
theorem dX6_readNumber_31 : decode cX6_readNumber 31 = .ok (.if_icmp .ge 31, 3) := dq_162 (b1 := 0) (b2 := 31) (by decide +kernel) (by decide)
theorem dX6_readNumber_34 : decode cX6_readNumber 34 = .ok (.iload 4, 2) := dq_21 (b1 := 4) (by decide +kernel) (by decide)
theorem dX6_readNumber_36 : decode cX6_readNumber 36 = .ok (.bipush 10, 2) := dq_16 (b1 := 10) (by decide +kernel) (by decide)
theorem dX6_readNumber_38 : decode cX6_readNumber 38 = .ok (.imul, 1) := dq_104 (by decide +kernel)
theorem dX6_readNumber_39 : decode cX6_readNumber 39 = .ok (.aload_n 0, 1) := dq_42 (by decide +kernel)
theorem dX6_readNumber_4 : decode cX6_readNumber 4 = .ok (.istore_n 3, 1) := dq_62 (by decide +kernel)
theorem dX6_readNumber_40 : decode cX6_readNumber 40 = .ok (.aload_n 0, 1) := dq_42 (by decide +kernel)
theorem dX6_readNumber_41 : decode cX6_readNumber 41 = .ok (.getfield 36, 3) := dq_180 (b1 := 0) (b2 := 36) (by decide +kernel) (by decide)
theorem dX6_readNumber_44 : decode cX6_readNumber 44 = .ok (.iload 5, 2) := dq_21 (b1 := 5) (by decide +kernel) (by decide)
theorem dX6_readNumber_46 : decode cX6_readNumber 46 = .ok (.iadd, 1) := dq_96 (by decide +kernel)
theorem dX6_readNumber_47 : decode cX6_readNumber 47 = .ok (.invokevirtual 71, 3) := dq_182 (b1 := 0) (b2 := 71) (by decide +kernel) (by decide)
theorem dX6_readNumber_5 : decode cX6_readNumber 5 = .ok (.iload_n 3, 1) := dq_29 (by decide +kernel)
theorem dX6_readNumber_50 : decode cX6_readNumber 50 = .ok (.iadd, 1) := dq_96 (by decide +kernel)
theorem dX6_readNumber_51 : decode cX6_readNumber 51 = .ok (.bipush 48, 2) := dq_16 (b1 := 48) (by decide +kernel) (by decide)
theorem dX6_readNumber_53 : decode cX6_readNumber 53 = .ok (.isub, 1) := dq_100 (by decide +kernel)
theorem dX6_readNumber_54 : decode cX6_readNumber 54 = .ok (.istore 4, 2) := dq_54 (b1 := 4) (by decide +kernel) (by decide)
theorem dX6_readNumber_56 : decode cX6_readNumber 56 = .ok (.iinc 5 1, 3) := dq_132 (b1 := 5) (b2 := 1) (by decide +kernel) (by decide) (by decide)
theorem dX6_readNumber_59 : decode cX6_readNumber 59 = .ok (.goto (-31), 3) := dq_167 (b1 := 255) (b2 := 225) (by decide +kernel) (by decide)
theorem dX6_readNumber_6 : decode cX6_readNumber 6 = .ok (.iconst 1, 1) := dq_4 (by decide +kernel)
theorem dX6_readNumber_62 : decode cX6_readNumber 62 = .ok (.iload 4, 2) := dq_21 (b1 := 4) (by decide +kernel) (by decide)
theorem dX6_readNumber_64 : decode cX6_readNumber 64 = .ok (.iload_n 1, 1) := dq_27 (by decide +kernel)
theorem dX6_readNumber_65 : decode cX6_readNumber 65 = .ok (.if_icmp .lt 9, 3) := dq_161 (b1 := 0) (b2 := 9) (by decide +kernel) (by decide)
theorem dX6_readNumber_68 : decode cX6_readNumber 68 = .ok (.iload 4, 2) := dq_21 (b1 := 4) (by decide +kernel) (by decide)
theorem dX6_readNumber_7 : decode cX6_readNumber 7 = .ok (.if_icmp .lt 8, 3) := dq_161 (b1 := 0) (b2 := 8) (by decide +kernel) (by decide)
theorem dX6_readNumber_70 : decode cX6_readNumber 70 = .ok (.iload_n 2, 1) := dq_28 (by decide +kernel)
theorem dX6_readNumber_71 : decode cX6_readNumber 71 = .ok (.if_icmp .le 10, 3) := dq_164 (b1 := 0) (b2 := 10) (by decide +kernel) (by decide)
theorem dX6_readNumber_74 : decode cX6_readNumber 74 = .ok (.aload_n 0, 1) := dq_42 (by decide +kernel)
theorem dX6_readNumber_75 : decode cX6_readNumber 75 = .ok (.iconst 2, 1) := dq_5 (by decide +kernel)
theorem dX6_readNumber_76 : decode cX6_readNumber 76 = .ok (.invokevirtual 78, 3) := dq_182 (b1 := 0) (b2 := 78) (by decide +kernel) (by decide)
theorem dX6_readNumber_79 : decode cX6_readNumber 79 = .ok (.iconst 0, 1) := dq_3 (by decide +kernel)
theorem dX6_readNumber_80 : decode cX6_readNumber 80 = .ok (.ireturn, 1) := dq_172 (by decide +kernel)
theorem dX6_readNumber_81 : decode cX6_readNumber 81 = .ok (.aload_n 0, 1) := dq_42 (by decide +kernel)
theorem dX6_readNumber_82 : decode cX6_readNumber 82 = .ok (.dup, 1) := dq_89 (by decide +kernel)
theorem dX6_readNumber_83 : decode cX6_readNumber 83 = .ok (.getfield 36, 3) := dq_180 (b1 := 0) (b2 := 36) (by decide +kernel) (by decide)
theorem dX6_readNumber_86 : decode cX6_readNumber 86 = .ok (.iload_n 3, 1) := dq_29 (by decide +kernel)
theorem dX6_readNumber_87 : decode cX6_readNumber 87 = .ok (.iadd, 1) := dq_96 (by decide +kernel)
theorem dX6_readNumber_88 : decode cX6_readNumber 88 = .ok (.putfield 36, 3) := dq_181 (b1 := 0) (b2 := 36) (by decide +kernel) (by decide)
theorem dX6_readNumber_91 : decode cX6_readNumber 91 = .ok (.iload 4, 2) := dq_21 (b1 := 4) (by decide +kernel) (by decide)
theorem dX6_readNumber_93 : decode cX6_readNumber 93 = .ok (.ireturn, 1) := dq_172 (by decide +kernel)
theorem dX6_readSound_0 : decode cX6_readSound 0 = .ok (.aload_n 0, 1) := dq_42 (by decide +kernel)
theorem dX6_readSound_1 : decode cX6_readSound 1 = .ok (.aload_n 0, 1) := dq_42 (by decide +kernel)
theorem dX6_readSound_100 : decode cX6_readSound 100 = .ok (.aload_n 0, 1) := dq_42 (by decide +kernel)
theorem dX6_readSound_101 : decode cX6_readSound 101 = .ok (.getfield 18, 3) := dq_180 (b1 := 0) (b2 := 18) (by decide +kernel) (by decide)
theorem dX6_readSound_104 : decode cX6_readSound 104 = .ok (.getfield 90, 3) := dq_180 (b1 := 0) (b2 := 90) (by decide +kernel) (by decide)
theorem dX6_readSound_107 : decode cX6_readSound 107 = .ok (.iload_n 1, 1) := dq_27 (by decide +kernel)
theorem dX6_readSound_108 : decode cX6_readSound 108 = .ok (.iastore, 1) := dq_79 (by decide +kernel)
theorem dX6_readSound_109 : decode cX6_readSound 109 = .ok (.aload_n 0, 1) := dq_42 (by decide +kernel)
theorem dX6_readSound_11 : decode cX6_readSound 11 = .ok (.istore_n 1, 1) := dq_60 (by decide +kernel)
theorem dX6_readSound_110 : decode cX6_readSound 110 = .ok (.getfield 18, 3) := dq_180 (b1 := 0) (b2 := 18) (by decide +kernel) (by decide)
theorem dX6_readSound_113 : decode cX6_readSound 113 = .ok (.aload_n 0, 1) := dq_42 (by decide +kernel)
theorem dX6_readSound_114 : decode cX6_readSound 114 = .ok (.getfield 18, 3) := dq_180 (b1 := 0) (b2 := 18) (by decide +kernel) (by decide)
theorem dX6_readSound_117 : decode cX6_readSound 117 = .ok (.getfield 90, 3) := dq_180 (b1 := 0) (b2 := 90) (by decide +kernel) (by decide)
theorem dX6_readSound_12 : decode cX6_readSound 12 = .ok (.iload_n 1, 1) := dq_27 (by decide +kernel)
theorem dX6_readSound_120 : decode cX6_readSound 120 = .ok (.iload_n 2, 1) := dq_28 (by decide +kernel)
theorem dX6_readSound_121 : decode cX6_readSound 121 = .ok (.iload_n 3, 1) := dq_29 (by decide +kernel)
theorem dX6_readSound_122 : decode cX6_readSound 122 = .ok (.invokevirtual 96, 3) := dq_182 (b1 := 0) (b2 := 96) (by decide +kernel) (by decide)
theorem dX6_readSound_125 : decode cX6_readSound 125 = .ok (.aload_n 0, 1) := dq_42 (by decide +kernel)
theorem dX6_readSound_126 : decode cX6_readSound 126 = .ok (.getfield 18, 3) := dq_180 (b1 := 0) (b2 := 18) (by decide +kernel) (by decide)
theorem dX6_readSound_129 : decode cX6_readSound 129 = .ok (.dup, 1) := dq_89 (by decide +kernel)
theorem dX6_readSound_13 : decode cX6_readSound 13 = .ok (.ifCond .ne 11, 3) := dq_154 (b1 := 0) (b2 := 11) (by decide +kernel) (by decide)
theorem dX6_readSound_130 : decode cX6_readSound 130 = .ok (.getfield 90, 3) := dq_180 (b1 := 0) (b2 := 90) (by decide +kernel) (by decide)
theorem dX6_readSound_133 : decode cX6_readSound 133 = .ok (.iconst 1, 1) := dq_4 (by decide +kernel)
theorem dX6_readSound_134 : decode cX6_readSound 134 = .ok (.iadd, 1) := dq_96 (by decide +kernel)
theorem dX6_readSound_135 : decode cX6_readSound 135 = .ok (.putfield 90, 3) := dq_181 (b1 := 0) (b2 := 90) (by decide +kernel) (by decide)
theorem dX6_readSound_138 : decode cX6_readSound 138 = .ok (.return_, 1) := dq_177 (by decide +kernel)
theorem dX6_readSound_16 : decode cX6_readSound 16 = .ok (.aload_n 0, 1) := dq_42 (by decide +kernel)
theorem dX6_readSound_17 : decode cX6_readSound 17 = .ok (.iconst 1, 1) := dq_4 (by decide +kernel)
theorem dX6_readSound_18 : decode cX6_readSound 18 = .ok (.invokevirtual 78, 3) := dq_182 (b1 := 0) (b2 := 78) (by decide +kernel) (by decide)
theorem dX6_readSound_2 : decode cX6_readSound 2 = .ok (.getfield 36, 3) := dq_180 (b1 := 0) (b2 := 36) (by decide +kernel) (by decide)
theorem dX6_readSound_21 : decode cX6_readSound 21 = .ok (.goto 20, 3) := dq_167 (b1 := 0) (b2 := 20) (by decide +kernel) (by decide)
theorem dX6_readSound_24 : decode cX6_readSound 24 = .ok (.aload_n 0, 1) := dq_42 (by decide +kernel)
theorem dX6_readSound_25 : decode cX6_readSound 25 = .ok (.getfield 18, 3) := dq_180 (b1 := 0) (b2 := 18) (by decide +kernel) (by decide)
theorem dX6_readSound_28 : decode cX6_readSound 28 = .ok (.getfield 90, 3) := dq_180 (b1 := 0) (b2 := 90) (by decide +kernel) (by decide)
theorem dX6_readSound_31 : decode cX6_readSound 31 = .ok (.bipush 6, 2) := dq_16 (b1 := 6) (by decide +kernel) (by decide)
theorem dX6_readSound_33 : decode cX6_readSound 33 = .ok (.if_icmp .lt 8, 3) := dq_161 (b1 := 0) (b2 := 8) (by decide +kernel) (by decide)
theorem dX6_readSound_36 : decode cX6_readSound 36 = .ok (.aload_n 0, 1) := dq_42 (by decide +kernel)
theorem dX6_readSound_37 : decode cX6_readSound 37 = .ok (.iconst 3, 1) := dq_6 (by decide +kernel)
theorem dX6_readSound_38 : decode cX6_readSound 38 = .ok (.invokevirtual 78, 3) := dq_182 (b1 := 0) (b2 := 78) (by decide +kernel) (by decide)
theorem dX6_readSound_41 : decode cX6_readSound 41 = .ok (.aload_n 0, 1) := dq_42 (by decide +kernel)
theorem dX6_readSound_42 : decode cX6_readSound 42 = .ok (.dup, 1) := dq_89 (by decide +kernel)
theorem dX6_readSound_43 : decode cX6_readSound 43 = .ok (.getfield 36, 3) := dq_180 (b1 := 0) (b2 := 36) (by decide +kernel) (by decide)
theorem dX6_readSound_46 : decode cX6_readSound 46 = .ok (.iconst 1, 1) := dq_4 (by decide +kernel)
theorem dX6_readSound_47 : decode cX6_readSound 47 = .ok (.iadd, 1) := dq_96 (by decide +kernel)
theorem dX6_readSound_48 : decode cX6_readSound 48 = .ok (.putfield 36, 3) := dq_181 (b1 := 0) (b2 := 36) (by decide +kernel) (by decide)
theorem dX6_readSound_5 : decode cX6_readSound 5 = .ok (.invokevirtual 71, 3) := dq_182 (b1 := 0) (b2 := 71) (by decide +kernel) (by decide)
theorem dX6_readSound_51 : decode cX6_readSound 51 = .ok (.aload_n 0, 1) := dq_42 (by decide +kernel)
theorem dX6_readSound_52 : decode cX6_readSound 52 = .ok (.iconst 0, 1) := dq_3 (by decide +kernel)
theorem dX6_readSound_53 : decode cX6_readSound 53 = .ok (.aload_n 0, 1) := dq_42 (by decide +kernel)
theorem dX6_readSound_54 : decode cX6_readSound 54 = .ok (.getfield 18, 3) := dq_180 (b1 := 0) (b2 := 18) (by decide +kernel) (by decide)
theorem dX6_readSound_57 : decode cX6_readSound 57 = .ok (.getfield 59, 3) := dq_180 (b1 := 0) (b2 := 59) (by decide +kernel) (by decide)
theorem dX6_readSound_60 : decode cX6_readSound 60 = .ok (.iconst 1, 1) := dq_4 (by decide +kernel)
theorem dX6_readSound_61 : decode cX6_readSound 61 = .ok (.isub, 1) := dq_100 (by decide +kernel)
theorem dX6_readSound_62 : decode cX6_readSound 62 = .ok (.invokevirtual 55, 3) := dq_182 (b1 := 0) (b2 := 55) (by decide +kernel) (by decide)
theorem dX6_readSound_65 : decode cX6_readSound 65 = .ok (.istore_n 2, 1) := dq_61 (by decide +kernel)
theorem dX6_readSound_66 : decode cX6_readSound 66 = .ok (.aload_n 0, 1) := dq_42 (by decide +kernel)
theorem dX6_readSound_67 : decode cX6_readSound 67 = .ok (.bipush 44, 2) := dq_16 (b1 := 44) (by decide +kernel) (by decide)
theorem dX6_readSound_69 : decode cX6_readSound 69 = .ok (.invokevirtual 51, 3) := dq_182 (b1 := 0) (b2 := 51) (by decide +kernel) (by decide)
theorem dX6_readSound_72 : decode cX6_readSound 72 = .ok (.aload_n 0, 1) := dq_42 (by decide +kernel)
theorem dX6_readSound_73 : decode cX6_readSound 73 = .ok (.iconst 1, 1) := dq_4 (by decide +kernel)
theorem dX6_readSound_74 : decode cX6_readSound 74 = .ok (.bipush 20, 2) := dq_16 (b1 := 20) (by decide +kernel) (by decide)
theorem dX6_readSound_76 : decode cX6_readSound 76 = .ok (.invokevirtual 55, 3) := dq_182 (b1 := 0) (b2 := 55) (by decide +kernel) (by decide)
theorem dX6_readSound_79 : decode cX6_readSound 79 = .ok (.istore_n 3, 1) := dq_62 (by decide +kernel)
theorem dX6_readSound_8 : decode cX6_readSound 8 = .ok (.invokestatic 87, 3) := dq_184 (b1 := 0) (b2 := 87) (by decide +kernel) (by decide)
theorem dX6_readSound_80 : decode cX6_readSound 80 = .ok (.aload_n 0, 1) := dq_42 (by decide +kernel)
theorem dX6_readSound_81 : decode cX6_readSound 81 = .ok (.bipush 59, 2) := dq_16 (b1 := 59) (by decide +kernel) (by decide)
theorem dX6_readSound_83 : decode cX6_readSound 83 = .ok (.invokevirtual 51, 3) := dq_182 (b1 := 0) (b2 := 51) (by decide +kernel) (by decide)
theorem dX6_readSound_86 : decode cX6_readSound 86 = .ok (.aload_n 0, 1) := dq_42 (by decide +kernel)
theorem dX6_readSound_87 : decode cX6_readSound 87 = .ok (.getfield 30, 3) := dq_180 (b1 := 0) (b2 := 30) (by decide +kernel) (by decide)
theorem dX6_readSound_90 : decode cX6_readSound 90 = .ok (.ifCond .ne 48, 3) := dq_154 (b1 := 0) (b2 := 48) (by decide +kernel) (by decide)
theorem dX6_readSound_93 : decode cX6_readSound 93 = .ok (.aload_n 0, 1) := dq_42 (by decide +kernel)
theorem dX6_readSound_94 : decode cX6_readSound 94 = .ok (.getfield 18, 3) := dq_180 (b1 := 0) (b2 := 18) (by decide +kernel) (by decide)
theorem dX6_readSound_97 : decode cX6_readSound 97 = .ok (.getfield 93, 3) := dq_180 (b1 := 0) (b2 := 93) (by decide +kernel) (by decide)
theorem dX6_readSounds_0 : decode cX6_readSounds 0 = .ok (.aload_n 0, 1) := dq_42 (by decide +kernel)
theorem dX6_readSounds_1 : decode cX6_readSounds 1 = .ok (.invokevirtual 84, 3) := dq_182 (b1 := 0) (b2 := 84) (by decide +kernel) (by decide)
theorem dX6_readSounds_12 : decode cX6_readSounds 12 = .ok (.aload_n 0, 1) := dq_42 (by decide +kernel)
theorem dX6_readSounds_13 : decode cX6_readSounds 13 = .ok (.getfield 30, 3) := dq_180 (b1 := 0) (b2 := 30) (by decide +kernel) (by decide)
theorem dX6_readSounds_16 : decode cX6_readSounds 16 = .ok (.ifCond .ne 25, 3) := dq_154 (b1 := 0) (b2 := 25) (by decide +kernel) (by decide)
theorem dX6_readSounds_19 : decode cX6_readSounds 19 = .ok (.aload_n 0, 1) := dq_42 (by decide +kernel)
theorem dX6_readSounds_20 : decode cX6_readSounds 20 = .ok (.aload_n 0, 1) := dq_42 (by decide +kernel)
theorem dX6_readSounds_21 : decode cX6_readSounds 21 = .ok (.getfield 36, 3) := dq_180 (b1 := 0) (b2 := 36) (by decide +kernel) (by decide)
theorem dX6_readSounds_24 : decode cX6_readSounds 24 = .ok (.invokevirtual 71, 3) := dq_182 (b1 := 0) (b2 := 71) (by decide +kernel) (by decide)
theorem dX6_readSounds_27 : decode cX6_readSounds 27 = .ok (.iconst (-1), 1) := dq_2 (by decide +kernel)
theorem dX6_readSounds_28 : decode cX6_readSounds 28 = .ok (.if_icmp .eq 13, 3) := dq_159 (b1 := 0) (b2 := 13) (by decide +kernel) (by decide)
theorem dX6_readSounds_31 : decode cX6_readSounds 31 = .ok (.aload_n 0, 1) := dq_42 (by decide +kernel)
theorem dX6_readSounds_32 : decode cX6_readSounds 32 = .ok (.invokevirtual 84, 3) := dq_182 (b1 := 0) (b2 := 84) (by decide +kernel) (by decide)
theorem dX6_readSounds_35 : decode cX6_readSounds 35 = .ok (.iinc 1 1, 3) := dq_132 (b1 := 1) (b2 := 1) (by decide +kernel) (by decide) (by decide)
theorem dX6_readSounds_38 : decode cX6_readSounds 38 = .ok (.goto (-32), 3) := dq_167 (b1 := 255) (b2 := 224) (by decide +kernel) (by decide)
theorem dX6_readSounds_4 : decode cX6_readSounds 4 = .ok (.iconst 0, 1) := dq_3 (by decide +kernel)
theorem dX6_readSounds_41 : decode cX6_readSounds 41 = .ok (.return_, 1) := dq_177 (by decide +kernel)
theorem dX6_readSounds_5 : decode cX6_readSounds 5 = .ok (.istore_n 1, 1) := dq_60 (by decide +kernel)
theorem dX6_readSounds_6 : decode cX6_readSounds 6 = .ok (.iload_n 1, 1) := dq_27 (by decide +kernel)
theorem dX6_readSounds_7 : decode cX6_readSounds 7 = .ok (.bipush 6, 2) := dq_16 (b1 := 6) (by decide +kernel) (by decide)
theorem dX6_readSounds_9 : decode cX6_readSounds 9 = .ok (.if_icmp .ge 32, 3) := dq_162 (b1 := 0) (b2 := 32) (by decide +kernel) (by decide)
theorem dX6_readWind_0 : decode cX6_readWind 0 = .ok (.aload_n 0, 1) := dq_42 (by decide +kernel)
theorem dX6_readWind_1 : decode cX6_readWind 1 = .ok (.getfield 30, 3) := dq_180 (b1 := 0) (b2 := 30) (by decide +kernel) (by decide)
theorem dX6_readWind_12 : decode cX6_readWind 12 = .ok (.invokevirtual 71, 3) := dq_182 (b1 := 0) (b2 := 71) (by decide +kernel) (by decide)
theorem dX6_readWind_15 : decode cX6_readWind 15 = .ok (.bipush 119, 2) := dq_16 (b1 := 119) (by decide +kernel) (by decide)
theorem dX6_readWind_17 : decode cX6_readWind 17 = .ok (.if_icmp .ne 20, 3) := dq_160 (b1 := 0) (b2 := 20) (by decide +kernel) (by decide)
theorem dX6_readWind_20 : decode cX6_readWind 20 = .ok (.aload_n 0, 1) := dq_42 (by decide +kernel)
theorem dX6_readWind_21 : decode cX6_readWind 21 = .ok (.getfield 18, 3) := dq_180 (b1 := 0) (b2 := 18) (by decide +kernel) (by decide)
theorem dX6_readWind_24 : decode cX6_readWind 24 = .ok (.getfield 75, 3) := dq_180 (b1 := 0) (b2 := 75) (by decide +kernel) (by decide)
theorem dX6_readWind_27 : decode cX6_readWind 27 = .ok (.bipush 6, 2) := dq_16 (b1 := 6) (by decide +kernel) (by decide)
theorem dX6_readWind_29 : decode cX6_readWind 29 = .ok (.if_icmp .lt 8, 3) := dq_161 (b1 := 0) (b2 := 8) (by decide +kernel) (by decide)
theorem dX6_readWind_32 : decode cX6_readWind 32 = .ok (.aload_n 0, 1) := dq_42 (by decide +kernel)
theorem dX6_readWind_33 : decode cX6_readWind 33 = .ok (.iconst 3, 1) := dq_6 (by decide +kernel)
theorem dX6_readWind_34 : decode cX6_readWind 34 = .ok (.invokevirtual 78, 3) := dq_182 (b1 := 0) (b2 := 78) (by decide +kernel) (by decide)
theorem dX6_readWind_37 : decode cX6_readWind 37 = .ok (.aload_n 0, 1) := dq_42 (by decide +kernel)
theorem dX6_readWind_38 : decode cX6_readWind 38 = .ok (.bipush 119, 2) := dq_16 (b1 := 119) (by decide +kernel) (by decide)
theorem dX6_readWind_4 : decode cX6_readWind 4 = .ok (.ifCond .ne 33, 3) := dq_154 (b1 := 0) (b2 := 33) (by decide +kernel) (by decide)
theorem dX6_readWind_40 : decode cX6_readWind 40 = .ok (.invokevirtual 51, 3) := dq_182 (b1 := 0) (b2 := 51) (by decide +kernel) (by decide)
theorem dX6_readWind_43 : decode cX6_readWind 43 = .ok (.aload_n 0, 1) := dq_42 (by decide +kernel)
theorem dX6_readWind_44 : decode cX6_readWind 44 = .ok (.iconst 0, 1) := dq_3 (by decide +kernel)
theorem dX6_readWind_45 : decode cX6_readWind 45 = .ok (.iconst 4, 1) := dq_7 (by decide +kernel)
theorem dX6_readWind_46 : decode cX6_readWind 46 = .ok (.invokevirtual 55, 3) := dq_182 (b1 := 0) (b2 := 55) (by decide +kernel) (by decide)
theorem dX6_readWind_49 : decode cX6_readWind 49 = .ok (.istore_n 1, 1) := dq_60 (by decide +kernel)
theorem dX6_readWind_50 : decode cX6_readWind 50 = .ok (.aload_n 0, 1) := dq_42 (by decide +kernel)
theorem dX6_readWind_51 : decode cX6_readWind 51 = .ok (.bipush 59, 2) := dq_16 (b1 := 59) (by decide +kernel) (by decide)
theorem dX6_readWind_53 : decode cX6_readWind 53 = .ok (.invokevirtual 51, 3) := dq_182 (b1 := 0) (b2 := 51) (by decide +kernel) (by decide)
theorem dX6_readWind_56 : decode cX6_readWind 56 = .ok (.aload_n 0, 1) := dq_42 (by decide +kernel)
theorem dX6_readWind_57 : decode cX6_readWind 57 = .ok (.getfield 30, 3) := dq_180 (b1 := 0) (b2 := 30) (by decide +kernel) (by decide)
theorem dX6_readWind_60 : decode cX6_readWind 60 = .ok (.ifCond .ne 32, 3) := dq_154 (b1 := 0) (b2 := 32) (by decide +kernel) (by decide)
theorem dX6_readWind_63 : decode cX6_readWind 63 = .ok (.aload_n 0, 1) := dq_42 (by decide +kernel)
theorem dX6_readWind_64 : decode cX6_readWind 64 = .ok (.getfield 18, 3) := dq_180 (b1 := 0) (b2 := 18) (by decide +kernel) (by decide)
theorem dX6_readWind_67 : decode cX6_readWind 67 = .ok (.getfield 81, 3) := dq_180 (b1 := 0) (b2 := 81) (by decide +kernel) (by decide)
theorem dX6_readWind_7 : decode cX6_readWind 7 = .ok (.aload_n 0, 1) := dq_42 (by decide +kernel)
theorem dX6_readWind_70 : decode cX6_readWind 70 = .ok (.aload_n 0, 1) := dq_42 (by decide +kernel)
theorem dX6_readWind_71 : decode cX6_readWind 71 = .ok (.getfield 18, 3) := dq_180 (b1 := 0) (b2 := 18) (by decide +kernel) (by decide)
theorem dX6_readWind_74 : decode cX6_readWind 74 = .ok (.getfield 75, 3) := dq_180 (b1 := 0) (b2 := 75) (by decide +kernel) (by decide)
theorem dX6_readWind_77 : decode cX6_readWind 77 = .ok (.iload_n 1, 1) := dq_27 (by decide +kernel)
theorem dX6_readWind_78 : decode cX6_readWind 78 = .ok (.iastore, 1) := dq_79 (by decide +kernel)
theorem dX6_readWind_79 : decode cX6_readWind 79 = .ok (.aload_n 0, 1) := dq_42 (by decide +kernel)
theorem dX6_readWind_8 : decode cX6_readWind 8 = .ok (.aload_n 0, 1) := dq_42 (by decide +kernel)
theorem dX6_readWind_80 : decode cX6_readWind 80 = .ok (.getfield 18, 3) := dq_180 (b1 := 0) (b2 := 18) (by decide +kernel) (by decide)
theorem dX6_readWind_83 : decode cX6_readWind 83 = .ok (.dup, 1) := dq_89 (by decide +kernel)
theorem dX6_readWind_84 : decode cX6_readWind 84 = .ok (.getfield 75, 3) := dq_180 (b1 := 0) (b2 := 75) (by decide +kernel) (by decide)
theorem dX6_readWind_87 : decode cX6_readWind 87 = .ok (.iconst 1, 1) := dq_4 (by decide +kernel)
theorem dX6_readWind_88 : decode cX6_readWind 88 = .ok (.iadd, 1) := dq_96 (by decide +kernel)
theorem dX6_readWind_89 : decode cX6_readWind 89 = .ok (.putfield 75, 3) := dq_181 (b1 := 0) (b2 := 75) (by decide +kernel) (by decide)
theorem dX6_readWind_9 : decode cX6_readWind 9 = .ok (.getfield 36, 3) := dq_180 (b1 := 0) (b2 := 36) (by decide +kernel) (by decide)
theorem dX6_readWind_92 : decode cX6_readWind 92 = .ok (.return_, 1) := dq_177 (by decide +kernel)
theorem dX6_readWinds_0 : decode cX6_readWinds 0 = .ok (.aload_n 0, 1) := dq_42 (by decide +kernel)
theorem dX6_readWinds_1 : decode cX6_readWinds 1 = .ok (.invokevirtual 68, 3) := dq_182 (b1 := 0) (b2 := 68) (by decide +kernel) (by decide)
theorem dX6_readWinds_12 : decode cX6_readWinds 12 = .ok (.aload_n 0, 1) := dq_42 (by decide +kernel)
theorem dX6_readWinds_13 : decode cX6_readWinds 13 = .ok (.getfield 30, 3) := dq_180 (b1 := 0) (b2 := 30) (by decide +kernel) (by decide)
theorem dX6_readWinds_16 : decode cX6_readWinds 16 = .ok (.ifCond .ne 26, 3) := dq_154 (b1 := 0) (b2 := 26) (by decide +kernel) (by decide)
theorem dX6_readWinds_19 : decode cX6_readWinds 19 = .ok (.aload_n 0, 1) := dq_42 (by decide +kernel)
theorem dX6_readWinds_20 : decode cX6_readWinds 20 = .ok (.aload_n 0, 1) := dq_42 (by decide +kernel)
theorem dX6_readWinds_21 : decode cX6_readWinds 21 = .ok (.getfield 36, 3) := dq_180 (b1 := 0) (b2 := 36) (by decide +kernel) (by decide)
theorem dX6_readWinds_24 : decode cX6_readWinds 24 = .ok (.invokevirtual 71, 3) := dq_182 (b1 := 0) (b2 := 71) (by decide +kernel) (by decide)
theorem dX6_readWinds_27 : decode cX6_readWinds 27 = .ok (.bipush 119, 2) := dq_16 (b1 := 119) (by decide +kernel) (by decide)
theorem dX6_readWinds_29 : decode cX6_readWinds 29 = .ok (.if_icmp .ne 13, 3) := dq_160 (b1 := 0) (b2 := 13) (by decide +kernel) (by decide)
theorem dX6_readWinds_32 : decode cX6_readWinds 32 = .ok (.aload_n 0, 1) := dq_42 (by decide +kernel)
theorem dX6_readWinds_33 : decode cX6_readWinds 33 = .ok (.invokevirtual 68, 3) := dq_182 (b1 := 0) (b2 := 68) (by decide +kernel) (by decide)
theorem dX6_readWinds_36 : decode cX6_readWinds 36 = .ok (.iinc 1 1, 3) := dq_132 (b1 := 1) (b2 := 1) (by decide +kernel) (by decide) (by decide)
theorem dX6_readWinds_39 : decode cX6_readWinds 39 = .ok (.goto (-33), 3) := dq_167 (b1 := 255) (b2 := 223) (by decide +kernel) (by decide)
theorem dX6_readWinds_4 : decode cX6_readWinds 4 = .ok (.iconst 0, 1) := dq_3 (by decide +kernel)
theorem dX6_readWinds_42 : decode cX6_readWinds 42 = .ok (.return_, 1) := dq_177 (by decide +kernel)
theorem dX6_readWinds_5 : decode cX6_readWinds 5 = .ok (.istore_n 1, 1) := dq_60 (by decide +kernel)
theorem dX6_readWinds_6 : decode cX6_readWinds 6 = .ok (.iload_n 1, 1) := dq_27 (by decide +kernel)
theorem dX6_readWinds_7 : decode cX6_readWinds 7 = .ok (.bipush 6, 2) := dq_16 (b1 := 6) (by decide +kernel) (by decide)
theorem dX6_readWinds_9 : decode cX6_readWinds 9 = .ok (.if_icmp .ge 33, 3) := dq_162 (b1 := 0) (b2 := 33) (by decide +kernel) (by decide)
theorem dX6_read_0 : decode cX6_read 0 = .ok (.aload_n 0, 1) := dq_42 (by decide +kernel)
theorem dX6_read_1 : decode cX6_read 1 = .ok (.iconst 0, 1) := dq_3 (by decide +kernel)
theorem dX6_read_10 : decode cX6_read 10 = .ok (.aload_n 0, 1) := dq_42 (by decide +kernel)
theorem dX6_read_11 : decode cX6_read 11 = .ok (.iconst 0, 1) := dq_3 (by decide +kernel)
theorem dX6_read_12 : decode cX6_read 12 = .ok (.putfield 36, 3) := dq_181 (b1 := 0) (b2 := 36) (by decide +kernel) (by decide)
theorem dX6_read_15 : decode cX6_read 15 = .ok (.aload_n 0, 1) := dq_42 (by decide +kernel)
theorem dX6_read_16 : decode cX6_read 16 = .ok (.getfield 18, 3) := dq_180 (b1 := 0) (b2 := 18) (by decide +kernel) (by decide)
theorem dX6_read_19 : decode cX6_read 19 = .ok (.invokevirtual 39, 3) := dq_182 (b1 := 0) (b2 := 39) (by decide +kernel) (by decide)
theorem dX6_read_2 : decode cX6_read 2 = .ok (.putfield 30, 3) := dq_181 (b1 := 0) (b2 := 30) (by decide +kernel) (by decide)
theorem dX6_read_22 : decode cX6_read 22 = .ok (.aload_n 0, 1) := dq_42 (by decide +kernel)
theorem dX6_read_23 : decode cX6_read 23 = .ok (.invokevirtual 42, 3) := dq_182 (b1 := 0) (b2 := 42) (by decide +kernel) (by decide)
theorem dX6_read_26 : decode cX6_read 26 = .ok (.aload_n 0, 1) := dq_42 (by decide +kernel)
theorem dX6_read_27 : decode cX6_read 27 = .ok (.invokevirtual 45, 3) := dq_182 (b1 := 0) (b2 := 45) (by decide +kernel) (by decide)
theorem dX6_read_30 : decode cX6_read 30 = .ok (.aload_n 0, 1) := dq_42 (by decide +kernel)
theorem dX6_read_31 : decode cX6_read 31 = .ok (.invokevirtual 48, 3) := dq_182 (b1 := 0) (b2 := 48) (by decide +kernel) (by decide)
theorem dX6_read_34 : decode cX6_read 34 = .ok (.aload_n 0, 1) := dq_42 (by decide +kernel)
theorem dX6_read_35 : decode cX6_read 35 = .ok (.iconst 0, 1) := dq_3 (by decide +kernel)
theorem dX6_read_36 : decode cX6_read 36 = .ok (.putfield 22, 3) := dq_181 (b1 := 0) (b2 := 22) (by decide +kernel) (by decide)
theorem dX6_read_39 : decode cX6_read 39 = .ok (.aload_n 0, 1) := dq_42 (by decide +kernel)
theorem dX6_read_40 : decode cX6_read 40 = .ok (.getfield 30, 3) := dq_180 (b1 := 0) (b2 := 30) (by decide +kernel) (by decide)
theorem dX6_read_43 : decode cX6_read 43 = .ok (.ireturn, 1) := dq_172 (by decide +kernel)
theorem dX6_read_5 : decode cX6_read 5 = .ok (.aload_n 0, 1) := dq_42 (by decide +kernel)
theorem dX6_read_6 : decode cX6_read 6 = .ok (.iconst 0, 1) := dq_3 (by decide +kernel)
theorem dX6_read_7 : decode cX6_read 7 = .ok (.putfield 33, 3) := dq_181 (b1 := 0) (b2 := 33) (by decide +kernel) (by decide)
theorem mx_X6_append_7 : Cond.code yX6_isFull cX6_isFull 1 (some .boolean) ∈ wsX6_append := by unfold wsX6_append; exact List.mem_cons_of_mem _ (List.mem_append_left _ (List.mem_of_getElem? (i := 6) rfl))
theorem mx_X6_append_2 : Cond.fieldLink RX6 22 "MillTalk$Tape" "size" "I" ∈ wsX6_append := by unfold wsX6_append; exact List.mem_cons_of_mem _ (List.mem_append_left _ (List.mem_of_getElem? (i := 1) rfl))
theorem mb_X6_append_wsX60 {w : Cond} (h : w ∈ wsX60) : w ∈ wsX6_append := by unfold wsX6_append; exact List.mem_cons_of_mem _ (List.mem_append_right _ (h))
theorem ggX6_append_X6_isFull : GoodIn wsX6_append wsX6_isFull := goodIn_sub (by unfold wsX6_isFull; exact List.forall_mem_cons.mpr ⟨mx_X6_append_7, List.forall_mem_append.mpr ⟨List.forall_mem_cons.mpr ⟨mx_X6_append_2, fun _ h_ => absurd h_ List.not_mem_nil⟩, (fun _ h_ => mb_X6_append_wsX60 h_)⟩⟩) (by decide +kernel)
theorem mx_X6_append_3 : Cond.methodLink RX6 26 yX6_isFull ∈ wsX6_append := by unfold wsX6_append; exact List.mem_cons_of_mem _ (List.mem_append_left _ (List.mem_of_getElem? (i := 2) rfl))
theorem mx_X6_append_4 : Cond.instanceMethod yX6_isFull ∈ wsX6_append := by unfold wsX6_append; exact List.mem_cons_of_mem _ (List.mem_append_left _ (List.mem_of_getElem? (i := 3) rfl))
theorem mx_X6_append_5 : Cond.selects RX6 yX6_isFull yX6_isFull ∈ wsX6_append := by unfold wsX6_append; exact List.mem_cons_of_mem _ (List.mem_append_left _ (List.mem_of_getElem? (i := 4) rfl))
theorem mx_X6_append_6 : Cond.initialized RX6 ∈ wsX6_append := by unfold wsX6_append; exact List.mem_cons_of_mem _ (List.mem_append_left _ (List.mem_of_getElem? (i := 5) rfl))
theorem gX6_append_X6_isFull : GoodIn wsX6_append (wsV RX6 26 RX6 yX6_isFull wsX6_isFull) := goodIn_app (goodIn_sub (List.forall_mem_cons.mpr ⟨mx_X6_append_3, List.forall_mem_cons.mpr ⟨mx_X6_append_4, List.forall_mem_cons.mpr ⟨mx_X6_append_5, List.forall_mem_cons.mpr ⟨mx_X6_append_6, fun _ h_ => absurd h_ List.not_mem_nil⟩⟩⟩⟩) (by decide +kernel)) ggX6_append_X6_isFull
theorem mx_X6_figuresHere_6 : Cond.code yX6_byteAt cX6_byteAt 2 (some .int) ∈ wsX6_figuresHere := by unfold wsX6_figuresHere; exact List.mem_cons_of_mem _ (List.mem_append_left _ (List.mem_of_getElem? (i := 5) rfl))
theorem mx_X6_figuresHere_7 : Cond.fieldLink RX6 22 "MillTalk$Tape" "size" "I" ∈ wsX6_figuresHere := by unfold wsX6_figuresHere; exact List.mem_cons_of_mem _ (List.mem_append_left _ (List.mem_of_getElem? (i := 6) rfl))
theorem mx_X6_figuresHere_8 : Cond.fieldLink RX6 11 "MillTalk$Tape" "bytes" "[I" ∈ wsX6_figuresHere := by unfold wsX6_figuresHere; exact List.mem_cons_of_mem _ (List.mem_append_left _ (List.mem_of_getElem? (i := 7) rfl))
theorem mb_X6_figuresHere_wsX60 {w : Cond} (h : w ∈ wsX60) : w ∈ wsX6_figuresHere := by unfold wsX6_figuresHere; exact List.mem_cons_of_mem _ (List.mem_append_right _ (h))
theorem ggX6_figuresHere_X6_byteAt : GoodIn wsX6_figuresHere wsX6_byteAt := goodIn_sub (by unfold wsX6_byteAt; exact List.forall_mem_cons.mpr ⟨mx_X6_figuresHere_6, List.forall_mem_append.mpr ⟨List.forall_mem_cons.mpr ⟨mx_X6_figuresHere_7, List.forall_mem_cons.mpr ⟨mx_X6_figuresHere_8, fun _ h_ => absurd h_ List.not_mem_nil⟩⟩, (fun _ h_ => mb_X6_figuresHere_wsX60 h_)⟩⟩) (by decide +kernel)
theorem mx_X6_figuresHere_2 : Cond.methodLink RX6 71 yX6_byteAt ∈ wsX6_figuresHere := by unfold wsX6_figuresHere; exact List.mem_cons_of_mem _ (List.mem_append_left _ (List.mem_of_getElem? (i := 1) rfl))
theorem mx_X6_figuresHere_3 : Cond.instanceMethod yX6_byteAt ∈ wsX6_figuresHere := by unfold wsX6_figuresHere; exact List.mem_cons_of_mem _ (List.mem_append_left _ (List.mem_of_getElem? (i := 2) rfl))
theorem mx_X6_figuresHere_4 : Cond.selects RX6 yX6_byteAt yX6_byteAt ∈ wsX6_figuresHere := by unfold wsX6_figuresHere; exact List.mem_cons_of_mem _ (List.mem_append_left _ (List.mem_of_getElem? (i := 3) rfl))
theorem mx_X6_figuresHere_5 : Cond.initialized RX6 ∈ wsX6_figuresHere := by unfold wsX6_figuresHere; exact List.mem_cons_of_mem _ (List.mem_append_left _ (List.mem_of_getElem? (i := 4) rfl))
theorem gX6_figuresHere_X6_byteAt : GoodIn wsX6_figuresHere (wsV RX6 71 RX6 yX6_byteAt wsX6_byteAt) := goodIn_app (goodIn_sub (List.forall_mem_cons.mpr ⟨mx_X6_figuresHere_2, List.forall_mem_cons.mpr ⟨mx_X6_figuresHere_3, List.forall_mem_cons.mpr ⟨mx_X6_figuresHere_4, List.forall_mem_cons.mpr ⟨mx_X6_figuresHere_5, fun _ h_ => absurd h_ List.not_mem_nil⟩⟩⟩⟩) (by decide +kernel)) ggX6_figuresHere_X6_byteAt
theorem mx_X6_figuresHere_11 : Cond.code yX6_isFigure cX6_isFigure 1 (some .boolean) ∈ wsX6_figuresHere := by unfold wsX6_figuresHere; exact List.mem_cons_of_mem _ (List.mem_append_left _ (List.mem_of_getElem? (i := 10) rfl))
theorem ggX6_figuresHere_X6_isFigure : GoodIn wsX6_figuresHere wsX6_isFigure := goodIn_sub (by unfold wsX6_isFigure; exact List.forall_mem_cons.mpr ⟨mx_X6_figuresHere_11, fun _ h_ => absurd h_ List.not_mem_nil⟩) (by decide +kernel)
set_option maxRecDepth 20000 in
theorem gX6_figuresHere_X6_isFigure : GoodIn wsX6_figuresHere (va_wsS RX6 104 yX6_isFigure wsX6_isFigure) := goodIn_app (goodIn_of _ (by decide +kernel)) ggX6_figuresHere_X6_isFigure
theorem mx_X6_readByte_6 : Cond.code yX6_byteAt cX6_byteAt 2 (some .int) ∈ wsX6_readByte := by unfold wsX6_readByte; exact List.mem_cons_of_mem _ (List.mem_append_left _ (List.mem_of_getElem? (i := 5) rfl))
theorem mx_X6_readByte_7 : Cond.fieldLink RX6 22 "MillTalk$Tape" "size" "I" ∈ wsX6_readByte := by unfold wsX6_readByte; exact List.mem_cons_of_mem _ (List.mem_append_left _ (List.mem_of_getElem? (i := 6) rfl))
theorem mx_X6_readByte_8 : Cond.fieldLink RX6 11 "MillTalk$Tape" "bytes" "[I" ∈ wsX6_readByte := by unfold wsX6_readByte; exact List.mem_cons_of_mem _ (List.mem_append_left _ (List.mem_of_getElem? (i := 7) rfl))
theorem mb_X6_readByte_wsX60 {w : Cond} (h : w ∈ wsX60) : w ∈ wsX6_readByte := by unfold wsX6_readByte; exact List.mem_cons_of_mem _ (List.mem_append_right _ (h))
theorem ggX6_readByte_X6_byteAt : GoodIn wsX6_readByte wsX6_byteAt := goodIn_sub (by unfold wsX6_byteAt; exact List.forall_mem_cons.mpr ⟨mx_X6_readByte_6, List.forall_mem_append.mpr ⟨List.forall_mem_cons.mpr ⟨mx_X6_readByte_7, List.forall_mem_cons.mpr ⟨mx_X6_readByte_8, fun _ h_ => absurd h_ List.not_mem_nil⟩⟩, (fun _ h_ => mb_X6_readByte_wsX60 h_)⟩⟩) (by decide +kernel)
theorem mx_X6_readByte_2 : Cond.methodLink RX6 71 yX6_byteAt ∈ wsX6_readByte := by unfold wsX6_readByte; exact List.mem_cons_of_mem _ (List.mem_append_left _ (List.mem_of_getElem? (i := 1) rfl))
theorem mx_X6_readByte_3 : Cond.instanceMethod yX6_byteAt ∈ wsX6_readByte := by unfold wsX6_readByte; exact List.mem_cons_of_mem _ (List.mem_append_left _ (List.mem_of_getElem? (i := 2) rfl))
theorem mx_X6_readByte_4 : Cond.selects RX6 yX6_byteAt yX6_byteAt ∈ wsX6_readByte := by unfold wsX6_readByte; exact List.mem_cons_of_mem _ (List.mem_append_left _ (List.mem_of_getElem? (i := 3) rfl))
theorem mx_X6_readByte_5 : Cond.initialized RX6 ∈ wsX6_readByte := by unfold wsX6_readByte; exact List.mem_cons_of_mem _ (List.mem_append_left _ (List.mem_of_getElem? (i := 4) rfl))
theorem gX6_readByte_X6_byteAt : GoodIn wsX6_readByte (wsV RX6 71 RX6 yX6_byteAt wsX6_byteAt) := goodIn_app (goodIn_sub (List.forall_mem_cons.mpr ⟨mx_X6_readByte_2, List.forall_mem_cons.mpr ⟨mx_X6_readByte_3, List.forall_mem_cons.mpr ⟨mx_X6_readByte_4, List.forall_mem_cons.mpr ⟨mx_X6_readByte_5, fun _ h_ => absurd h_ List.not_mem_nil⟩⟩⟩⟩) (by decide +kernel)) ggX6_readByte_X6_byteAt
theorem mx_X6_readByte_12 : Cond.code yX6_fail cX6_fail 2 none ∈ wsX6_readByte := by unfold wsX6_readByte; exact List.mem_cons_of_mem _ (List.mem_append_left _ (List.mem_of_getElem? (i := 11) rfl))
theorem mx_X6_readByte_13 : Cond.fieldLink RX6 30 "MillTalk$Tape" "fault" "I" ∈ wsX6_readByte := by unfold wsX6_readByte; exact List.mem_cons_of_mem _ (List.mem_append_left _ (List.mem_of_getElem? (i := 12) rfl))
theorem mx_X6_readByte_1 : Cond.fieldLink RX6 36 "MillTalk$Tape" "place" "I" ∈ wsX6_readByte := by unfold wsX6_readByte; exact List.mem_cons_of_mem _ (List.mem_append_left _ (List.mem_of_getElem? (i := 0) rfl))
theorem mx_X6_readByte_14 : Cond.fieldLink RX6 33 "MillTalk$Tape" "faultPlace" "I" ∈ wsX6_readByte := by unfold wsX6_readByte; exact List.mem_cons_of_mem _ (List.mem_append_left _ (List.mem_of_getElem? (i := 13) rfl))
theorem ggX6_readByte_X6_fail : GoodIn wsX6_readByte wsX6_fail := goodIn_sub (by unfold wsX6_fail; exact List.forall_mem_cons.mpr ⟨mx_X6_readByte_12, List.forall_mem_append.mpr ⟨List.forall_mem_cons.mpr ⟨mx_X6_readByte_13, List.forall_mem_cons.mpr ⟨mx_X6_readByte_1, List.forall_mem_cons.mpr ⟨mx_X6_readByte_14, fun _ h_ => absurd h_ List.not_mem_nil⟩⟩⟩, (fun _ h_ => mb_X6_readByte_wsX60 h_)⟩⟩) (by decide +kernel)
theorem mx_X6_readByte_9 : Cond.methodLink RX6 78 yX6_fail ∈ wsX6_readByte := by unfold wsX6_readByte; exact List.mem_cons_of_mem _ (List.mem_append_left _ (List.mem_of_getElem? (i := 8) rfl))
theorem mx_X6_readByte_10 : Cond.instanceMethod yX6_fail ∈ wsX6_readByte := by unfold wsX6_readByte; exact List.mem_cons_of_mem _ (List.mem_append_left _ (List.mem_of_getElem? (i := 9) rfl))
theorem mx_X6_readByte_11 : Cond.selects RX6 yX6_fail yX6_fail ∈ wsX6_readByte := by unfold wsX6_readByte; exact List.mem_cons_of_mem _ (List.mem_append_left _ (List.mem_of_getElem? (i := 10) rfl))
theorem gX6_readByte_X6_fail : GoodIn wsX6_readByte (wsV RX6 78 RX6 yX6_fail wsX6_fail) := goodIn_app (goodIn_sub (List.forall_mem_cons.mpr ⟨mx_X6_readByte_9, List.forall_mem_cons.mpr ⟨mx_X6_readByte_10, List.forall_mem_cons.mpr ⟨mx_X6_readByte_11, List.forall_mem_cons.mpr ⟨mx_X6_readByte_5, fun _ h_ => absurd h_ List.not_mem_nil⟩⟩⟩⟩) (by decide +kernel)) ggX6_readByte_X6_fail
theorem mb_X6_readLaw_wsX6_readLaw_r1 {w : Cond} (h : w ∈ wsX6_readLaw_r1) : w ∈ wsX6_readLaw := by unfold wsX6_readLaw; exact List.mem_cons_of_mem _ (List.mem_append_left _ (List.mem_append_left _ (List.mem_append_left _ (h))))
theorem mx_X6_readLaw_9 : Cond.code yX6_readByte cX6_readByte 2 none ∈ wsX6_readLaw := mb_X6_readLaw_wsX6_readLaw_r1 (List.mem_of_getElem? (i := 8) rfl)
theorem mx_X6_readLaw_10 : Cond.fieldLink RX6 36 "MillTalk$Tape" "place" "I" ∈ wsX6_readLaw := mb_X6_readLaw_wsX6_readLaw_r1 (List.mem_of_getElem? (i := 9) rfl)
theorem mx_X6_readLaw_11 : Cond.methodLink RX6 71 yX6_byteAt ∈ wsX6_readLaw := mb_X6_readLaw_wsX6_readLaw_r1 (List.mem_of_getElem? (i := 10) rfl)
theorem mx_X6_readLaw_12 : Cond.instanceMethod yX6_byteAt ∈ wsX6_readLaw := mb_X6_readLaw_wsX6_readLaw_r1 (List.mem_of_getElem? (i := 11) rfl)
theorem mx_X6_readLaw_13 : Cond.selects RX6 yX6_byteAt yX6_byteAt ∈ wsX6_readLaw := mb_X6_readLaw_wsX6_readLaw_r1 (List.mem_of_getElem? (i := 12) rfl)
theorem mx_X6_readLaw_8 : Cond.initialized RX6 ∈ wsX6_readLaw := mb_X6_readLaw_wsX6_readLaw_r1 (List.mem_of_getElem? (i := 7) rfl)
theorem mx_X6_readLaw_14 : Cond.code yX6_byteAt cX6_byteAt 2 (some .int) ∈ wsX6_readLaw := mb_X6_readLaw_wsX6_readLaw_r1 (List.mem_of_getElem? (i := 13) rfl)
theorem mx_X6_readLaw_15 : Cond.fieldLink RX6 22 "MillTalk$Tape" "size" "I" ∈ wsX6_readLaw := mb_X6_readLaw_wsX6_readLaw_r1 (List.mem_of_getElem? (i := 14) rfl)
theorem mx_X6_readLaw_16 : Cond.fieldLink RX6 11 "MillTalk$Tape" "bytes" "[I" ∈ wsX6_readLaw := mb_X6_readLaw_wsX6_readLaw_r1 (List.mem_of_getElem? (i := 15) rfl)
theorem mx_X6_readLaw_17 : Cond.methodLink RX6 78 yX6_fail ∈ wsX6_readLaw := mb_X6_readLaw_wsX6_readLaw_r1 (List.mem_of_getElem? (i := 16) rfl)
theorem mx_X6_readLaw_18 : Cond.instanceMethod yX6_fail ∈ wsX6_readLaw := mb_X6_readLaw_wsX6_readLaw_r1 (List.mem_of_getElem? (i := 17) rfl)
theorem mx_X6_readLaw_19 : Cond.selects RX6 yX6_fail yX6_fail ∈ wsX6_readLaw := mb_X6_readLaw_wsX6_readLaw_r1 (List.mem_of_getElem? (i := 18) rfl)
theorem mx_X6_readLaw_20 : Cond.code yX6_fail cX6_fail 2 none ∈ wsX6_readLaw := mb_X6_readLaw_wsX6_readLaw_r1 (List.mem_of_getElem? (i := 19) rfl)
theorem mx_X6_readLaw_21 : Cond.fieldLink RX6 30 "MillTalk$Tape" "fault" "I" ∈ wsX6_readLaw := mb_X6_readLaw_wsX6_readLaw_r1 (List.mem_of_getElem? (i := 20) rfl)
theorem mx_X6_readLaw_22 : Cond.fieldLink RX6 33 "MillTalk$Tape" "faultPlace" "I" ∈ wsX6_readLaw := mb_X6_readLaw_wsX6_readLaw_r1 (List.mem_of_getElem? (i := 21) rfl)
theorem mb_X6_readLaw_wsX60 {w : Cond} (h : w ∈ wsX60) : w ∈ wsX6_readLaw := by unfold wsX6_readLaw; exact List.mem_cons_of_mem _ (List.mem_append_left _ (List.mem_append_right _ (h)))
theorem ggX6_readLaw_X6_readByte : GoodIn wsX6_readLaw wsX6_readByte := goodIn_sub (by unfold wsX6_readByte; exact List.forall_mem_cons.mpr ⟨mx_X6_readLaw_9, List.forall_mem_append.mpr ⟨List.forall_mem_cons.mpr ⟨mx_X6_readLaw_10, List.forall_mem_cons.mpr ⟨mx_X6_readLaw_11, List.forall_mem_cons.mpr ⟨mx_X6_readLaw_12, List.forall_mem_cons.mpr ⟨mx_X6_readLaw_13, List.forall_mem_cons.mpr ⟨mx_X6_readLaw_8, List.forall_mem_cons.mpr ⟨mx_X6_readLaw_14, List.forall_mem_cons.mpr ⟨mx_X6_readLaw_15, List.forall_mem_cons.mpr ⟨mx_X6_readLaw_16, List.forall_mem_cons.mpr ⟨mx_X6_readLaw_17, List.forall_mem_cons.mpr ⟨mx_X6_readLaw_18, List.forall_mem_cons.mpr ⟨mx_X6_readLaw_19, List.forall_mem_cons.mpr ⟨mx_X6_readLaw_20, List.forall_mem_cons.mpr ⟨mx_X6_readLaw_21, List.forall_mem_cons.mpr ⟨mx_X6_readLaw_22, fun _ h_ => absurd h_ List.not_mem_nil⟩⟩⟩⟩⟩⟩⟩⟩⟩⟩⟩⟩⟩⟩, (fun _ h_ => mb_X6_readLaw_wsX60 h_)⟩⟩) (by decide +kernel)
theorem mx_X6_readLaw_5 : Cond.methodLink RX6 51 yX6_readByte ∈ wsX6_readLaw := mb_X6_readLaw_wsX6_readLaw_r1 (List.mem_of_getElem? (i := 4) rfl)
theorem mx_X6_readLaw_6 : Cond.instanceMethod yX6_readByte ∈ wsX6_readLaw := mb_X6_readLaw_wsX6_readLaw_r1 (List.mem_of_getElem? (i := 5) rfl)
theorem mx_X6_readLaw_7 : Cond.selects RX6 yX6_readByte yX6_readByte ∈ wsX6_readLaw := mb_X6_readLaw_wsX6_readLaw_r1 (List.mem_of_getElem? (i := 6) rfl)
theorem gX6_readLaw_X6_readByte : GoodIn wsX6_readLaw (wsV RX6 51 RX6 yX6_readByte wsX6_readByte) := goodIn_app (goodIn_sub (List.forall_mem_cons.mpr ⟨mx_X6_readLaw_5, List.forall_mem_cons.mpr ⟨mx_X6_readLaw_6, List.forall_mem_cons.mpr ⟨mx_X6_readLaw_7, List.forall_mem_cons.mpr ⟨mx_X6_readLaw_8, fun _ h_ => absurd h_ List.not_mem_nil⟩⟩⟩⟩) (by decide +kernel)) ggX6_readLaw_X6_readByte
theorem mb_X6_readLaw_wsX6_readLaw_r2 {w : Cond} (h : w ∈ wsX6_readLaw_r2) : w ∈ wsX6_readLaw := by unfold wsX6_readLaw; exact List.mem_cons_of_mem _ (List.mem_append_left _ (List.mem_append_left _ (List.mem_append_right _ (h))))
theorem mx_X6_readLaw_26 : Cond.code yX6_readNumber cX6_readNumber 6 (some .int) ∈ wsX6_readLaw := mb_X6_readLaw_wsX6_readLaw_r2 (List.mem_of_getElem? (i := 1) rfl)
theorem mx_X6_readLaw_27 : Cond.methodLink RX6 100 yX6_figuresHere ∈ wsX6_readLaw := mb_X6_readLaw_wsX6_readLaw_r2 (List.mem_of_getElem? (i := 2) rfl)
theorem mx_X6_readLaw_28 : Cond.instanceMethod yX6_figuresHere ∈ wsX6_readLaw := mb_X6_readLaw_wsX6_readLaw_r2 (List.mem_of_getElem? (i := 3) rfl)
theorem mx_X6_readLaw_29 : Cond.selects RX6 yX6_figuresHere yX6_figuresHere ∈ wsX6_readLaw := mb_X6_readLaw_wsX6_readLaw_r2 (List.mem_of_getElem? (i := 4) rfl)
theorem mx_X6_readLaw_30 : Cond.code yX6_figuresHere cX6_figuresHere 2 (some .int) ∈ wsX6_readLaw := mb_X6_readLaw_wsX6_readLaw_r2 (List.mem_of_getElem? (i := 5) rfl)
theorem mx_X6_readLaw_31 : Cond.methodLink RX6 104 yX6_isFigure ∈ wsX6_readLaw := mb_X6_readLaw_wsX6_readLaw_r2 (List.mem_of_getElem? (i := 6) rfl)
theorem mx_X6_readLaw_32 : Cond.static yX6_isFigure ∈ wsX6_readLaw := mb_X6_readLaw_wsX6_readLaw_r2 (List.mem_of_getElem? (i := 7) rfl)
theorem mx_X6_readLaw_33 : Cond.code yX6_isFigure cX6_isFigure 1 (some .boolean) ∈ wsX6_readLaw := mb_X6_readLaw_wsX6_readLaw_r2 (List.mem_of_getElem? (i := 8) rfl)
theorem ggX6_readLaw_X6_readNumber : GoodIn wsX6_readLaw wsX6_readNumber := goodIn_sub (by unfold wsX6_readNumber; exact List.forall_mem_cons.mpr ⟨mx_X6_readLaw_26, List.forall_mem_append.mpr ⟨List.forall_mem_cons.mpr ⟨mx_X6_readLaw_10, List.forall_mem_cons.mpr ⟨mx_X6_readLaw_27, List.forall_mem_cons.mpr ⟨mx_X6_readLaw_28, List.forall_mem_cons.mpr ⟨mx_X6_readLaw_29, List.forall_mem_cons.mpr ⟨mx_X6_readLaw_8, List.forall_mem_cons.mpr ⟨mx_X6_readLaw_30, List.forall_mem_cons.mpr ⟨mx_X6_readLaw_11, List.forall_mem_cons.mpr ⟨mx_X6_readLaw_12, List.forall_mem_cons.mpr ⟨mx_X6_readLaw_13, List.forall_mem_cons.mpr ⟨mx_X6_readLaw_14, List.forall_mem_cons.mpr ⟨mx_X6_readLaw_15, List.forall_mem_cons.mpr ⟨mx_X6_readLaw_16, List.forall_mem_cons.mpr ⟨mx_X6_readLaw_31, List.forall_mem_cons.mpr ⟨mx_X6_readLaw_32, List.forall_mem_cons.mpr ⟨mx_X6_readLaw_33, List.forall_mem_cons.mpr ⟨mx_X6_readLaw_17, List.forall_mem_cons.mpr ⟨mx_X6_readLaw_18, List.forall_mem_cons.mpr ⟨mx_X6_readLaw_19, List.forall_mem_cons.mpr ⟨mx_X6_readLaw_20, List.forall_mem_cons.mpr ⟨mx_X6_readLaw_21, List.forall_mem_cons.mpr ⟨mx_X6_readLaw_22, fun _ h_ => absurd h_ List.not_mem_nil⟩⟩⟩⟩⟩⟩⟩⟩⟩⟩⟩⟩⟩⟩⟩⟩⟩⟩⟩⟩⟩, (fun _ h_ => mb_X6_readLaw_wsX60 h_)⟩⟩) (by decide +kernel)
theorem mx_X6_readLaw_23 : Cond.methodLink RX6 55 yX6_readNumber ∈ wsX6_readLaw := mb_X6_readLaw_wsX6_readLaw_r1 (List.mem_of_getElem? (i := 22) rfl)
theorem mx_X6_readLaw_24 : Cond.instanceMethod yX6_readNumber ∈ wsX6_readLaw := mb_X6_readLaw_wsX6_readLaw_r1 (List.mem_of_getElem? (i := 23) rfl)
theorem mx_X6_readLaw_25 : Cond.selects RX6 yX6_readNumber yX6_readNumber ∈ wsX6_readLaw := mb_X6_readLaw_wsX6_readLaw_r2 (List.mem_of_getElem? (i := 0) rfl)
theorem gX6_readLaw_X6_readNumber : GoodIn wsX6_readLaw (wsV RX6 55 RX6 yX6_readNumber wsX6_readNumber) := goodIn_app (goodIn_sub (List.forall_mem_cons.mpr ⟨mx_X6_readLaw_23, List.forall_mem_cons.mpr ⟨mx_X6_readLaw_24, List.forall_mem_cons.mpr ⟨mx_X6_readLaw_25, List.forall_mem_cons.mpr ⟨mx_X6_readLaw_8, fun _ h_ => absurd h_ List.not_mem_nil⟩⟩⟩⟩) (by decide +kernel)) ggX6_readLaw_X6_readNumber
theorem mx_X6_readNumber_10 : Cond.code yX6_byteAt cX6_byteAt 2 (some .int) ∈ wsX6_readNumber := by unfold wsX6_readNumber; exact List.mem_cons_of_mem _ (List.mem_append_left _ (List.mem_of_getElem? (i := 9) rfl))
theorem mx_X6_readNumber_11 : Cond.fieldLink RX6 22 "MillTalk$Tape" "size" "I" ∈ wsX6_readNumber := by unfold wsX6_readNumber; exact List.mem_cons_of_mem _ (List.mem_append_left _ (List.mem_of_getElem? (i := 10) rfl))
theorem mx_X6_readNumber_12 : Cond.fieldLink RX6 11 "MillTalk$Tape" "bytes" "[I" ∈ wsX6_readNumber := by unfold wsX6_readNumber; exact List.mem_cons_of_mem _ (List.mem_append_left _ (List.mem_of_getElem? (i := 11) rfl))
theorem mb_X6_readNumber_wsX60 {w : Cond} (h : w ∈ wsX60) : w ∈ wsX6_readNumber := by unfold wsX6_readNumber; exact List.mem_cons_of_mem _ (List.mem_append_right _ (h))
theorem ggX6_readNumber_X6_byteAt : GoodIn wsX6_readNumber wsX6_byteAt := goodIn_sub (by unfold wsX6_byteAt; exact List.forall_mem_cons.mpr ⟨mx_X6_readNumber_10, List.forall_mem_append.mpr ⟨List.forall_mem_cons.mpr ⟨mx_X6_readNumber_11, List.forall_mem_cons.mpr ⟨mx_X6_readNumber_12, fun _ h_ => absurd h_ List.not_mem_nil⟩⟩, (fun _ h_ => mb_X6_readNumber_wsX60 h_)⟩⟩) (by decide +kernel)
theorem mx_X6_readNumber_7 : Cond.methodLink RX6 71 yX6_byteAt ∈ wsX6_readNumber := by unfold wsX6_readNumber; exact List.mem_cons_of_mem _ (List.mem_append_left _ (List.mem_of_getElem? (i := 6) rfl))
theorem mx_X6_readNumber_8 : Cond.instanceMethod yX6_byteAt ∈ wsX6_readNumber := by unfold wsX6_readNumber; exact List.mem_cons_of_mem _ (List.mem_append_left _ (List.mem_of_getElem? (i := 7) rfl))
theorem mx_X6_readNumber_9 : Cond.selects RX6 yX6_byteAt yX6_byteAt ∈ wsX6_readNumber := by unfold wsX6_readNumber; exact List.mem_cons_of_mem _ (List.mem_append_left _ (List.mem_of_getElem? (i := 8) rfl))
theorem mx_X6_readNumber_5 : Cond.initialized RX6 ∈ wsX6_readNumber := by unfold wsX6_readNumber; exact List.mem_cons_of_mem _ (List.mem_append_left _ (List.mem_of_getElem? (i := 4) rfl))
theorem gX6_readNumber_X6_byteAt : GoodIn wsX6_readNumber (wsV RX6 71 RX6 yX6_byteAt wsX6_byteAt) := goodIn_app (goodIn_sub (List.forall_mem_cons.mpr ⟨mx_X6_readNumber_7, List.forall_mem_cons.mpr ⟨mx_X6_readNumber_8, List.forall_mem_cons.mpr ⟨mx_X6_readNumber_9, List.forall_mem_cons.mpr ⟨mx_X6_readNumber_5, fun _ h_ => absurd h_ List.not_mem_nil⟩⟩⟩⟩) (by decide +kernel)) ggX6_readNumber_X6_byteAt
theorem mx_X6_readNumber_19 : Cond.code yX6_fail cX6_fail 2 none ∈ wsX6_readNumber := by unfold wsX6_readNumber; exact List.mem_cons_of_mem _ (List.mem_append_left _ (List.mem_of_getElem? (i := 18) rfl))
theorem mx_X6_readNumber_20 : Cond.fieldLink RX6 30 "MillTalk$Tape" "fault" "I" ∈ wsX6_readNumber := by unfold wsX6_readNumber; exact List.mem_cons_of_mem _ (List.mem_append_left _ (List.mem_of_getElem? (i := 19) rfl))
theorem mx_X6_readNumber_1 : Cond.fieldLink RX6 36 "MillTalk$Tape" "place" "I" ∈ wsX6_readNumber := by unfold wsX6_readNumber; exact List.mem_cons_of_mem _ (List.mem_append_left _ (List.mem_of_getElem? (i := 0) rfl))
theorem mx_X6_readNumber_21 : Cond.fieldLink RX6 33 "MillTalk$Tape" "faultPlace" "I" ∈ wsX6_readNumber := by unfold wsX6_readNumber; exact List.mem_cons_of_mem _ (List.mem_append_left _ (List.mem_of_getElem? (i := 20) rfl))
theorem ggX6_readNumber_X6_fail : GoodIn wsX6_readNumber wsX6_fail := goodIn_sub (by unfold wsX6_fail; exact List.forall_mem_cons.mpr ⟨mx_X6_readNumber_19, List.forall_mem_append.mpr ⟨List.forall_mem_cons.mpr ⟨mx_X6_readNumber_20, List.forall_mem_cons.mpr ⟨mx_X6_readNumber_1, List.forall_mem_cons.mpr ⟨mx_X6_readNumber_21, fun _ h_ => absurd h_ List.not_mem_nil⟩⟩⟩, (fun _ h_ => mb_X6_readNumber_wsX60 h_)⟩⟩) (by decide +kernel)
theorem mx_X6_readNumber_16 : Cond.methodLink RX6 78 yX6_fail ∈ wsX6_readNumber := by unfold wsX6_readNumber; exact List.mem_cons_of_mem _ (List.mem_append_left _ (List.mem_of_getElem? (i := 15) rfl))
theorem mx_X6_readNumber_17 : Cond.instanceMethod yX6_fail ∈ wsX6_readNumber := by unfold wsX6_readNumber; exact List.mem_cons_of_mem _ (List.mem_append_left _ (List.mem_of_getElem? (i := 16) rfl))
theorem mx_X6_readNumber_18 : Cond.selects RX6 yX6_fail yX6_fail ∈ wsX6_readNumber := by unfold wsX6_readNumber; exact List.mem_cons_of_mem _ (List.mem_append_left _ (List.mem_of_getElem? (i := 17) rfl))
theorem gX6_readNumber_X6_fail : GoodIn wsX6_readNumber (wsV RX6 78 RX6 yX6_fail wsX6_fail) := goodIn_app (goodIn_sub (List.forall_mem_cons.mpr ⟨mx_X6_readNumber_16, List.forall_mem_cons.mpr ⟨mx_X6_readNumber_17, List.forall_mem_cons.mpr ⟨mx_X6_readNumber_18, List.forall_mem_cons.mpr ⟨mx_X6_readNumber_5, fun _ h_ => absurd h_ List.not_mem_nil⟩⟩⟩⟩) (by decide +kernel)) ggX6_readNumber_X6_fail
theorem mx_X6_readNumber_6 : Cond.code yX6_figuresHere cX6_figuresHere 2 (some .int) ∈ wsX6_readNumber := by unfold wsX6_readNumber; exact List.mem_cons_of_mem _ (List.mem_append_left _ (List.mem_of_getElem? (i := 5) rfl))
theorem mx_X6_readNumber_13 : Cond.methodLink RX6 104 yX6_isFigure ∈ wsX6_readNumber := by unfold wsX6_readNumber; exact List.mem_cons_of_mem _ (List.mem_append_left _ (List.mem_of_getElem? (i := 12) rfl))
theorem mx_X6_readNumber_14 : Cond.static yX6_isFigure ∈ wsX6_readNumber := by unfold wsX6_readNumber; exact List.mem_cons_of_mem _ (List.mem_append_left _ (List.mem_of_getElem? (i := 13) rfl))
theorem mx_X6_readNumber_15 : Cond.code yX6_isFigure cX6_isFigure 1 (some .boolean) ∈ wsX6_readNumber := by unfold wsX6_readNumber; exact List.mem_cons_of_mem _ (List.mem_append_left _ (List.mem_of_getElem? (i := 14) rfl))
theorem ggX6_readNumber_X6_figuresHere : GoodIn wsX6_readNumber wsX6_figuresHere := goodIn_sub (by unfold wsX6_figuresHere; exact List.forall_mem_cons.mpr ⟨mx_X6_readNumber_6, List.forall_mem_append.mpr ⟨List.forall_mem_cons.mpr ⟨mx_X6_readNumber_1, List.forall_mem_cons.mpr ⟨mx_X6_readNumber_7, List.forall_mem_cons.mpr ⟨mx_X6_readNumber_8, List.forall_mem_cons.mpr ⟨mx_X6_readNumber_9, List.forall_mem_cons.mpr ⟨mx_X6_readNumber_5, List.forall_mem_cons.mpr ⟨mx_X6_readNumber_10, List.forall_mem_cons.mpr ⟨mx_X6_readNumber_11, List.forall_mem_cons.mpr ⟨mx_X6_readNumber_12, List.forall_mem_cons.mpr ⟨mx_X6_readNumber_13, List.forall_mem_cons.mpr ⟨mx_X6_readNumber_14, List.forall_mem_cons.mpr ⟨mx_X6_readNumber_15, fun _ h_ => absurd h_ List.not_mem_nil⟩⟩⟩⟩⟩⟩⟩⟩⟩⟩⟩, (fun _ h_ => mb_X6_readNumber_wsX60 h_)⟩⟩) (by decide +kernel)
theorem mx_X6_readNumber_2 : Cond.methodLink RX6 100 yX6_figuresHere ∈ wsX6_readNumber := by unfold wsX6_readNumber; exact List.mem_cons_of_mem _ (List.mem_append_left _ (List.mem_of_getElem? (i := 1) rfl))
theorem mx_X6_readNumber_3 : Cond.instanceMethod yX6_figuresHere ∈ wsX6_readNumber := by unfold wsX6_readNumber; exact List.mem_cons_of_mem _ (List.mem_append_left _ (List.mem_of_getElem? (i := 2) rfl))
theorem mx_X6_readNumber_4 : Cond.selects RX6 yX6_figuresHere yX6_figuresHere ∈ wsX6_readNumber := by unfold wsX6_readNumber; exact List.mem_cons_of_mem _ (List.mem_append_left _ (List.mem_of_getElem? (i := 3) rfl))
theorem gX6_readNumber_X6_figuresHere : GoodIn wsX6_readNumber (wsV RX6 100 RX6 yX6_figuresHere wsX6_figuresHere) := goodIn_app (goodIn_sub (List.forall_mem_cons.mpr ⟨mx_X6_readNumber_2, List.forall_mem_cons.mpr ⟨mx_X6_readNumber_3, List.forall_mem_cons.mpr ⟨mx_X6_readNumber_4, List.forall_mem_cons.mpr ⟨mx_X6_readNumber_5, fun _ h_ => absurd h_ List.not_mem_nil⟩⟩⟩⟩) (by decide +kernel)) ggX6_readNumber_X6_figuresHere
theorem mb_X6_readSound_wsX6_readSound_r2 {w : Cond} (h : w ∈ wsX6_readSound_r2) : w ∈ wsX6_readSound := by unfold wsX6_readSound; exact List.mem_cons_of_mem _ (List.mem_append_left _ (List.mem_append_left _ (List.mem_append_right _ (h))))
theorem mx_X6_readSound_41 : Cond.code yX3_letLoose cX3_letLoose 4 none ∈ wsX6_readSound := mb_X6_readSound_wsX6_readSound_r2 (List.mem_of_getElem? (i := 16) rfl)
theorem mx_X6_readSound_42 : Cond.fieldLink RX3 18 "MillTalk$Level" "places" "[I" ∈ wsX6_readSound := mb_X6_readSound_wsX6_readSound_r2 (List.mem_of_getElem? (i := 17) rfl)
theorem mx_X6_readSound_43 : Cond.fieldLink RX3 21 "MillTalk$Level" "louds" "[I" ∈ wsX6_readSound := mb_X6_readSound_wsX6_readSound_r2 (List.mem_of_getElem? (i := 18) rfl)
theorem mx_X6_readSound_44 : Cond.fieldLink RX3 24 "MillTalk$Level" "hows" "[I" ∈ wsX6_readSound := mb_X6_readSound_wsX6_readSound_r2 (List.mem_of_getElem? (i := 19) rfl)
theorem mb_X6_readSound_wsX30 {w : Cond} (h : w ∈ wsX30) : w ∈ wsX6_readSound := by unfold wsX6_readSound; exact List.mem_cons_of_mem _ (List.mem_append_right _ (h))
theorem ggX6_readSound_X3_letLoose : GoodIn wsX6_readSound wsX3_letLoose := goodIn_sub (by unfold wsX3_letLoose; exact List.forall_mem_cons.mpr ⟨mx_X6_readSound_41, List.forall_mem_append.mpr ⟨List.forall_mem_cons.mpr ⟨mx_X6_readSound_42, List.forall_mem_cons.mpr ⟨mx_X6_readSound_43, List.forall_mem_cons.mpr ⟨mx_X6_readSound_44, fun _ h_ => absurd h_ List.not_mem_nil⟩⟩⟩, (fun _ h_ => mb_X6_readSound_wsX30 h_)⟩⟩) (by decide +kernel)
theorem mx_X6_readSound_37 : Cond.methodLink RX6 96 yX3_letLoose ∈ wsX6_readSound := mb_X6_readSound_wsX6_readSound_r2 (List.mem_of_getElem? (i := 12) rfl)
theorem mx_X6_readSound_38 : Cond.instanceMethod yX3_letLoose ∈ wsX6_readSound := mb_X6_readSound_wsX6_readSound_r2 (List.mem_of_getElem? (i := 13) rfl)
theorem mx_X6_readSound_39 : Cond.selects RX3 yX3_letLoose yX3_letLoose ∈ wsX6_readSound := mb_X6_readSound_wsX6_readSound_r2 (List.mem_of_getElem? (i := 14) rfl)
theorem mx_X6_readSound_40 : Cond.initialized RX3 ∈ wsX6_readSound := mb_X6_readSound_wsX6_readSound_r2 (List.mem_of_getElem? (i := 15) rfl)
theorem gX6_readSound_X3_letLoose : GoodIn wsX6_readSound (wsV RX6 96 RX3 yX3_letLoose wsX3_letLoose) := goodIn_app (goodIn_sub (List.forall_mem_cons.mpr ⟨mx_X6_readSound_37, List.forall_mem_cons.mpr ⟨mx_X6_readSound_38, List.forall_mem_cons.mpr ⟨mx_X6_readSound_39, List.forall_mem_cons.mpr ⟨mx_X6_readSound_40, fun _ h_ => absurd h_ List.not_mem_nil⟩⟩⟩⟩) (by decide +kernel)) ggX6_readSound_X3_letLoose
theorem mb_X6_readSound_wsX6_readSound_r1 {w : Cond} (h : w ∈ wsX6_readSound_r1) : w ∈ wsX6_readSound := by unfold wsX6_readSound; exact List.mem_cons_of_mem _ (List.mem_append_left _ (List.mem_append_left _ (List.mem_append_left _ (h))))
theorem mx_X6_readSound_11 : Cond.code yX6_byteAt cX6_byteAt 2 (some .int) ∈ wsX6_readSound := mb_X6_readSound_wsX6_readSound_r1 (List.mem_of_getElem? (i := 10) rfl)
theorem mx_X6_readSound_12 : Cond.fieldLink RX6 22 "MillTalk$Tape" "size" "I" ∈ wsX6_readSound := mb_X6_readSound_wsX6_readSound_r1 (List.mem_of_getElem? (i := 11) rfl)
theorem mx_X6_readSound_13 : Cond.fieldLink RX6 11 "MillTalk$Tape" "bytes" "[I" ∈ wsX6_readSound := mb_X6_readSound_wsX6_readSound_r1 (List.mem_of_getElem? (i := 12) rfl)
theorem mb_X6_readSound_wsX60 {w : Cond} (h : w ∈ wsX60) : w ∈ wsX6_readSound := by unfold wsX6_readSound; exact List.mem_cons_of_mem _ (List.mem_append_left _ (List.mem_append_right _ (h)))
theorem ggX6_readSound_X6_byteAt : GoodIn wsX6_readSound wsX6_byteAt := goodIn_sub (by unfold wsX6_byteAt; exact List.forall_mem_cons.mpr ⟨mx_X6_readSound_11, List.forall_mem_append.mpr ⟨List.forall_mem_cons.mpr ⟨mx_X6_readSound_12, List.forall_mem_cons.mpr ⟨mx_X6_readSound_13, fun _ h_ => absurd h_ List.not_mem_nil⟩⟩, (fun _ h_ => mb_X6_readSound_wsX60 h_)⟩⟩) (by decide +kernel)
theorem mx_X6_readSound_7 : Cond.methodLink RX6 71 yX6_byteAt ∈ wsX6_readSound := mb_X6_readSound_wsX6_readSound_r1 (List.mem_of_getElem? (i := 6) rfl)
theorem mx_X6_readSound_8 : Cond.instanceMethod yX6_byteAt ∈ wsX6_readSound := mb_X6_readSound_wsX6_readSound_r1 (List.mem_of_getElem? (i := 7) rfl)
theorem mx_X6_readSound_9 : Cond.selects RX6 yX6_byteAt yX6_byteAt ∈ wsX6_readSound := mb_X6_readSound_wsX6_readSound_r1 (List.mem_of_getElem? (i := 8) rfl)
theorem mx_X6_readSound_10 : Cond.initialized RX6 ∈ wsX6_readSound := mb_X6_readSound_wsX6_readSound_r1 (List.mem_of_getElem? (i := 9) rfl)
theorem gX6_readSound_X6_byteAt : GoodIn wsX6_readSound (wsV RX6 71 RX6 yX6_byteAt wsX6_byteAt) := goodIn_app (goodIn_sub (List.forall_mem_cons.mpr ⟨mx_X6_readSound_7, List.forall_mem_cons.mpr ⟨mx_X6_readSound_8, List.forall_mem_cons.mpr ⟨mx_X6_readSound_9, List.forall_mem_cons.mpr ⟨mx_X6_readSound_10, fun _ h_ => absurd h_ List.not_mem_nil⟩⟩⟩⟩) (by decide +kernel)) ggX6_readSound_X6_byteAt
theorem mx_X6_readSound_20 : Cond.code yX6_fail cX6_fail 2 none ∈ wsX6_readSound := mb_X6_readSound_wsX6_readSound_r1 (List.mem_of_getElem? (i := 19) rfl)
theorem mx_X6_readSound_5 : Cond.fieldLink RX6 30 "MillTalk$Tape" "fault" "I" ∈ wsX6_readSound := mb_X6_readSound_wsX6_readSound_r1 (List.mem_of_getElem? (i := 4) rfl)
theorem mx_X6_readSound_1 : Cond.fieldLink RX6 36 "MillTalk$Tape" "place" "I" ∈ wsX6_readSound := mb_X6_readSound_wsX6_readSound_r1 (List.mem_of_getElem? (i := 0) rfl)
theorem mx_X6_readSound_21 : Cond.fieldLink RX6 33 "MillTalk$Tape" "faultPlace" "I" ∈ wsX6_readSound := mb_X6_readSound_wsX6_readSound_r1 (List.mem_of_getElem? (i := 20) rfl)
theorem ggX6_readSound_X6_fail : GoodIn wsX6_readSound wsX6_fail := goodIn_sub (by unfold wsX6_fail; exact List.forall_mem_cons.mpr ⟨mx_X6_readSound_20, List.forall_mem_append.mpr ⟨List.forall_mem_cons.mpr ⟨mx_X6_readSound_5, List.forall_mem_cons.mpr ⟨mx_X6_readSound_1, List.forall_mem_cons.mpr ⟨mx_X6_readSound_21, fun _ h_ => absurd h_ List.not_mem_nil⟩⟩⟩, (fun _ h_ => mb_X6_readSound_wsX60 h_)⟩⟩) (by decide +kernel)
theorem mx_X6_readSound_17 : Cond.methodLink RX6 78 yX6_fail ∈ wsX6_readSound := mb_X6_readSound_wsX6_readSound_r1 (List.mem_of_getElem? (i := 16) rfl)
theorem mx_X6_readSound_18 : Cond.instanceMethod yX6_fail ∈ wsX6_readSound := mb_X6_readSound_wsX6_readSound_r1 (List.mem_of_getElem? (i := 17) rfl)
theorem mx_X6_readSound_19 : Cond.selects RX6 yX6_fail yX6_fail ∈ wsX6_readSound := mb_X6_readSound_wsX6_readSound_r1 (List.mem_of_getElem? (i := 18) rfl)
theorem gX6_readSound_X6_fail : GoodIn wsX6_readSound (wsV RX6 78 RX6 yX6_fail wsX6_fail) := goodIn_app (goodIn_sub (List.forall_mem_cons.mpr ⟨mx_X6_readSound_17, List.forall_mem_cons.mpr ⟨mx_X6_readSound_18, List.forall_mem_cons.mpr ⟨mx_X6_readSound_19, List.forall_mem_cons.mpr ⟨mx_X6_readSound_10, fun _ h_ => absurd h_ List.not_mem_nil⟩⟩⟩⟩) (by decide +kernel)) ggX6_readSound_X6_fail
theorem mx_X6_readSound_16 : Cond.code yX6_kindOf cX6_kindOf 1 (some .int) ∈ wsX6_readSound := mb_X6_readSound_wsX6_readSound_r1 (List.mem_of_getElem? (i := 15) rfl)
theorem ggX6_readSound_X6_kindOf : GoodIn wsX6_readSound wsX6_kindOf := goodIn_sub (by unfold wsX6_kindOf; exact List.forall_mem_cons.mpr ⟨mx_X6_readSound_16, fun _ h_ => absurd h_ List.not_mem_nil⟩) (by decide +kernel)
set_option maxRecDepth 20000 in
theorem gX6_readSound_X6_kindOf : GoodIn wsX6_readSound (va_wsS RX6 87 yX6_kindOf wsX6_kindOf) := goodIn_app (goodIn_of _ (by decide +kernel)) ggX6_readSound_X6_kindOf
theorem mx_X6_readSound_36 : Cond.code yX6_readByte cX6_readByte 2 none ∈ wsX6_readSound := mb_X6_readSound_wsX6_readSound_r2 (List.mem_of_getElem? (i := 11) rfl)
theorem ggX6_readSound_X6_readByte : GoodIn wsX6_readSound wsX6_readByte := goodIn_sub (by unfold wsX6_readByte; exact List.forall_mem_cons.mpr ⟨mx_X6_readSound_36, List.forall_mem_append.mpr ⟨List.forall_mem_cons.mpr ⟨mx_X6_readSound_1, List.forall_mem_cons.mpr ⟨mx_X6_readSound_7, List.forall_mem_cons.mpr ⟨mx_X6_readSound_8, List.forall_mem_cons.mpr ⟨mx_X6_readSound_9, List.forall_mem_cons.mpr ⟨mx_X6_readSound_10, List.forall_mem_cons.mpr ⟨mx_X6_readSound_11, List.forall_mem_cons.mpr ⟨mx_X6_readSound_12, List.forall_mem_cons.mpr ⟨mx_X6_readSound_13, List.forall_mem_cons.mpr ⟨mx_X6_readSound_17, List.forall_mem_cons.mpr ⟨mx_X6_readSound_18, List.forall_mem_cons.mpr ⟨mx_X6_readSound_19, List.forall_mem_cons.mpr ⟨mx_X6_readSound_20, List.forall_mem_cons.mpr ⟨mx_X6_readSound_5, List.forall_mem_cons.mpr ⟨mx_X6_readSound_21, fun _ h_ => absurd h_ List.not_mem_nil⟩⟩⟩⟩⟩⟩⟩⟩⟩⟩⟩⟩⟩⟩, (fun _ h_ => mb_X6_readSound_wsX60 h_)⟩⟩) (by decide +kernel)
theorem mx_X6_readSound_33 : Cond.methodLink RX6 51 yX6_readByte ∈ wsX6_readSound := mb_X6_readSound_wsX6_readSound_r2 (List.mem_of_getElem? (i := 8) rfl)
theorem mx_X6_readSound_34 : Cond.instanceMethod yX6_readByte ∈ wsX6_readSound := mb_X6_readSound_wsX6_readSound_r2 (List.mem_of_getElem? (i := 9) rfl)
theorem mx_X6_readSound_35 : Cond.selects RX6 yX6_readByte yX6_readByte ∈ wsX6_readSound := mb_X6_readSound_wsX6_readSound_r2 (List.mem_of_getElem? (i := 10) rfl)
theorem gX6_readSound_X6_readByte : GoodIn wsX6_readSound (wsV RX6 51 RX6 yX6_readByte wsX6_readByte) := goodIn_app (goodIn_sub (List.forall_mem_cons.mpr ⟨mx_X6_readSound_33, List.forall_mem_cons.mpr ⟨mx_X6_readSound_34, List.forall_mem_cons.mpr ⟨mx_X6_readSound_35, List.forall_mem_cons.mpr ⟨mx_X6_readSound_10, fun _ h_ => absurd h_ List.not_mem_nil⟩⟩⟩⟩) (by decide +kernel)) ggX6_readSound_X6_readByte
theorem mx_X6_readSound_25 : Cond.code yX6_readNumber cX6_readNumber 6 (some .int) ∈ wsX6_readSound := mb_X6_readSound_wsX6_readSound_r2 (List.mem_of_getElem? (i := 0) rfl)
theorem mx_X6_readSound_26 : Cond.methodLink RX6 100 yX6_figuresHere ∈ wsX6_readSound := mb_X6_readSound_wsX6_readSound_r2 (List.mem_of_getElem? (i := 1) rfl)
theorem mx_X6_readSound_27 : Cond.instanceMethod yX6_figuresHere ∈ wsX6_readSound := mb_X6_readSound_wsX6_readSound_r2 (List.mem_of_getElem? (i := 2) rfl)
theorem mx_X6_readSound_28 : Cond.selects RX6 yX6_figuresHere yX6_figuresHere ∈ wsX6_readSound := mb_X6_readSound_wsX6_readSound_r2 (List.mem_of_getElem? (i := 3) rfl)
theorem mx_X6_readSound_29 : Cond.code yX6_figuresHere cX6_figuresHere 2 (some .int) ∈ wsX6_readSound := mb_X6_readSound_wsX6_readSound_r2 (List.mem_of_getElem? (i := 4) rfl)
theorem mx_X6_readSound_30 : Cond.methodLink RX6 104 yX6_isFigure ∈ wsX6_readSound := mb_X6_readSound_wsX6_readSound_r2 (List.mem_of_getElem? (i := 5) rfl)
theorem mx_X6_readSound_31 : Cond.static yX6_isFigure ∈ wsX6_readSound := mb_X6_readSound_wsX6_readSound_r2 (List.mem_of_getElem? (i := 6) rfl)
theorem mx_X6_readSound_32 : Cond.code yX6_isFigure cX6_isFigure 1 (some .boolean) ∈ wsX6_readSound := mb_X6_readSound_wsX6_readSound_r2 (List.mem_of_getElem? (i := 7) rfl)
theorem ggX6_readSound_X6_readNumber : GoodIn wsX6_readSound wsX6_readNumber := goodIn_sub (by unfold wsX6_readNumber; exact List.forall_mem_cons.mpr ⟨mx_X6_readSound_25, List.forall_mem_append.mpr ⟨List.forall_mem_cons.mpr ⟨mx_X6_readSound_1, List.forall_mem_cons.mpr ⟨mx_X6_readSound_26, List.forall_mem_cons.mpr ⟨mx_X6_readSound_27, List.forall_mem_cons.mpr ⟨mx_X6_readSound_28, List.forall_mem_cons.mpr ⟨mx_X6_readSound_10, List.forall_mem_cons.mpr ⟨mx_X6_readSound_29, List.forall_mem_cons.mpr ⟨mx_X6_readSound_7, List.forall_mem_cons.mpr ⟨mx_X6_readSound_8, List.forall_mem_cons.mpr ⟨mx_X6_readSound_9, List.forall_mem_cons.mpr ⟨mx_X6_readSound_11, List.forall_mem_cons.mpr ⟨mx_X6_readSound_12, List.forall_mem_cons.mpr ⟨mx_X6_readSound_13, List.forall_mem_cons.mpr ⟨mx_X6_readSound_30, List.forall_mem_cons.mpr ⟨mx_X6_readSound_31, List.forall_mem_cons.mpr ⟨mx_X6_readSound_32, List.forall_mem_cons.mpr ⟨mx_X6_readSound_17, List.forall_mem_cons.mpr ⟨mx_X6_readSound_18, List.forall_mem_cons.mpr ⟨mx_X6_readSound_19, List.forall_mem_cons.mpr ⟨mx_X6_readSound_20, List.forall_mem_cons.mpr ⟨mx_X6_readSound_5, List.forall_mem_cons.mpr ⟨mx_X6_readSound_21, fun _ h_ => absurd h_ List.not_mem_nil⟩⟩⟩⟩⟩⟩⟩⟩⟩⟩⟩⟩⟩⟩⟩⟩⟩⟩⟩⟩⟩, (fun _ h_ => mb_X6_readSound_wsX60 h_)⟩⟩) (by decide +kernel)
theorem mx_X6_readSound_22 : Cond.methodLink RX6 55 yX6_readNumber ∈ wsX6_readSound := mb_X6_readSound_wsX6_readSound_r1 (List.mem_of_getElem? (i := 21) rfl)
theorem mx_X6_readSound_23 : Cond.instanceMethod yX6_readNumber ∈ wsX6_readSound := mb_X6_readSound_wsX6_readSound_r1 (List.mem_of_getElem? (i := 22) rfl)
theorem mx_X6_readSound_24 : Cond.selects RX6 yX6_readNumber yX6_readNumber ∈ wsX6_readSound := mb_X6_readSound_wsX6_readSound_r1 (List.mem_of_getElem? (i := 23) rfl)
theorem gX6_readSound_X6_readNumber : GoodIn wsX6_readSound (wsV RX6 55 RX6 yX6_readNumber wsX6_readNumber) := goodIn_app (goodIn_sub (List.forall_mem_cons.mpr ⟨mx_X6_readSound_22, List.forall_mem_cons.mpr ⟨mx_X6_readSound_23, List.forall_mem_cons.mpr ⟨mx_X6_readSound_24, List.forall_mem_cons.mpr ⟨mx_X6_readSound_10, fun _ h_ => absurd h_ List.not_mem_nil⟩⟩⟩⟩) (by decide +kernel)) ggX6_readSound_X6_readNumber
theorem mb_X6_readSounds_wsX6_readSounds_r1 {w : Cond} (h : w ∈ wsX6_readSounds_r1) : w ∈ wsX6_readSounds := by unfold wsX6_readSounds; exact List.mem_cons_of_mem _ (List.mem_append_left _ (List.mem_append_left _ (List.mem_append_left _ (h))))
theorem mx_X6_readSounds_15 : Cond.code yX6_byteAt cX6_byteAt 2 (some .int) ∈ wsX6_readSounds := mb_X6_readSounds_wsX6_readSounds_r1 (List.mem_of_getElem? (i := 14) rfl)
theorem mx_X6_readSounds_16 : Cond.fieldLink RX6 22 "MillTalk$Tape" "size" "I" ∈ wsX6_readSounds := mb_X6_readSounds_wsX6_readSounds_r1 (List.mem_of_getElem? (i := 15) rfl)
theorem mx_X6_readSounds_17 : Cond.fieldLink RX6 11 "MillTalk$Tape" "bytes" "[I" ∈ wsX6_readSounds := mb_X6_readSounds_wsX6_readSounds_r1 (List.mem_of_getElem? (i := 16) rfl)
theorem mb_X6_readSounds_wsX60 {w : Cond} (h : w ∈ wsX60) : w ∈ wsX6_readSounds := by unfold wsX6_readSounds; exact List.mem_cons_of_mem _ (List.mem_append_left _ (List.mem_append_right _ (h)))
theorem ggX6_readSounds_X6_byteAt : GoodIn wsX6_readSounds wsX6_byteAt := goodIn_sub (by unfold wsX6_byteAt; exact List.forall_mem_cons.mpr ⟨mx_X6_readSounds_15, List.forall_mem_append.mpr ⟨List.forall_mem_cons.mpr ⟨mx_X6_readSounds_16, List.forall_mem_cons.mpr ⟨mx_X6_readSounds_17, fun _ h_ => absurd h_ List.not_mem_nil⟩⟩, (fun _ h_ => mb_X6_readSounds_wsX60 h_)⟩⟩) (by decide +kernel)
theorem mx_X6_readSounds_12 : Cond.methodLink RX6 71 yX6_byteAt ∈ wsX6_readSounds := mb_X6_readSounds_wsX6_readSounds_r1 (List.mem_of_getElem? (i := 11) rfl)
theorem mx_X6_readSounds_13 : Cond.instanceMethod yX6_byteAt ∈ wsX6_readSounds := mb_X6_readSounds_wsX6_readSounds_r1 (List.mem_of_getElem? (i := 12) rfl)
theorem mx_X6_readSounds_14 : Cond.selects RX6 yX6_byteAt yX6_byteAt ∈ wsX6_readSounds := mb_X6_readSounds_wsX6_readSounds_r1 (List.mem_of_getElem? (i := 13) rfl)
theorem mx_X6_readSounds_6 : Cond.initialized RX6 ∈ wsX6_readSounds := mb_X6_readSounds_wsX6_readSounds_r1 (List.mem_of_getElem? (i := 5) rfl)
theorem gX6_readSounds_X6_byteAt : GoodIn wsX6_readSounds (wsV RX6 71 RX6 yX6_byteAt wsX6_byteAt) := goodIn_app (goodIn_sub (List.forall_mem_cons.mpr ⟨mx_X6_readSounds_12, List.forall_mem_cons.mpr ⟨mx_X6_readSounds_13, List.forall_mem_cons.mpr ⟨mx_X6_readSounds_14, List.forall_mem_cons.mpr ⟨mx_X6_readSounds_6, fun _ h_ => absurd h_ List.not_mem_nil⟩⟩⟩⟩) (by decide +kernel)) ggX6_readSounds_X6_byteAt
theorem mx_X6_readSounds_7 : Cond.code yX6_readSound cX6_readSound 4 none ∈ wsX6_readSounds := mb_X6_readSounds_wsX6_readSounds_r1 (List.mem_of_getElem? (i := 6) rfl)
theorem mx_X6_readSounds_2 : Cond.fieldLink RX6 36 "MillTalk$Tape" "place" "I" ∈ wsX6_readSounds := mb_X6_readSounds_wsX6_readSounds_r1 (List.mem_of_getElem? (i := 1) rfl)
theorem mx_X6_readSounds_8 : Cond.fieldLink RX6 18 "MillTalk$Tape" "told" "LMillTalk$Level;" ∈ wsX6_readSounds := mb_X6_readSounds_wsX6_readSounds_r1 (List.mem_of_getElem? (i := 7) rfl)
theorem mx_X6_readSounds_9 : Cond.fieldLink RX6 90 "MillTalk$Level" "soundCount" "I" ∈ wsX6_readSounds := mb_X6_readSounds_wsX6_readSounds_r1 (List.mem_of_getElem? (i := 8) rfl)
theorem mx_X6_readSounds_10 : Cond.fieldLink RX6 59 "MillTalk$Level" "cells" "I" ∈ wsX6_readSounds := mb_X6_readSounds_wsX6_readSounds_r1 (List.mem_of_getElem? (i := 9) rfl)
theorem mx_X6_readSounds_1 : Cond.fieldLink RX6 30 "MillTalk$Tape" "fault" "I" ∈ wsX6_readSounds := mb_X6_readSounds_wsX6_readSounds_r1 (List.mem_of_getElem? (i := 0) rfl)
theorem mx_X6_readSounds_11 : Cond.fieldLink RX6 93 "MillTalk$Level" "kinds" "[I" ∈ wsX6_readSounds := mb_X6_readSounds_wsX6_readSounds_r1 (List.mem_of_getElem? (i := 10) rfl)
theorem mx_X6_readSounds_18 : Cond.methodLink RX6 87 yX6_kindOf ∈ wsX6_readSounds := mb_X6_readSounds_wsX6_readSounds_r1 (List.mem_of_getElem? (i := 17) rfl)
theorem mx_X6_readSounds_19 : Cond.static yX6_kindOf ∈ wsX6_readSounds := mb_X6_readSounds_wsX6_readSounds_r1 (List.mem_of_getElem? (i := 18) rfl)
theorem mx_X6_readSounds_20 : Cond.code yX6_kindOf cX6_kindOf 1 (some .int) ∈ wsX6_readSounds := mb_X6_readSounds_wsX6_readSounds_r1 (List.mem_of_getElem? (i := 19) rfl)
theorem mx_X6_readSounds_21 : Cond.methodLink RX6 78 yX6_fail ∈ wsX6_readSounds := mb_X6_readSounds_wsX6_readSounds_r1 (List.mem_of_getElem? (i := 20) rfl)
theorem mx_X6_readSounds_22 : Cond.instanceMethod yX6_fail ∈ wsX6_readSounds := mb_X6_readSounds_wsX6_readSounds_r1 (List.mem_of_getElem? (i := 21) rfl)
theorem mx_X6_readSounds_23 : Cond.selects RX6 yX6_fail yX6_fail ∈ wsX6_readSounds := mb_X6_readSounds_wsX6_readSounds_r1 (List.mem_of_getElem? (i := 22) rfl)
theorem mx_X6_readSounds_24 : Cond.code yX6_fail cX6_fail 2 none ∈ wsX6_readSounds := mb_X6_readSounds_wsX6_readSounds_r1 (List.mem_of_getElem? (i := 23) rfl)
theorem mb_X6_readSounds_wsX6_readSounds_r2 {w : Cond} (h : w ∈ wsX6_readSounds_r2) : w ∈ wsX6_readSounds := by unfold wsX6_readSounds; exact List.mem_cons_of_mem _ (List.mem_append_left _ (List.mem_append_left _ (List.mem_append_right _ (h))))
theorem mx_X6_readSounds_25 : Cond.fieldLink RX6 33 "MillTalk$Tape" "faultPlace" "I" ∈ wsX6_readSounds := mb_X6_readSounds_wsX6_readSounds_r2 (List.mem_of_getElem? (i := 0) rfl)
theorem mx_X6_readSounds_26 : Cond.methodLink RX6 55 yX6_readNumber ∈ wsX6_readSounds := mb_X6_readSounds_wsX6_readSounds_r2 (List.mem_of_getElem? (i := 1) rfl)
theorem mx_X6_readSounds_27 : Cond.instanceMethod yX6_readNumber ∈ wsX6_readSounds := mb_X6_readSounds_wsX6_readSounds_r2 (List.mem_of_getElem? (i := 2) rfl)
theorem mx_X6_readSounds_28 : Cond.selects RX6 yX6_readNumber yX6_readNumber ∈ wsX6_readSounds := mb_X6_readSounds_wsX6_readSounds_r2 (List.mem_of_getElem? (i := 3) rfl)
theorem mx_X6_readSounds_29 : Cond.code yX6_readNumber cX6_readNumber 6 (some .int) ∈ wsX6_readSounds := mb_X6_readSounds_wsX6_readSounds_r2 (List.mem_of_getElem? (i := 4) rfl)
theorem mx_X6_readSounds_30 : Cond.methodLink RX6 100 yX6_figuresHere ∈ wsX6_readSounds := mb_X6_readSounds_wsX6_readSounds_r2 (List.mem_of_getElem? (i := 5) rfl)
theorem mx_X6_readSounds_31 : Cond.instanceMethod yX6_figuresHere ∈ wsX6_readSounds := mb_X6_readSounds_wsX6_readSounds_r2 (List.mem_of_getElem? (i := 6) rfl)
theorem mx_X6_readSounds_32 : Cond.selects RX6 yX6_figuresHere yX6_figuresHere ∈ wsX6_readSounds := mb_X6_readSounds_wsX6_readSounds_r2 (List.mem_of_getElem? (i := 7) rfl)
theorem mx_X6_readSounds_33 : Cond.code yX6_figuresHere cX6_figuresHere 2 (some .int) ∈ wsX6_readSounds := mb_X6_readSounds_wsX6_readSounds_r2 (List.mem_of_getElem? (i := 8) rfl)
theorem mx_X6_readSounds_34 : Cond.methodLink RX6 104 yX6_isFigure ∈ wsX6_readSounds := mb_X6_readSounds_wsX6_readSounds_r2 (List.mem_of_getElem? (i := 9) rfl)
theorem mx_X6_readSounds_35 : Cond.static yX6_isFigure ∈ wsX6_readSounds := mb_X6_readSounds_wsX6_readSounds_r2 (List.mem_of_getElem? (i := 10) rfl)
theorem mx_X6_readSounds_36 : Cond.code yX6_isFigure cX6_isFigure 1 (some .boolean) ∈ wsX6_readSounds := mb_X6_readSounds_wsX6_readSounds_r2 (List.mem_of_getElem? (i := 11) rfl)
theorem mx_X6_readSounds_37 : Cond.methodLink RX6 51 yX6_readByte ∈ wsX6_readSounds := mb_X6_readSounds_wsX6_readSounds_r2 (List.mem_of_getElem? (i := 12) rfl)
theorem mx_X6_readSounds_38 : Cond.instanceMethod yX6_readByte ∈ wsX6_readSounds := mb_X6_readSounds_wsX6_readSounds_r2 (List.mem_of_getElem? (i := 13) rfl)
theorem mx_X6_readSounds_39 : Cond.selects RX6 yX6_readByte yX6_readByte ∈ wsX6_readSounds := mb_X6_readSounds_wsX6_readSounds_r2 (List.mem_of_getElem? (i := 14) rfl)
theorem mx_X6_readSounds_40 : Cond.code yX6_readByte cX6_readByte 2 none ∈ wsX6_readSounds := mb_X6_readSounds_wsX6_readSounds_r2 (List.mem_of_getElem? (i := 15) rfl)
theorem mx_X6_readSounds_41 : Cond.methodLink RX6 96 yX3_letLoose ∈ wsX6_readSounds := mb_X6_readSounds_wsX6_readSounds_r2 (List.mem_of_getElem? (i := 16) rfl)
theorem mx_X6_readSounds_42 : Cond.instanceMethod yX3_letLoose ∈ wsX6_readSounds := mb_X6_readSounds_wsX6_readSounds_r2 (List.mem_of_getElem? (i := 17) rfl)
theorem mx_X6_readSounds_43 : Cond.selects RX3 yX3_letLoose yX3_letLoose ∈ wsX6_readSounds := mb_X6_readSounds_wsX6_readSounds_r2 (List.mem_of_getElem? (i := 18) rfl)
theorem mx_X6_readSounds_44 : Cond.initialized RX3 ∈ wsX6_readSounds := mb_X6_readSounds_wsX6_readSounds_r2 (List.mem_of_getElem? (i := 19) rfl)
theorem mx_X6_readSounds_45 : Cond.code yX3_letLoose cX3_letLoose 4 none ∈ wsX6_readSounds := mb_X6_readSounds_wsX6_readSounds_r2 (List.mem_of_getElem? (i := 20) rfl)
theorem mx_X6_readSounds_46 : Cond.fieldLink RX3 18 "MillTalk$Level" "places" "[I" ∈ wsX6_readSounds := mb_X6_readSounds_wsX6_readSounds_r2 (List.mem_of_getElem? (i := 21) rfl)
theorem mx_X6_readSounds_47 : Cond.fieldLink RX3 21 "MillTalk$Level" "louds" "[I" ∈ wsX6_readSounds := mb_X6_readSounds_wsX6_readSounds_r2 (List.mem_of_getElem? (i := 22) rfl)
theorem mx_X6_readSounds_48 : Cond.fieldLink RX3 24 "MillTalk$Level" "hows" "[I" ∈ wsX6_readSounds := mb_X6_readSounds_wsX6_readSounds_r2 (List.mem_of_getElem? (i := 23) rfl)
theorem mb_X6_readSounds_wsX30 {w : Cond} (h : w ∈ wsX30) : w ∈ wsX6_readSounds := by unfold wsX6_readSounds; exact List.mem_cons_of_mem _ (List.mem_append_right _ (h))
theorem ggX6_readSounds_X6_readSound : GoodIn wsX6_readSounds wsX6_readSound := goodIn_sub (by unfold wsX6_readSound; exact List.forall_mem_cons.mpr ⟨mx_X6_readSounds_7, List.forall_mem_append.mpr ⟨List.forall_mem_append.mpr ⟨List.forall_mem_append.mpr ⟨(by unfold wsX6_readSound_r1; exact List.forall_mem_cons.mpr ⟨mx_X6_readSounds_2, List.forall_mem_cons.mpr ⟨mx_X6_readSounds_8, List.forall_mem_cons.mpr ⟨mx_X6_readSounds_9, List.forall_mem_cons.mpr ⟨mx_X6_readSounds_10, List.forall_mem_cons.mpr ⟨mx_X6_readSounds_1, List.forall_mem_cons.mpr ⟨mx_X6_readSounds_11, List.forall_mem_cons.mpr ⟨mx_X6_readSounds_12, List.forall_mem_cons.mpr ⟨mx_X6_readSounds_13, List.forall_mem_cons.mpr ⟨mx_X6_readSounds_14, List.forall_mem_cons.mpr ⟨mx_X6_readSounds_6, List.forall_mem_cons.mpr ⟨mx_X6_readSounds_15, List.forall_mem_cons.mpr ⟨mx_X6_readSounds_16, List.forall_mem_cons.mpr ⟨mx_X6_readSounds_17, List.forall_mem_cons.mpr ⟨mx_X6_readSounds_18, List.forall_mem_cons.mpr ⟨mx_X6_readSounds_19, List.forall_mem_cons.mpr ⟨mx_X6_readSounds_20, List.forall_mem_cons.mpr ⟨mx_X6_readSounds_21, List.forall_mem_cons.mpr ⟨mx_X6_readSounds_22, List.forall_mem_cons.mpr ⟨mx_X6_readSounds_23, List.forall_mem_cons.mpr ⟨mx_X6_readSounds_24, List.forall_mem_cons.mpr ⟨mx_X6_readSounds_25, List.forall_mem_cons.mpr ⟨mx_X6_readSounds_26, List.forall_mem_cons.mpr ⟨mx_X6_readSounds_27, List.forall_mem_cons.mpr ⟨mx_X6_readSounds_28, fun _ h_ => absurd h_ List.not_mem_nil⟩⟩⟩⟩⟩⟩⟩⟩⟩⟩⟩⟩⟩⟩⟩⟩⟩⟩⟩⟩⟩⟩⟩⟩), (by unfold wsX6_readSound_r2; exact List.forall_mem_cons.mpr ⟨mx_X6_readSounds_29, List.forall_mem_cons.mpr ⟨mx_X6_readSounds_30, List.forall_mem_cons.mpr ⟨mx_X6_readSounds_31, List.forall_mem_cons.mpr ⟨mx_X6_readSounds_32, List.forall_mem_cons.mpr ⟨mx_X6_readSounds_33, List.forall_mem_cons.mpr ⟨mx_X6_readSounds_34, List.forall_mem_cons.mpr ⟨mx_X6_readSounds_35, List.forall_mem_cons.mpr ⟨mx_X6_readSounds_36, List.forall_mem_cons.mpr ⟨mx_X6_readSounds_37, List.forall_mem_cons.mpr ⟨mx_X6_readSounds_38, List.forall_mem_cons.mpr ⟨mx_X6_readSounds_39, List.forall_mem_cons.mpr ⟨mx_X6_readSounds_40, List.forall_mem_cons.mpr ⟨mx_X6_readSounds_41, List.forall_mem_cons.mpr ⟨mx_X6_readSounds_42, List.forall_mem_cons.mpr ⟨mx_X6_readSounds_43, List.forall_mem_cons.mpr ⟨mx_X6_readSounds_44, List.forall_mem_cons.mpr ⟨mx_X6_readSounds_45, List.forall_mem_cons.mpr ⟨mx_X6_readSounds_46, List.forall_mem_cons.mpr ⟨mx_X6_readSounds_47, List.forall_mem_cons.mpr ⟨mx_X6_readSounds_48, fun _ h_ => absurd h_ List.not_mem_nil⟩⟩⟩⟩⟩⟩⟩⟩⟩⟩⟩⟩⟩⟩⟩⟩⟩⟩⟩⟩)⟩, (fun _ h_ => mb_X6_readSounds_wsX60 h_)⟩, (fun _ h_ => mb_X6_readSounds_wsX30 h_)⟩⟩) (by decide +kernel)
theorem mx_X6_readSounds_3 : Cond.methodLink RX6 84 yX6_readSound ∈ wsX6_readSounds := mb_X6_readSounds_wsX6_readSounds_r1 (List.mem_of_getElem? (i := 2) rfl)
theorem mx_X6_readSounds_4 : Cond.instanceMethod yX6_readSound ∈ wsX6_readSounds := mb_X6_readSounds_wsX6_readSounds_r1 (List.mem_of_getElem? (i := 3) rfl)
theorem mx_X6_readSounds_5 : Cond.selects RX6 yX6_readSound yX6_readSound ∈ wsX6_readSounds := mb_X6_readSounds_wsX6_readSounds_r1 (List.mem_of_getElem? (i := 4) rfl)
theorem gX6_readSounds_X6_readSound : GoodIn wsX6_readSounds (wsV RX6 84 RX6 yX6_readSound wsX6_readSound) := goodIn_app (goodIn_sub (List.forall_mem_cons.mpr ⟨mx_X6_readSounds_3, List.forall_mem_cons.mpr ⟨mx_X6_readSounds_4, List.forall_mem_cons.mpr ⟨mx_X6_readSounds_5, List.forall_mem_cons.mpr ⟨mx_X6_readSounds_6, fun _ h_ => absurd h_ List.not_mem_nil⟩⟩⟩⟩) (by decide +kernel)) ggX6_readSounds_X6_readSound
theorem mb_X6_readWind_wsX6_readWind_r1 {w : Cond} (h : w ∈ wsX6_readWind_r1) : w ∈ wsX6_readWind := by unfold wsX6_readWind; exact List.mem_cons_of_mem _ (List.mem_append_left _ (List.mem_append_left _ (List.mem_append_left _ (h))))
theorem mx_X6_readWind_10 : Cond.code yX6_byteAt cX6_byteAt 2 (some .int) ∈ wsX6_readWind := mb_X6_readWind_wsX6_readWind_r1 (List.mem_of_getElem? (i := 9) rfl)
theorem mx_X6_readWind_11 : Cond.fieldLink RX6 22 "MillTalk$Tape" "size" "I" ∈ wsX6_readWind := mb_X6_readWind_wsX6_readWind_r1 (List.mem_of_getElem? (i := 10) rfl)
theorem mx_X6_readWind_12 : Cond.fieldLink RX6 11 "MillTalk$Tape" "bytes" "[I" ∈ wsX6_readWind := mb_X6_readWind_wsX6_readWind_r1 (List.mem_of_getElem? (i := 11) rfl)
theorem mb_X6_readWind_wsX60 {w : Cond} (h : w ∈ wsX60) : w ∈ wsX6_readWind := by unfold wsX6_readWind; exact List.mem_cons_of_mem _ (List.mem_append_left _ (List.mem_append_right _ (h)))
theorem ggX6_readWind_X6_byteAt : GoodIn wsX6_readWind wsX6_byteAt := goodIn_sub (by unfold wsX6_byteAt; exact List.forall_mem_cons.mpr ⟨mx_X6_readWind_10, List.forall_mem_append.mpr ⟨List.forall_mem_cons.mpr ⟨mx_X6_readWind_11, List.forall_mem_cons.mpr ⟨mx_X6_readWind_12, fun _ h_ => absurd h_ List.not_mem_nil⟩⟩, (fun _ h_ => mb_X6_readWind_wsX60 h_)⟩⟩) (by decide +kernel)
theorem mx_X6_readWind_6 : Cond.methodLink RX6 71 yX6_byteAt ∈ wsX6_readWind := mb_X6_readWind_wsX6_readWind_r1 (List.mem_of_getElem? (i := 5) rfl)
theorem mx_X6_readWind_7 : Cond.instanceMethod yX6_byteAt ∈ wsX6_readWind := mb_X6_readWind_wsX6_readWind_r1 (List.mem_of_getElem? (i := 6) rfl)
theorem mx_X6_readWind_8 : Cond.selects RX6 yX6_byteAt yX6_byteAt ∈ wsX6_readWind := mb_X6_readWind_wsX6_readWind_r1 (List.mem_of_getElem? (i := 7) rfl)
theorem mx_X6_readWind_9 : Cond.initialized RX6 ∈ wsX6_readWind := mb_X6_readWind_wsX6_readWind_r1 (List.mem_of_getElem? (i := 8) rfl)
theorem gX6_readWind_X6_byteAt : GoodIn wsX6_readWind (wsV RX6 71 RX6 yX6_byteAt wsX6_byteAt) := goodIn_app (goodIn_sub (List.forall_mem_cons.mpr ⟨mx_X6_readWind_6, List.forall_mem_cons.mpr ⟨mx_X6_readWind_7, List.forall_mem_cons.mpr ⟨mx_X6_readWind_8, List.forall_mem_cons.mpr ⟨mx_X6_readWind_9, fun _ h_ => absurd h_ List.not_mem_nil⟩⟩⟩⟩) (by decide +kernel)) ggX6_readWind_X6_byteAt
theorem mx_X6_readWind_16 : Cond.code yX6_fail cX6_fail 2 none ∈ wsX6_readWind := mb_X6_readWind_wsX6_readWind_r1 (List.mem_of_getElem? (i := 15) rfl)
theorem mx_X6_readWind_1 : Cond.fieldLink RX6 30 "MillTalk$Tape" "fault" "I" ∈ wsX6_readWind := mb_X6_readWind_wsX6_readWind_r1 (List.mem_of_getElem? (i := 0) rfl)
theorem mx_X6_readWind_2 : Cond.fieldLink RX6 36 "MillTalk$Tape" "place" "I" ∈ wsX6_readWind := mb_X6_readWind_wsX6_readWind_r1 (List.mem_of_getElem? (i := 1) rfl)
theorem mx_X6_readWind_17 : Cond.fieldLink RX6 33 "MillTalk$Tape" "faultPlace" "I" ∈ wsX6_readWind := mb_X6_readWind_wsX6_readWind_r1 (List.mem_of_getElem? (i := 16) rfl)
theorem ggX6_readWind_X6_fail : GoodIn wsX6_readWind wsX6_fail := goodIn_sub (by unfold wsX6_fail; exact List.forall_mem_cons.mpr ⟨mx_X6_readWind_16, List.forall_mem_append.mpr ⟨List.forall_mem_cons.mpr ⟨mx_X6_readWind_1, List.forall_mem_cons.mpr ⟨mx_X6_readWind_2, List.forall_mem_cons.mpr ⟨mx_X6_readWind_17, fun _ h_ => absurd h_ List.not_mem_nil⟩⟩⟩, (fun _ h_ => mb_X6_readWind_wsX60 h_)⟩⟩) (by decide +kernel)
theorem mx_X6_readWind_13 : Cond.methodLink RX6 78 yX6_fail ∈ wsX6_readWind := mb_X6_readWind_wsX6_readWind_r1 (List.mem_of_getElem? (i := 12) rfl)
theorem mx_X6_readWind_14 : Cond.instanceMethod yX6_fail ∈ wsX6_readWind := mb_X6_readWind_wsX6_readWind_r1 (List.mem_of_getElem? (i := 13) rfl)
theorem mx_X6_readWind_15 : Cond.selects RX6 yX6_fail yX6_fail ∈ wsX6_readWind := mb_X6_readWind_wsX6_readWind_r1 (List.mem_of_getElem? (i := 14) rfl)
theorem gX6_readWind_X6_fail : GoodIn wsX6_readWind (wsV RX6 78 RX6 yX6_fail wsX6_fail) := goodIn_app (goodIn_sub (List.forall_mem_cons.mpr ⟨mx_X6_readWind_13, List.forall_mem_cons.mpr ⟨mx_X6_readWind_14, List.forall_mem_cons.mpr ⟨mx_X6_readWind_15, List.forall_mem_cons.mpr ⟨mx_X6_readWind_9, fun _ h_ => absurd h_ List.not_mem_nil⟩⟩⟩⟩) (by decide +kernel)) ggX6_readWind_X6_fail
theorem mx_X6_readWind_21 : Cond.code yX6_readByte cX6_readByte 2 none ∈ wsX6_readWind := mb_X6_readWind_wsX6_readWind_r1 (List.mem_of_getElem? (i := 20) rfl)
theorem ggX6_readWind_X6_readByte : GoodIn wsX6_readWind wsX6_readByte := goodIn_sub (by unfold wsX6_readByte; exact List.forall_mem_cons.mpr ⟨mx_X6_readWind_21, List.forall_mem_append.mpr ⟨List.forall_mem_cons.mpr ⟨mx_X6_readWind_2, List.forall_mem_cons.mpr ⟨mx_X6_readWind_6, List.forall_mem_cons.mpr ⟨mx_X6_readWind_7, List.forall_mem_cons.mpr ⟨mx_X6_readWind_8, List.forall_mem_cons.mpr ⟨mx_X6_readWind_9, List.forall_mem_cons.mpr ⟨mx_X6_readWind_10, List.forall_mem_cons.mpr ⟨mx_X6_readWind_11, List.forall_mem_cons.mpr ⟨mx_X6_readWind_12, List.forall_mem_cons.mpr ⟨mx_X6_readWind_13, List.forall_mem_cons.mpr ⟨mx_X6_readWind_14, List.forall_mem_cons.mpr ⟨mx_X6_readWind_15, List.forall_mem_cons.mpr ⟨mx_X6_readWind_16, List.forall_mem_cons.mpr ⟨mx_X6_readWind_1, List.forall_mem_cons.mpr ⟨mx_X6_readWind_17, fun _ h_ => absurd h_ List.not_mem_nil⟩⟩⟩⟩⟩⟩⟩⟩⟩⟩⟩⟩⟩⟩, (fun _ h_ => mb_X6_readWind_wsX60 h_)⟩⟩) (by decide +kernel)
theorem mx_X6_readWind_18 : Cond.methodLink RX6 51 yX6_readByte ∈ wsX6_readWind := mb_X6_readWind_wsX6_readWind_r1 (List.mem_of_getElem? (i := 17) rfl)
theorem mx_X6_readWind_19 : Cond.instanceMethod yX6_readByte ∈ wsX6_readWind := mb_X6_readWind_wsX6_readWind_r1 (List.mem_of_getElem? (i := 18) rfl)
theorem mx_X6_readWind_20 : Cond.selects RX6 yX6_readByte yX6_readByte ∈ wsX6_readWind := mb_X6_readWind_wsX6_readWind_r1 (List.mem_of_getElem? (i := 19) rfl)
theorem gX6_readWind_X6_readByte : GoodIn wsX6_readWind (wsV RX6 51 RX6 yX6_readByte wsX6_readByte) := goodIn_app (goodIn_sub (List.forall_mem_cons.mpr ⟨mx_X6_readWind_18, List.forall_mem_cons.mpr ⟨mx_X6_readWind_19, List.forall_mem_cons.mpr ⟨mx_X6_readWind_20, List.forall_mem_cons.mpr ⟨mx_X6_readWind_9, fun _ h_ => absurd h_ List.not_mem_nil⟩⟩⟩⟩) (by decide +kernel)) ggX6_readWind_X6_readByte
theorem mb_X6_readWind_wsX6_readWind_r2 {w : Cond} (h : w ∈ wsX6_readWind_r2) : w ∈ wsX6_readWind := by unfold wsX6_readWind; exact List.mem_cons_of_mem _ (List.mem_append_left _ (List.mem_append_left _ (List.mem_append_right _ (h))))
theorem mx_X6_readWind_25 : Cond.code yX6_readNumber cX6_readNumber 6 (some .int) ∈ wsX6_readWind := mb_X6_readWind_wsX6_readWind_r2 (List.mem_of_getElem? (i := 0) rfl)
theorem mx_X6_readWind_26 : Cond.methodLink RX6 100 yX6_figuresHere ∈ wsX6_readWind := mb_X6_readWind_wsX6_readWind_r2 (List.mem_of_getElem? (i := 1) rfl)
theorem mx_X6_readWind_27 : Cond.instanceMethod yX6_figuresHere ∈ wsX6_readWind := mb_X6_readWind_wsX6_readWind_r2 (List.mem_of_getElem? (i := 2) rfl)
theorem mx_X6_readWind_28 : Cond.selects RX6 yX6_figuresHere yX6_figuresHere ∈ wsX6_readWind := mb_X6_readWind_wsX6_readWind_r2 (List.mem_of_getElem? (i := 3) rfl)
theorem mx_X6_readWind_29 : Cond.code yX6_figuresHere cX6_figuresHere 2 (some .int) ∈ wsX6_readWind := mb_X6_readWind_wsX6_readWind_r2 (List.mem_of_getElem? (i := 4) rfl)
theorem mx_X6_readWind_30 : Cond.methodLink RX6 104 yX6_isFigure ∈ wsX6_readWind := mb_X6_readWind_wsX6_readWind_r2 (List.mem_of_getElem? (i := 5) rfl)
theorem mx_X6_readWind_31 : Cond.static yX6_isFigure ∈ wsX6_readWind := mb_X6_readWind_wsX6_readWind_r2 (List.mem_of_getElem? (i := 6) rfl)
theorem mx_X6_readWind_32 : Cond.code yX6_isFigure cX6_isFigure 1 (some .boolean) ∈ wsX6_readWind := mb_X6_readWind_wsX6_readWind_r2 (List.mem_of_getElem? (i := 7) rfl)
theorem ggX6_readWind_X6_readNumber : GoodIn wsX6_readWind wsX6_readNumber := goodIn_sub (by unfold wsX6_readNumber; exact List.forall_mem_cons.mpr ⟨mx_X6_readWind_25, List.forall_mem_append.mpr ⟨List.forall_mem_cons.mpr ⟨mx_X6_readWind_2, List.forall_mem_cons.mpr ⟨mx_X6_readWind_26, List.forall_mem_cons.mpr ⟨mx_X6_readWind_27, List.forall_mem_cons.mpr ⟨mx_X6_readWind_28, List.forall_mem_cons.mpr ⟨mx_X6_readWind_9, List.forall_mem_cons.mpr ⟨mx_X6_readWind_29, List.forall_mem_cons.mpr ⟨mx_X6_readWind_6, List.forall_mem_cons.mpr ⟨mx_X6_readWind_7, List.forall_mem_cons.mpr ⟨mx_X6_readWind_8, List.forall_mem_cons.mpr ⟨mx_X6_readWind_10, List.forall_mem_cons.mpr ⟨mx_X6_readWind_11, List.forall_mem_cons.mpr ⟨mx_X6_readWind_12, List.forall_mem_cons.mpr ⟨mx_X6_readWind_30, List.forall_mem_cons.mpr ⟨mx_X6_readWind_31, List.forall_mem_cons.mpr ⟨mx_X6_readWind_32, List.forall_mem_cons.mpr ⟨mx_X6_readWind_13, List.forall_mem_cons.mpr ⟨mx_X6_readWind_14, List.forall_mem_cons.mpr ⟨mx_X6_readWind_15, List.forall_mem_cons.mpr ⟨mx_X6_readWind_16, List.forall_mem_cons.mpr ⟨mx_X6_readWind_1, List.forall_mem_cons.mpr ⟨mx_X6_readWind_17, fun _ h_ => absurd h_ List.not_mem_nil⟩⟩⟩⟩⟩⟩⟩⟩⟩⟩⟩⟩⟩⟩⟩⟩⟩⟩⟩⟩⟩, (fun _ h_ => mb_X6_readWind_wsX60 h_)⟩⟩) (by decide +kernel)
theorem mx_X6_readWind_22 : Cond.methodLink RX6 55 yX6_readNumber ∈ wsX6_readWind := mb_X6_readWind_wsX6_readWind_r1 (List.mem_of_getElem? (i := 21) rfl)
theorem mx_X6_readWind_23 : Cond.instanceMethod yX6_readNumber ∈ wsX6_readWind := mb_X6_readWind_wsX6_readWind_r1 (List.mem_of_getElem? (i := 22) rfl)
theorem mx_X6_readWind_24 : Cond.selects RX6 yX6_readNumber yX6_readNumber ∈ wsX6_readWind := mb_X6_readWind_wsX6_readWind_r1 (List.mem_of_getElem? (i := 23) rfl)
theorem gX6_readWind_X6_readNumber : GoodIn wsX6_readWind (wsV RX6 55 RX6 yX6_readNumber wsX6_readNumber) := goodIn_app (goodIn_sub (List.forall_mem_cons.mpr ⟨mx_X6_readWind_22, List.forall_mem_cons.mpr ⟨mx_X6_readWind_23, List.forall_mem_cons.mpr ⟨mx_X6_readWind_24, List.forall_mem_cons.mpr ⟨mx_X6_readWind_9, fun _ h_ => absurd h_ List.not_mem_nil⟩⟩⟩⟩) (by decide +kernel)) ggX6_readWind_X6_readNumber
theorem mb_X6_readWinds_wsX6_readWinds_r1 {w : Cond} (h : w ∈ wsX6_readWinds_r1) : w ∈ wsX6_readWinds := by unfold wsX6_readWinds; exact List.mem_cons_of_mem _ (List.mem_append_left _ (List.mem_append_left _ (List.mem_append_left _ (h))))
theorem mx_X6_readWinds_14 : Cond.code yX6_byteAt cX6_byteAt 2 (some .int) ∈ wsX6_readWinds := mb_X6_readWinds_wsX6_readWinds_r1 (List.mem_of_getElem? (i := 13) rfl)
theorem mx_X6_readWinds_15 : Cond.fieldLink RX6 22 "MillTalk$Tape" "size" "I" ∈ wsX6_readWinds := mb_X6_readWinds_wsX6_readWinds_r1 (List.mem_of_getElem? (i := 14) rfl)
theorem mx_X6_readWinds_16 : Cond.fieldLink RX6 11 "MillTalk$Tape" "bytes" "[I" ∈ wsX6_readWinds := mb_X6_readWinds_wsX6_readWinds_r1 (List.mem_of_getElem? (i := 15) rfl)
theorem mb_X6_readWinds_wsX60 {w : Cond} (h : w ∈ wsX60) : w ∈ wsX6_readWinds := by unfold wsX6_readWinds; exact List.mem_cons_of_mem _ (List.mem_append_left _ (List.mem_append_right _ (h)))
theorem ggX6_readWinds_X6_byteAt : GoodIn wsX6_readWinds wsX6_byteAt := goodIn_sub (by unfold wsX6_byteAt; exact List.forall_mem_cons.mpr ⟨mx_X6_readWinds_14, List.forall_mem_append.mpr ⟨List.forall_mem_cons.mpr ⟨mx_X6_readWinds_15, List.forall_mem_cons.mpr ⟨mx_X6_readWinds_16, fun _ h_ => absurd h_ List.not_mem_nil⟩⟩, (fun _ h_ => mb_X6_readWinds_wsX60 h_)⟩⟩) (by decide +kernel)
theorem mx_X6_readWinds_11 : Cond.methodLink RX6 71 yX6_byteAt ∈ wsX6_readWinds := mb_X6_readWinds_wsX6_readWinds_r1 (List.mem_of_getElem? (i := 10) rfl)
theorem mx_X6_readWinds_12 : Cond.instanceMethod yX6_byteAt ∈ wsX6_readWinds := mb_X6_readWinds_wsX6_readWinds_r1 (List.mem_of_getElem? (i := 11) rfl)
theorem mx_X6_readWinds_13 : Cond.selects RX6 yX6_byteAt yX6_byteAt ∈ wsX6_readWinds := mb_X6_readWinds_wsX6_readWinds_r1 (List.mem_of_getElem? (i := 12) rfl)
theorem mx_X6_readWinds_6 : Cond.initialized RX6 ∈ wsX6_readWinds := mb_X6_readWinds_wsX6_readWinds_r1 (List.mem_of_getElem? (i := 5) rfl)
theorem gX6_readWinds_X6_byteAt : GoodIn wsX6_readWinds (wsV RX6 71 RX6 yX6_byteAt wsX6_byteAt) := goodIn_app (goodIn_sub (List.forall_mem_cons.mpr ⟨mx_X6_readWinds_11, List.forall_mem_cons.mpr ⟨mx_X6_readWinds_12, List.forall_mem_cons.mpr ⟨mx_X6_readWinds_13, List.forall_mem_cons.mpr ⟨mx_X6_readWinds_6, fun _ h_ => absurd h_ List.not_mem_nil⟩⟩⟩⟩) (by decide +kernel)) ggX6_readWinds_X6_byteAt
theorem mx_X6_readWinds_7 : Cond.code yX6_readWind cX6_readWind 2 none ∈ wsX6_readWinds := mb_X6_readWinds_wsX6_readWinds_r1 (List.mem_of_getElem? (i := 6) rfl)
theorem mx_X6_readWinds_1 : Cond.fieldLink RX6 30 "MillTalk$Tape" "fault" "I" ∈ wsX6_readWinds := mb_X6_readWinds_wsX6_readWinds_r1 (List.mem_of_getElem? (i := 0) rfl)
theorem mx_X6_readWinds_2 : Cond.fieldLink RX6 36 "MillTalk$Tape" "place" "I" ∈ wsX6_readWinds := mb_X6_readWinds_wsX6_readWinds_r1 (List.mem_of_getElem? (i := 1) rfl)
theorem mx_X6_readWinds_8 : Cond.fieldLink RX6 18 "MillTalk$Tape" "told" "LMillTalk$Level;" ∈ wsX6_readWinds := mb_X6_readWinds_wsX6_readWinds_r1 (List.mem_of_getElem? (i := 7) rfl)
theorem mx_X6_readWinds_9 : Cond.fieldLink RX6 75 "MillTalk$Level" "windCount" "I" ∈ wsX6_readWinds := mb_X6_readWinds_wsX6_readWinds_r1 (List.mem_of_getElem? (i := 8) rfl)
theorem mx_X6_readWinds_10 : Cond.fieldLink RX6 81 "MillTalk$Level" "winds" "[I" ∈ wsX6_readWinds := mb_X6_readWinds_wsX6_readWinds_r1 (List.mem_of_getElem? (i := 9) rfl)
theorem mx_X6_readWinds_17 : Cond.methodLink RX6 78 yX6_fail ∈ wsX6_readWinds := mb_X6_readWinds_wsX6_readWinds_r1 (List.mem_of_getElem? (i := 16) rfl)
theorem mx_X6_readWinds_18 : Cond.instanceMethod yX6_fail ∈ wsX6_readWinds := mb_X6_readWinds_wsX6_readWinds_r1 (List.mem_of_getElem? (i := 17) rfl)
theorem mx_X6_readWinds_19 : Cond.selects RX6 yX6_fail yX6_fail ∈ wsX6_readWinds := mb_X6_readWinds_wsX6_readWinds_r1 (List.mem_of_getElem? (i := 18) rfl)
theorem mx_X6_readWinds_20 : Cond.code yX6_fail cX6_fail 2 none ∈ wsX6_readWinds := mb_X6_readWinds_wsX6_readWinds_r1 (List.mem_of_getElem? (i := 19) rfl)
theorem mx_X6_readWinds_21 : Cond.fieldLink RX6 33 "MillTalk$Tape" "faultPlace" "I" ∈ wsX6_readWinds := mb_X6_readWinds_wsX6_readWinds_r1 (List.mem_of_getElem? (i := 20) rfl)
theorem mx_X6_readWinds_22 : Cond.methodLink RX6 51 yX6_readByte ∈ wsX6_readWinds := mb_X6_readWinds_wsX6_readWinds_r1 (List.mem_of_getElem? (i := 21) rfl)
theorem mx_X6_readWinds_23 : Cond.instanceMethod yX6_readByte ∈ wsX6_readWinds := mb_X6_readWinds_wsX6_readWinds_r1 (List.mem_of_getElem? (i := 22) rfl)
theorem mx_X6_readWinds_24 : Cond.selects RX6 yX6_readByte yX6_readByte ∈ wsX6_readWinds := mb_X6_readWinds_wsX6_readWinds_r1 (List.mem_of_getElem? (i := 23) rfl)
theorem mb_X6_readWinds_wsX6_readWinds_r2 {w : Cond} (h : w ∈ wsX6_readWinds_r2) : w ∈ wsX6_readWinds := by unfold wsX6_readWinds; exact List.mem_cons_of_mem _ (List.mem_append_left _ (List.mem_append_left _ (List.mem_append_right _ (h))))
theorem mx_X6_readWinds_25 : Cond.code yX6_readByte cX6_readByte 2 none ∈ wsX6_readWinds := mb_X6_readWinds_wsX6_readWinds_r2 (List.mem_of_getElem? (i := 0) rfl)
theorem mx_X6_readWinds_26 : Cond.methodLink RX6 55 yX6_readNumber ∈ wsX6_readWinds := mb_X6_readWinds_wsX6_readWinds_r2 (List.mem_of_getElem? (i := 1) rfl)
theorem mx_X6_readWinds_27 : Cond.instanceMethod yX6_readNumber ∈ wsX6_readWinds := mb_X6_readWinds_wsX6_readWinds_r2 (List.mem_of_getElem? (i := 2) rfl)
theorem mx_X6_readWinds_28 : Cond.selects RX6 yX6_readNumber yX6_readNumber ∈ wsX6_readWinds := mb_X6_readWinds_wsX6_readWinds_r2 (List.mem_of_getElem? (i := 3) rfl)
theorem mx_X6_readWinds_29 : Cond.code yX6_readNumber cX6_readNumber 6 (some .int) ∈ wsX6_readWinds := mb_X6_readWinds_wsX6_readWinds_r2 (List.mem_of_getElem? (i := 4) rfl)
theorem mx_X6_readWinds_30 : Cond.methodLink RX6 100 yX6_figuresHere ∈ wsX6_readWinds := mb_X6_readWinds_wsX6_readWinds_r2 (List.mem_of_getElem? (i := 5) rfl)
theorem mx_X6_readWinds_31 : Cond.instanceMethod yX6_figuresHere ∈ wsX6_readWinds := mb_X6_readWinds_wsX6_readWinds_r2 (List.mem_of_getElem? (i := 6) rfl)
theorem mx_X6_readWinds_32 : Cond.selects RX6 yX6_figuresHere yX6_figuresHere ∈ wsX6_readWinds := mb_X6_readWinds_wsX6_readWinds_r2 (List.mem_of_getElem? (i := 7) rfl)
theorem mx_X6_readWinds_33 : Cond.code yX6_figuresHere cX6_figuresHere 2 (some .int) ∈ wsX6_readWinds := mb_X6_readWinds_wsX6_readWinds_r2 (List.mem_of_getElem? (i := 8) rfl)
theorem mx_X6_readWinds_34 : Cond.methodLink RX6 104 yX6_isFigure ∈ wsX6_readWinds := mb_X6_readWinds_wsX6_readWinds_r2 (List.mem_of_getElem? (i := 9) rfl)
theorem mx_X6_readWinds_35 : Cond.static yX6_isFigure ∈ wsX6_readWinds := mb_X6_readWinds_wsX6_readWinds_r2 (List.mem_of_getElem? (i := 10) rfl)
theorem mx_X6_readWinds_36 : Cond.code yX6_isFigure cX6_isFigure 1 (some .boolean) ∈ wsX6_readWinds := mb_X6_readWinds_wsX6_readWinds_r2 (List.mem_of_getElem? (i := 11) rfl)
theorem mb_X6_readWinds_wsX30 {w : Cond} (h : w ∈ wsX30) : w ∈ wsX6_readWinds := by unfold wsX6_readWinds; exact List.mem_cons_of_mem _ (List.mem_append_right _ (h))
theorem ggX6_readWinds_X6_readWind : GoodIn wsX6_readWinds wsX6_readWind := goodIn_sub (by unfold wsX6_readWind; exact List.forall_mem_cons.mpr ⟨mx_X6_readWinds_7, List.forall_mem_append.mpr ⟨List.forall_mem_append.mpr ⟨List.forall_mem_append.mpr ⟨(by unfold wsX6_readWind_r1; exact List.forall_mem_cons.mpr ⟨mx_X6_readWinds_1, List.forall_mem_cons.mpr ⟨mx_X6_readWinds_2, List.forall_mem_cons.mpr ⟨mx_X6_readWinds_8, List.forall_mem_cons.mpr ⟨mx_X6_readWinds_9, List.forall_mem_cons.mpr ⟨mx_X6_readWinds_10, List.forall_mem_cons.mpr ⟨mx_X6_readWinds_11, List.forall_mem_cons.mpr ⟨mx_X6_readWinds_12, List.forall_mem_cons.mpr ⟨mx_X6_readWinds_13, List.forall_mem_cons.mpr ⟨mx_X6_readWinds_6, List.forall_mem_cons.mpr ⟨mx_X6_readWinds_14, List.forall_mem_cons.mpr ⟨mx_X6_readWinds_15, List.forall_mem_cons.mpr ⟨mx_X6_readWinds_16, List.forall_mem_cons.mpr ⟨mx_X6_readWinds_17, List.forall_mem_cons.mpr ⟨mx_X6_readWinds_18, List.forall_mem_cons.mpr ⟨mx_X6_readWinds_19, List.forall_mem_cons.mpr ⟨mx_X6_readWinds_20, List.forall_mem_cons.mpr ⟨mx_X6_readWinds_21, List.forall_mem_cons.mpr ⟨mx_X6_readWinds_22, List.forall_mem_cons.mpr ⟨mx_X6_readWinds_23, List.forall_mem_cons.mpr ⟨mx_X6_readWinds_24, List.forall_mem_cons.mpr ⟨mx_X6_readWinds_25, List.forall_mem_cons.mpr ⟨mx_X6_readWinds_26, List.forall_mem_cons.mpr ⟨mx_X6_readWinds_27, List.forall_mem_cons.mpr ⟨mx_X6_readWinds_28, fun _ h_ => absurd h_ List.not_mem_nil⟩⟩⟩⟩⟩⟩⟩⟩⟩⟩⟩⟩⟩⟩⟩⟩⟩⟩⟩⟩⟩⟩⟩⟩), (by unfold wsX6_readWind_r2; exact List.forall_mem_cons.mpr ⟨mx_X6_readWinds_29, List.forall_mem_cons.mpr ⟨mx_X6_readWinds_30, List.forall_mem_cons.mpr ⟨mx_X6_readWinds_31, List.forall_mem_cons.mpr ⟨mx_X6_readWinds_32, List.forall_mem_cons.mpr ⟨mx_X6_readWinds_33, List.forall_mem_cons.mpr ⟨mx_X6_readWinds_34, List.forall_mem_cons.mpr ⟨mx_X6_readWinds_35, List.forall_mem_cons.mpr ⟨mx_X6_readWinds_36, fun _ h_ => absurd h_ List.not_mem_nil⟩⟩⟩⟩⟩⟩⟩⟩)⟩, (fun _ h_ => mb_X6_readWinds_wsX60 h_)⟩, (fun _ h_ => mb_X6_readWinds_wsX30 h_)⟩⟩) (by decide +kernel)
theorem mx_X6_readWinds_3 : Cond.methodLink RX6 68 yX6_readWind ∈ wsX6_readWinds := mb_X6_readWinds_wsX6_readWinds_r1 (List.mem_of_getElem? (i := 2) rfl)
theorem mx_X6_readWinds_4 : Cond.instanceMethod yX6_readWind ∈ wsX6_readWinds := mb_X6_readWinds_wsX6_readWinds_r1 (List.mem_of_getElem? (i := 3) rfl)
theorem mx_X6_readWinds_5 : Cond.selects RX6 yX6_readWind yX6_readWind ∈ wsX6_readWinds := mb_X6_readWinds_wsX6_readWinds_r1 (List.mem_of_getElem? (i := 4) rfl)
theorem gX6_readWinds_X6_readWind : GoodIn wsX6_readWinds (wsV RX6 68 RX6 yX6_readWind wsX6_readWind) := goodIn_app (goodIn_sub (List.forall_mem_cons.mpr ⟨mx_X6_readWinds_3, List.forall_mem_cons.mpr ⟨mx_X6_readWinds_4, List.forall_mem_cons.mpr ⟨mx_X6_readWinds_5, List.forall_mem_cons.mpr ⟨mx_X6_readWinds_6, fun _ h_ => absurd h_ List.not_mem_nil⟩⟩⟩⟩) (by decide +kernel)) ggX6_readWinds_X6_readWind
theorem mb_X6_read_wsX6_read_r1 {w : Cond} (h : w ∈ wsX6_read_r1) : w ∈ wsX6_read := by unfold wsX6_read; exact List.mem_cons_of_mem _ (List.mem_append_left _ (List.mem_append_left _ (List.mem_append_left _ (h))))
theorem mx_X6_read_10 : Cond.code yX3_begin cX3_begin 1 none ∈ wsX6_read := mb_X6_read_wsX6_read_r1 (List.mem_of_getElem? (i := 9) rfl)
theorem mx_X6_read_11 : Cond.fieldLink RX3 27 "MillTalk$Level" "cells" "I" ∈ wsX6_read := mb_X6_read_wsX6_read_r1 (List.mem_of_getElem? (i := 10) rfl)
theorem mx_X6_read_12 : Cond.fieldLink RX3 31 "MillTalk$Level" "mill" "I" ∈ wsX6_read := mb_X6_read_wsX6_read_r1 (List.mem_of_getElem? (i := 11) rfl)
theorem mx_X6_read_13 : Cond.fieldLink RX3 34 "MillTalk$Level" "reach" "I" ∈ wsX6_read := mb_X6_read_wsX6_read_r1 (List.mem_of_getElem? (i := 12) rfl)
theorem mx_X6_read_14 : Cond.fieldLink RX3 37 "MillTalk$Level" "cap" "I" ∈ wsX6_read := mb_X6_read_wsX6_read_r1 (List.mem_of_getElem? (i := 13) rfl)
theorem mx_X6_read_15 : Cond.fieldLink RX3 40 "MillTalk$Level" "hour" "I" ∈ wsX6_read := mb_X6_read_wsX6_read_r1 (List.mem_of_getElem? (i := 14) rfl)
theorem mx_X6_read_16 : Cond.fieldLink RX3 43 "MillTalk$Level" "meal" "I" ∈ wsX6_read := mb_X6_read_wsX6_read_r1 (List.mem_of_getElem? (i := 15) rfl)
theorem mx_X6_read_17 : Cond.fieldLink RX3 46 "MillTalk$Level" "windCount" "I" ∈ wsX6_read := mb_X6_read_wsX6_read_r1 (List.mem_of_getElem? (i := 16) rfl)
theorem mx_X6_read_18 : Cond.fieldLink RX3 49 "MillTalk$Level" "soundCount" "I" ∈ wsX6_read := mb_X6_read_wsX6_read_r1 (List.mem_of_getElem? (i := 17) rfl)
theorem mb_X6_read_wsX30 {w : Cond} (h : w ∈ wsX30) : w ∈ wsX6_read := by unfold wsX6_read; exact List.mem_cons_of_mem _ (List.mem_append_right _ (h))
theorem ggX6_read_X3_begin : GoodIn wsX6_read wsX3_begin := goodIn_sub (by unfold wsX3_begin; exact List.forall_mem_cons.mpr ⟨mx_X6_read_10, List.forall_mem_append.mpr ⟨List.forall_mem_cons.mpr ⟨mx_X6_read_11, List.forall_mem_cons.mpr ⟨mx_X6_read_12, List.forall_mem_cons.mpr ⟨mx_X6_read_13, List.forall_mem_cons.mpr ⟨mx_X6_read_14, List.forall_mem_cons.mpr ⟨mx_X6_read_15, List.forall_mem_cons.mpr ⟨mx_X6_read_16, List.forall_mem_cons.mpr ⟨mx_X6_read_17, List.forall_mem_cons.mpr ⟨mx_X6_read_18, fun _ h_ => absurd h_ List.not_mem_nil⟩⟩⟩⟩⟩⟩⟩⟩, (fun _ h_ => mb_X6_read_wsX30 h_)⟩⟩) (by decide +kernel)
theorem mx_X6_read_6 : Cond.methodLink RX6 39 yX3_begin ∈ wsX6_read := mb_X6_read_wsX6_read_r1 (List.mem_of_getElem? (i := 5) rfl)
theorem mx_X6_read_7 : Cond.instanceMethod yX3_begin ∈ wsX6_read := mb_X6_read_wsX6_read_r1 (List.mem_of_getElem? (i := 6) rfl)
theorem mx_X6_read_8 : Cond.selects RX3 yX3_begin yX3_begin ∈ wsX6_read := mb_X6_read_wsX6_read_r1 (List.mem_of_getElem? (i := 7) rfl)
theorem mx_X6_read_9 : Cond.initialized RX3 ∈ wsX6_read := mb_X6_read_wsX6_read_r1 (List.mem_of_getElem? (i := 8) rfl)
theorem gX6_read_X3_begin : GoodIn wsX6_read (wsV RX6 39 RX3 yX3_begin wsX3_begin) := goodIn_app (goodIn_sub (List.forall_mem_cons.mpr ⟨mx_X6_read_6, List.forall_mem_cons.mpr ⟨mx_X6_read_7, List.forall_mem_cons.mpr ⟨mx_X6_read_8, List.forall_mem_cons.mpr ⟨mx_X6_read_9, fun _ h_ => absurd h_ List.not_mem_nil⟩⟩⟩⟩) (by decide +kernel)) ggX6_read_X3_begin
theorem mx_X6_read_23 : Cond.code yX6_readLaw cX6_readLaw 1 none ∈ wsX6_read := mb_X6_read_wsX6_read_r1 (List.mem_of_getElem? (i := 22) rfl)
theorem mx_X6_read_4 : Cond.fieldLink RX6 18 "MillTalk$Tape" "told" "LMillTalk$Level;" ∈ wsX6_read := mb_X6_read_wsX6_read_r1 (List.mem_of_getElem? (i := 3) rfl)
theorem mx_X6_read_24 : Cond.fieldLink RX6 59 "MillTalk$Level" "cells" "I" ∈ wsX6_read := mb_X6_read_wsX6_read_r1 (List.mem_of_getElem? (i := 23) rfl)
theorem mb_X6_read_wsX6_read_r2 {w : Cond} (h : w ∈ wsX6_read_r2) : w ∈ wsX6_read := by unfold wsX6_read; exact List.mem_cons_of_mem _ (List.mem_append_left _ (List.mem_append_left _ (List.mem_append_right _ (List.mem_append_left _ (h)))))
theorem mx_X6_read_25 : Cond.fieldLink RX6 62 "MillTalk$Level" "mill" "I" ∈ wsX6_read := mb_X6_read_wsX6_read_r2 (List.mem_of_getElem? (i := 0) rfl)
theorem mx_X6_read_26 : Cond.fieldLink RX6 65 "MillTalk$Level" "reach" "I" ∈ wsX6_read := mb_X6_read_wsX6_read_r2 (List.mem_of_getElem? (i := 1) rfl)
theorem mx_X6_read_27 : Cond.methodLink RX6 51 yX6_readByte ∈ wsX6_read := mb_X6_read_wsX6_read_r2 (List.mem_of_getElem? (i := 2) rfl)
theorem mx_X6_read_28 : Cond.instanceMethod yX6_readByte ∈ wsX6_read := mb_X6_read_wsX6_read_r2 (List.mem_of_getElem? (i := 3) rfl)
theorem mx_X6_read_29 : Cond.selects RX6 yX6_readByte yX6_readByte ∈ wsX6_read := mb_X6_read_wsX6_read_r2 (List.mem_of_getElem? (i := 4) rfl)
theorem mx_X6_read_22 : Cond.initialized RX6 ∈ wsX6_read := mb_X6_read_wsX6_read_r1 (List.mem_of_getElem? (i := 21) rfl)
theorem mx_X6_read_30 : Cond.code yX6_readByte cX6_readByte 2 none ∈ wsX6_read := mb_X6_read_wsX6_read_r2 (List.mem_of_getElem? (i := 5) rfl)
theorem mx_X6_read_3 : Cond.fieldLink RX6 36 "MillTalk$Tape" "place" "I" ∈ wsX6_read := mb_X6_read_wsX6_read_r1 (List.mem_of_getElem? (i := 2) rfl)
theorem mx_X6_read_31 : Cond.methodLink RX6 71 yX6_byteAt ∈ wsX6_read := mb_X6_read_wsX6_read_r2 (List.mem_of_getElem? (i := 6) rfl)
theorem mx_X6_read_32 : Cond.instanceMethod yX6_byteAt ∈ wsX6_read := mb_X6_read_wsX6_read_r2 (List.mem_of_getElem? (i := 7) rfl)
theorem mx_X6_read_33 : Cond.selects RX6 yX6_byteAt yX6_byteAt ∈ wsX6_read := mb_X6_read_wsX6_read_r2 (List.mem_of_getElem? (i := 8) rfl)
theorem mx_X6_read_34 : Cond.code yX6_byteAt cX6_byteAt 2 (some .int) ∈ wsX6_read := mb_X6_read_wsX6_read_r2 (List.mem_of_getElem? (i := 9) rfl)
theorem mx_X6_read_5 : Cond.fieldLink RX6 22 "MillTalk$Tape" "size" "I" ∈ wsX6_read := mb_X6_read_wsX6_read_r1 (List.mem_of_getElem? (i := 4) rfl)
theorem mx_X6_read_35 : Cond.fieldLink RX6 11 "MillTalk$Tape" "bytes" "[I" ∈ wsX6_read := mb_X6_read_wsX6_read_r2 (List.mem_of_getElem? (i := 10) rfl)
theorem mx_X6_read_36 : Cond.methodLink RX6 78 yX6_fail ∈ wsX6_read := mb_X6_read_wsX6_read_r2 (List.mem_of_getElem? (i := 11) rfl)
theorem mx_X6_read_37 : Cond.instanceMethod yX6_fail ∈ wsX6_read := mb_X6_read_wsX6_read_r2 (List.mem_of_getElem? (i := 12) rfl)
theorem mx_X6_read_38 : Cond.selects RX6 yX6_fail yX6_fail ∈ wsX6_read := mb_X6_read_wsX6_read_r2 (List.mem_of_getElem? (i := 13) rfl)
theorem mx_X6_read_39 : Cond.code yX6_fail cX6_fail 2 none ∈ wsX6_read := mb_X6_read_wsX6_read_r2 (List.mem_of_getElem? (i := 14) rfl)
theorem mx_X6_read_1 : Cond.fieldLink RX6 30 "MillTalk$Tape" "fault" "I" ∈ wsX6_read := mb_X6_read_wsX6_read_r1 (List.mem_of_getElem? (i := 0) rfl)
theorem mx_X6_read_2 : Cond.fieldLink RX6 33 "MillTalk$Tape" "faultPlace" "I" ∈ wsX6_read := mb_X6_read_wsX6_read_r1 (List.mem_of_getElem? (i := 1) rfl)
theorem mx_X6_read_40 : Cond.methodLink RX6 55 yX6_readNumber ∈ wsX6_read := mb_X6_read_wsX6_read_r2 (List.mem_of_getElem? (i := 15) rfl)
theorem mx_X6_read_41 : Cond.instanceMethod yX6_readNumber ∈ wsX6_read := mb_X6_read_wsX6_read_r2 (List.mem_of_getElem? (i := 16) rfl)
theorem mx_X6_read_42 : Cond.selects RX6 yX6_readNumber yX6_readNumber ∈ wsX6_read := mb_X6_read_wsX6_read_r2 (List.mem_of_getElem? (i := 17) rfl)
theorem mx_X6_read_43 : Cond.code yX6_readNumber cX6_readNumber 6 (some .int) ∈ wsX6_read := mb_X6_read_wsX6_read_r2 (List.mem_of_getElem? (i := 18) rfl)
theorem mx_X6_read_44 : Cond.methodLink RX6 100 yX6_figuresHere ∈ wsX6_read := mb_X6_read_wsX6_read_r2 (List.mem_of_getElem? (i := 19) rfl)
theorem mx_X6_read_45 : Cond.instanceMethod yX6_figuresHere ∈ wsX6_read := mb_X6_read_wsX6_read_r2 (List.mem_of_getElem? (i := 20) rfl)
theorem mx_X6_read_46 : Cond.selects RX6 yX6_figuresHere yX6_figuresHere ∈ wsX6_read := mb_X6_read_wsX6_read_r2 (List.mem_of_getElem? (i := 21) rfl)
theorem mx_X6_read_47 : Cond.code yX6_figuresHere cX6_figuresHere 2 (some .int) ∈ wsX6_read := mb_X6_read_wsX6_read_r2 (List.mem_of_getElem? (i := 22) rfl)
theorem mx_X6_read_48 : Cond.methodLink RX6 104 yX6_isFigure ∈ wsX6_read := mb_X6_read_wsX6_read_r2 (List.mem_of_getElem? (i := 23) rfl)
theorem mb_X6_read_wsX6_read_r3 {w : Cond} (h : w ∈ wsX6_read_r3) : w ∈ wsX6_read := by unfold wsX6_read; exact List.mem_cons_of_mem _ (List.mem_append_left _ (List.mem_append_left _ (List.mem_append_right _ (List.mem_append_right _ (List.mem_append_left _ (h))))))
theorem mx_X6_read_49 : Cond.static yX6_isFigure ∈ wsX6_read := mb_X6_read_wsX6_read_r3 (List.mem_of_getElem? (i := 0) rfl)
theorem mx_X6_read_50 : Cond.code yX6_isFigure cX6_isFigure 1 (some .boolean) ∈ wsX6_read := mb_X6_read_wsX6_read_r3 (List.mem_of_getElem? (i := 1) rfl)
theorem mb_X6_read_wsX60 {w : Cond} (h : w ∈ wsX60) : w ∈ wsX6_read := by unfold wsX6_read; exact List.mem_cons_of_mem _ (List.mem_append_left _ (List.mem_append_right _ (h)))
theorem ggX6_read_X6_readLaw : GoodIn wsX6_read wsX6_readLaw := goodIn_sub (by unfold wsX6_readLaw; exact List.forall_mem_cons.mpr ⟨mx_X6_read_23, List.forall_mem_append.mpr ⟨List.forall_mem_append.mpr ⟨List.forall_mem_append.mpr ⟨(by unfold wsX6_readLaw_r1; exact List.forall_mem_cons.mpr ⟨mx_X6_read_4, List.forall_mem_cons.mpr ⟨mx_X6_read_24, List.forall_mem_cons.mpr ⟨mx_X6_read_25, List.forall_mem_cons.mpr ⟨mx_X6_read_26, List.forall_mem_cons.mpr ⟨mx_X6_read_27, List.forall_mem_cons.mpr ⟨mx_X6_read_28, List.forall_mem_cons.mpr ⟨mx_X6_read_29, List.forall_mem_cons.mpr ⟨mx_X6_read_22, List.forall_mem_cons.mpr ⟨mx_X6_read_30, List.forall_mem_cons.mpr ⟨mx_X6_read_3, List.forall_mem_cons.mpr ⟨mx_X6_read_31, List.forall_mem_cons.mpr ⟨mx_X6_read_32, List.forall_mem_cons.mpr ⟨mx_X6_read_33, List.forall_mem_cons.mpr ⟨mx_X6_read_34, List.forall_mem_cons.mpr ⟨mx_X6_read_5, List.forall_mem_cons.mpr ⟨mx_X6_read_35, List.forall_mem_cons.mpr ⟨mx_X6_read_36, List.forall_mem_cons.mpr ⟨mx_X6_read_37, List.forall_mem_cons.mpr ⟨mx_X6_read_38, List.forall_mem_cons.mpr ⟨mx_X6_read_39, List.forall_mem_cons.mpr ⟨mx_X6_read_1, List.forall_mem_cons.mpr ⟨mx_X6_read_2, List.forall_mem_cons.mpr ⟨mx_X6_read_40, List.forall_mem_cons.mpr ⟨mx_X6_read_41, fun _ h_ => absurd h_ List.not_mem_nil⟩⟩⟩⟩⟩⟩⟩⟩⟩⟩⟩⟩⟩⟩⟩⟩⟩⟩⟩⟩⟩⟩⟩⟩), (by unfold wsX6_readLaw_r2; exact List.forall_mem_cons.mpr ⟨mx_X6_read_42, List.forall_mem_cons.mpr ⟨mx_X6_read_43, List.forall_mem_cons.mpr ⟨mx_X6_read_44, List.forall_mem_cons.mpr ⟨mx_X6_read_45, List.forall_mem_cons.mpr ⟨mx_X6_read_46, List.forall_mem_cons.mpr ⟨mx_X6_read_47, List.forall_mem_cons.mpr ⟨mx_X6_read_48, List.forall_mem_cons.mpr ⟨mx_X6_read_49, List.forall_mem_cons.mpr ⟨mx_X6_read_50, fun _ h_ => absurd h_ List.not_mem_nil⟩⟩⟩⟩⟩⟩⟩⟩⟩)⟩, (fun _ h_ => mb_X6_read_wsX60 h_)⟩, (fun _ h_ => mb_X6_read_wsX30 h_)⟩⟩) (by decide +kernel)
theorem mx_X6_read_19 : Cond.methodLink RX6 42 yX6_readLaw ∈ wsX6_read := mb_X6_read_wsX6_read_r1 (List.mem_of_getElem? (i := 18) rfl)
theorem mx_X6_read_20 : Cond.instanceMethod yX6_readLaw ∈ wsX6_read := mb_X6_read_wsX6_read_r1 (List.mem_of_getElem? (i := 19) rfl)
theorem mx_X6_read_21 : Cond.selects RX6 yX6_readLaw yX6_readLaw ∈ wsX6_read := mb_X6_read_wsX6_read_r1 (List.mem_of_getElem? (i := 20) rfl)
theorem gX6_read_X6_readLaw : GoodIn wsX6_read (wsV RX6 42 RX6 yX6_readLaw wsX6_readLaw) := goodIn_app (goodIn_sub (List.forall_mem_cons.mpr ⟨mx_X6_read_19, List.forall_mem_cons.mpr ⟨mx_X6_read_20, List.forall_mem_cons.mpr ⟨mx_X6_read_21, List.forall_mem_cons.mpr ⟨mx_X6_read_22, fun _ h_ => absurd h_ List.not_mem_nil⟩⟩⟩⟩) (by decide +kernel)) ggX6_read_X6_readLaw
theorem mx_X6_read_64 : Cond.code yX6_readSounds cX6_readSounds 2 none ∈ wsX6_read := mb_X6_read_wsX6_read_r3 (List.mem_of_getElem? (i := 15) rfl)
theorem mx_X6_read_65 : Cond.methodLink RX6 84 yX6_readSound ∈ wsX6_read := mb_X6_read_wsX6_read_r3 (List.mem_of_getElem? (i := 16) rfl)
theorem mx_X6_read_66 : Cond.instanceMethod yX6_readSound ∈ wsX6_read := mb_X6_read_wsX6_read_r3 (List.mem_of_getElem? (i := 17) rfl)
theorem mx_X6_read_67 : Cond.selects RX6 yX6_readSound yX6_readSound ∈ wsX6_read := mb_X6_read_wsX6_read_r3 (List.mem_of_getElem? (i := 18) rfl)
theorem mx_X6_read_68 : Cond.code yX6_readSound cX6_readSound 4 none ∈ wsX6_read := mb_X6_read_wsX6_read_r3 (List.mem_of_getElem? (i := 19) rfl)
theorem mx_X6_read_69 : Cond.fieldLink RX6 90 "MillTalk$Level" "soundCount" "I" ∈ wsX6_read := mb_X6_read_wsX6_read_r3 (List.mem_of_getElem? (i := 20) rfl)
theorem mx_X6_read_70 : Cond.fieldLink RX6 93 "MillTalk$Level" "kinds" "[I" ∈ wsX6_read := mb_X6_read_wsX6_read_r3 (List.mem_of_getElem? (i := 21) rfl)
theorem mx_X6_read_71 : Cond.methodLink RX6 87 yX6_kindOf ∈ wsX6_read := mb_X6_read_wsX6_read_r3 (List.mem_of_getElem? (i := 22) rfl)
theorem mx_X6_read_72 : Cond.static yX6_kindOf ∈ wsX6_read := mb_X6_read_wsX6_read_r3 (List.mem_of_getElem? (i := 23) rfl)
theorem mb_X6_read_wsX6_read_r4 {w : Cond} (h : w ∈ wsX6_read_r4) : w ∈ wsX6_read := by unfold wsX6_read; exact List.mem_cons_of_mem _ (List.mem_append_left _ (List.mem_append_left _ (List.mem_append_right _ (List.mem_append_right _ (List.mem_append_right _ (h))))))
theorem mx_X6_read_73 : Cond.code yX6_kindOf cX6_kindOf 1 (some .int) ∈ wsX6_read := mb_X6_read_wsX6_read_r4 (List.mem_of_getElem? (i := 0) rfl)
theorem mx_X6_read_74 : Cond.methodLink RX6 96 yX3_letLoose ∈ wsX6_read := mb_X6_read_wsX6_read_r4 (List.mem_of_getElem? (i := 1) rfl)
theorem mx_X6_read_75 : Cond.instanceMethod yX3_letLoose ∈ wsX6_read := mb_X6_read_wsX6_read_r4 (List.mem_of_getElem? (i := 2) rfl)
theorem mx_X6_read_76 : Cond.selects RX3 yX3_letLoose yX3_letLoose ∈ wsX6_read := mb_X6_read_wsX6_read_r4 (List.mem_of_getElem? (i := 3) rfl)
theorem mx_X6_read_77 : Cond.code yX3_letLoose cX3_letLoose 4 none ∈ wsX6_read := mb_X6_read_wsX6_read_r4 (List.mem_of_getElem? (i := 4) rfl)
theorem mx_X6_read_78 : Cond.fieldLink RX3 18 "MillTalk$Level" "places" "[I" ∈ wsX6_read := mb_X6_read_wsX6_read_r4 (List.mem_of_getElem? (i := 5) rfl)
theorem mx_X6_read_79 : Cond.fieldLink RX3 21 "MillTalk$Level" "louds" "[I" ∈ wsX6_read := mb_X6_read_wsX6_read_r4 (List.mem_of_getElem? (i := 6) rfl)
theorem mx_X6_read_80 : Cond.fieldLink RX3 24 "MillTalk$Level" "hows" "[I" ∈ wsX6_read := mb_X6_read_wsX6_read_r4 (List.mem_of_getElem? (i := 7) rfl)
theorem ggX6_read_X6_readSounds : GoodIn wsX6_read wsX6_readSounds := goodIn_sub (by unfold wsX6_readSounds; exact List.forall_mem_cons.mpr ⟨mx_X6_read_64, List.forall_mem_append.mpr ⟨List.forall_mem_append.mpr ⟨List.forall_mem_append.mpr ⟨(by unfold wsX6_readSounds_r1; exact List.forall_mem_cons.mpr ⟨mx_X6_read_1, List.forall_mem_cons.mpr ⟨mx_X6_read_3, List.forall_mem_cons.mpr ⟨mx_X6_read_65, List.forall_mem_cons.mpr ⟨mx_X6_read_66, List.forall_mem_cons.mpr ⟨mx_X6_read_67, List.forall_mem_cons.mpr ⟨mx_X6_read_22, List.forall_mem_cons.mpr ⟨mx_X6_read_68, List.forall_mem_cons.mpr ⟨mx_X6_read_4, List.forall_mem_cons.mpr ⟨mx_X6_read_69, List.forall_mem_cons.mpr ⟨mx_X6_read_24, List.forall_mem_cons.mpr ⟨mx_X6_read_70, List.forall_mem_cons.mpr ⟨mx_X6_read_31, List.forall_mem_cons.mpr ⟨mx_X6_read_32, List.forall_mem_cons.mpr ⟨mx_X6_read_33, List.forall_mem_cons.mpr ⟨mx_X6_read_34, List.forall_mem_cons.mpr ⟨mx_X6_read_5, List.forall_mem_cons.mpr ⟨mx_X6_read_35, List.forall_mem_cons.mpr ⟨mx_X6_read_71, List.forall_mem_cons.mpr ⟨mx_X6_read_72, List.forall_mem_cons.mpr ⟨mx_X6_read_73, List.forall_mem_cons.mpr ⟨mx_X6_read_36, List.forall_mem_cons.mpr ⟨mx_X6_read_37, List.forall_mem_cons.mpr ⟨mx_X6_read_38, List.forall_mem_cons.mpr ⟨mx_X6_read_39, fun _ h_ => absurd h_ List.not_mem_nil⟩⟩⟩⟩⟩⟩⟩⟩⟩⟩⟩⟩⟩⟩⟩⟩⟩⟩⟩⟩⟩⟩⟩⟩), (by unfold wsX6_readSounds_r2; exact List.forall_mem_cons.mpr ⟨mx_X6_read_2, List.forall_mem_cons.mpr ⟨mx_X6_read_40, List.forall_mem_cons.mpr ⟨mx_X6_read_41, List.forall_mem_cons.mpr ⟨mx_X6_read_42, List.forall_mem_cons.mpr ⟨mx_X6_read_43, List.forall_mem_cons.mpr ⟨mx_X6_read_44, List.forall_mem_cons.mpr ⟨mx_X6_read_45, List.forall_mem_cons.mpr ⟨mx_X6_read_46, List.forall_mem_cons.mpr ⟨mx_X6_read_47, List.forall_mem_cons.mpr ⟨mx_X6_read_48, List.forall_mem_cons.mpr ⟨mx_X6_read_49, List.forall_mem_cons.mpr ⟨mx_X6_read_50, List.forall_mem_cons.mpr ⟨mx_X6_read_27, List.forall_mem_cons.mpr ⟨mx_X6_read_28, List.forall_mem_cons.mpr ⟨mx_X6_read_29, List.forall_mem_cons.mpr ⟨mx_X6_read_30, List.forall_mem_cons.mpr ⟨mx_X6_read_74, List.forall_mem_cons.mpr ⟨mx_X6_read_75, List.forall_mem_cons.mpr ⟨mx_X6_read_76, List.forall_mem_cons.mpr ⟨mx_X6_read_9, List.forall_mem_cons.mpr ⟨mx_X6_read_77, List.forall_mem_cons.mpr ⟨mx_X6_read_78, List.forall_mem_cons.mpr ⟨mx_X6_read_79, List.forall_mem_cons.mpr ⟨mx_X6_read_80, fun _ h_ => absurd h_ List.not_mem_nil⟩⟩⟩⟩⟩⟩⟩⟩⟩⟩⟩⟩⟩⟩⟩⟩⟩⟩⟩⟩⟩⟩⟩⟩)⟩, (fun _ h_ => mb_X6_read_wsX60 h_)⟩, (fun _ h_ => mb_X6_read_wsX30 h_)⟩⟩) (by decide +kernel)
theorem mx_X6_read_61 : Cond.methodLink RX6 48 yX6_readSounds ∈ wsX6_read := mb_X6_read_wsX6_read_r3 (List.mem_of_getElem? (i := 12) rfl)
theorem mx_X6_read_62 : Cond.instanceMethod yX6_readSounds ∈ wsX6_read := mb_X6_read_wsX6_read_r3 (List.mem_of_getElem? (i := 13) rfl)
theorem mx_X6_read_63 : Cond.selects RX6 yX6_readSounds yX6_readSounds ∈ wsX6_read := mb_X6_read_wsX6_read_r3 (List.mem_of_getElem? (i := 14) rfl)
theorem gX6_read_X6_readSounds : GoodIn wsX6_read (wsV RX6 48 RX6 yX6_readSounds wsX6_readSounds) := goodIn_app (goodIn_sub (List.forall_mem_cons.mpr ⟨mx_X6_read_61, List.forall_mem_cons.mpr ⟨mx_X6_read_62, List.forall_mem_cons.mpr ⟨mx_X6_read_63, List.forall_mem_cons.mpr ⟨mx_X6_read_22, fun _ h_ => absurd h_ List.not_mem_nil⟩⟩⟩⟩) (by decide +kernel)) ggX6_read_X6_readSounds
theorem mx_X6_read_54 : Cond.code yX6_readWinds cX6_readWinds 2 none ∈ wsX6_read := mb_X6_read_wsX6_read_r3 (List.mem_of_getElem? (i := 5) rfl)
theorem mx_X6_read_55 : Cond.methodLink RX6 68 yX6_readWind ∈ wsX6_read := mb_X6_read_wsX6_read_r3 (List.mem_of_getElem? (i := 6) rfl)
theorem mx_X6_read_56 : Cond.instanceMethod yX6_readWind ∈ wsX6_read := mb_X6_read_wsX6_read_r3 (List.mem_of_getElem? (i := 7) rfl)
theorem mx_X6_read_57 : Cond.selects RX6 yX6_readWind yX6_readWind ∈ wsX6_read := mb_X6_read_wsX6_read_r3 (List.mem_of_getElem? (i := 8) rfl)
theorem mx_X6_read_58 : Cond.code yX6_readWind cX6_readWind 2 none ∈ wsX6_read := mb_X6_read_wsX6_read_r3 (List.mem_of_getElem? (i := 9) rfl)
theorem mx_X6_read_59 : Cond.fieldLink RX6 75 "MillTalk$Level" "windCount" "I" ∈ wsX6_read := mb_X6_read_wsX6_read_r3 (List.mem_of_getElem? (i := 10) rfl)
theorem mx_X6_read_60 : Cond.fieldLink RX6 81 "MillTalk$Level" "winds" "[I" ∈ wsX6_read := mb_X6_read_wsX6_read_r3 (List.mem_of_getElem? (i := 11) rfl)
theorem ggX6_read_X6_readWinds : GoodIn wsX6_read wsX6_readWinds := goodIn_sub (by unfold wsX6_readWinds; exact List.forall_mem_cons.mpr ⟨mx_X6_read_54, List.forall_mem_append.mpr ⟨List.forall_mem_append.mpr ⟨List.forall_mem_append.mpr ⟨(by unfold wsX6_readWinds_r1; exact List.forall_mem_cons.mpr ⟨mx_X6_read_1, List.forall_mem_cons.mpr ⟨mx_X6_read_3, List.forall_mem_cons.mpr ⟨mx_X6_read_55, List.forall_mem_cons.mpr ⟨mx_X6_read_56, List.forall_mem_cons.mpr ⟨mx_X6_read_57, List.forall_mem_cons.mpr ⟨mx_X6_read_22, List.forall_mem_cons.mpr ⟨mx_X6_read_58, List.forall_mem_cons.mpr ⟨mx_X6_read_4, List.forall_mem_cons.mpr ⟨mx_X6_read_59, List.forall_mem_cons.mpr ⟨mx_X6_read_60, List.forall_mem_cons.mpr ⟨mx_X6_read_31, List.forall_mem_cons.mpr ⟨mx_X6_read_32, List.forall_mem_cons.mpr ⟨mx_X6_read_33, List.forall_mem_cons.mpr ⟨mx_X6_read_34, List.forall_mem_cons.mpr ⟨mx_X6_read_5, List.forall_mem_cons.mpr ⟨mx_X6_read_35, List.forall_mem_cons.mpr ⟨mx_X6_read_36, List.forall_mem_cons.mpr ⟨mx_X6_read_37, List.forall_mem_cons.mpr ⟨mx_X6_read_38, List.forall_mem_cons.mpr ⟨mx_X6_read_39, List.forall_mem_cons.mpr ⟨mx_X6_read_2, List.forall_mem_cons.mpr ⟨mx_X6_read_27, List.forall_mem_cons.mpr ⟨mx_X6_read_28, List.forall_mem_cons.mpr ⟨mx_X6_read_29, fun _ h_ => absurd h_ List.not_mem_nil⟩⟩⟩⟩⟩⟩⟩⟩⟩⟩⟩⟩⟩⟩⟩⟩⟩⟩⟩⟩⟩⟩⟩⟩), (by unfold wsX6_readWinds_r2; exact List.forall_mem_cons.mpr ⟨mx_X6_read_30, List.forall_mem_cons.mpr ⟨mx_X6_read_40, List.forall_mem_cons.mpr ⟨mx_X6_read_41, List.forall_mem_cons.mpr ⟨mx_X6_read_42, List.forall_mem_cons.mpr ⟨mx_X6_read_43, List.forall_mem_cons.mpr ⟨mx_X6_read_44, List.forall_mem_cons.mpr ⟨mx_X6_read_45, List.forall_mem_cons.mpr ⟨mx_X6_read_46, List.forall_mem_cons.mpr ⟨mx_X6_read_47, List.forall_mem_cons.mpr ⟨mx_X6_read_48, List.forall_mem_cons.mpr ⟨mx_X6_read_49, List.forall_mem_cons.mpr ⟨mx_X6_read_50, fun _ h_ => absurd h_ List.not_mem_nil⟩⟩⟩⟩⟩⟩⟩⟩⟩⟩⟩⟩)⟩, (fun _ h_ => mb_X6_read_wsX60 h_)⟩, (fun _ h_ => mb_X6_read_wsX30 h_)⟩⟩) (by decide +kernel)
theorem mx_X6_read_51 : Cond.methodLink RX6 45 yX6_readWinds ∈ wsX6_read := mb_X6_read_wsX6_read_r3 (List.mem_of_getElem? (i := 2) rfl)
theorem mx_X6_read_52 : Cond.instanceMethod yX6_readWinds ∈ wsX6_read := mb_X6_read_wsX6_read_r3 (List.mem_of_getElem? (i := 3) rfl)
theorem mx_X6_read_53 : Cond.selects RX6 yX6_readWinds yX6_readWinds ∈ wsX6_read := mb_X6_read_wsX6_read_r3 (List.mem_of_getElem? (i := 4) rfl)
theorem gX6_read_X6_readWinds : GoodIn wsX6_read (wsV RX6 45 RX6 yX6_readWinds wsX6_readWinds) := goodIn_app (goodIn_sub (List.forall_mem_cons.mpr ⟨mx_X6_read_51, List.forall_mem_cons.mpr ⟨mx_X6_read_52, List.forall_mem_cons.mpr ⟨mx_X6_read_53, List.forall_mem_cons.mpr ⟨mx_X6_read_22, fun _ h_ => absurd h_ List.not_mem_nil⟩⟩⟩⟩) (by decide +kernel)) ggX6_read_X6_readWinds
theorem i_X6_append_X6 : ∀ w ∈ u_ws RX6 TX6 6, w ∈ wsX6_append := fun _ h_ => mb_X6_append_wsX60 h_
theorem mb_X6_byteAt_wsX60 {w : Cond} (h : w ∈ wsX60) : w ∈ wsX6_byteAt := by unfold wsX6_byteAt; exact List.mem_cons_of_mem _ (List.mem_append_right _ (h))
theorem i_X6_byteAt_X6 : ∀ w ∈ u_ws RX6 TX6 6, w ∈ wsX6_byteAt := fun _ h_ => mb_X6_byteAt_wsX60 h_
theorem mb_X6_fail_wsX60 {w : Cond} (h : w ∈ wsX60) : w ∈ wsX6_fail := by unfold wsX6_fail; exact List.mem_cons_of_mem _ (List.mem_append_right _ (h))
theorem i_X6_fail_X6 : ∀ w ∈ u_ws RX6 TX6 6, w ∈ wsX6_fail := fun _ h_ => mb_X6_fail_wsX60 h_
theorem i_X6_figuresHere_X6 : ∀ w ∈ u_ws RX6 TX6 6, w ∈ wsX6_figuresHere := fun _ h_ => mb_X6_figuresHere_wsX60 h_
theorem mb_X6_isFull_wsX60 {w : Cond} (h : w ∈ wsX60) : w ∈ wsX6_isFull := by unfold wsX6_isFull; exact List.mem_cons_of_mem _ (List.mem_append_right _ (h))
theorem i_X6_isFull_X6 : ∀ w ∈ u_ws RX6 TX6 6, w ∈ wsX6_isFull := fun _ h_ => mb_X6_isFull_wsX60 h_
theorem i_X6_read_X6 : ∀ w ∈ u_ws RX6 TX6 6, w ∈ wsX6_read := fun _ h_ => mb_X6_read_wsX60 h_
theorem i_X6_readByte_X6 : ∀ w ∈ u_ws RX6 TX6 6, w ∈ wsX6_readByte := fun _ h_ => mb_X6_readByte_wsX60 h_
theorem mb_X6_readLaw_wsX30 {w : Cond} (h : w ∈ wsX30) : w ∈ wsX6_readLaw := by unfold wsX6_readLaw; exact List.mem_cons_of_mem _ (List.mem_append_right _ (h))
theorem i_X6_readLaw_X3 : ∀ w ∈ u_ws RX3 TX3 13, w ∈ wsX6_readLaw := fun _ h_ => mb_X6_readLaw_wsX30 h_
theorem i_X6_readLaw_X6 : ∀ w ∈ u_ws RX6 TX6 6, w ∈ wsX6_readLaw := fun _ h_ => mb_X6_readLaw_wsX60 h_
theorem i_X6_readNumber_X6 : ∀ w ∈ u_ws RX6 TX6 6, w ∈ wsX6_readNumber := fun _ h_ => mb_X6_readNumber_wsX60 h_
theorem i_X6_readSound_X3 : ∀ w ∈ u_ws RX3 TX3 13, w ∈ wsX6_readSound := fun _ h_ => mb_X6_readSound_wsX30 h_
theorem i_X6_readSound_X6 : ∀ w ∈ u_ws RX6 TX6 6, w ∈ wsX6_readSound := fun _ h_ => mb_X6_readSound_wsX60 h_
theorem i_X6_readSounds_X6 : ∀ w ∈ u_ws RX6 TX6 6, w ∈ wsX6_readSounds := fun _ h_ => mb_X6_readSounds_wsX60 h_
theorem mb_X6_readWind_wsX30 {w : Cond} (h : w ∈ wsX30) : w ∈ wsX6_readWind := by unfold wsX6_readWind; exact List.mem_cons_of_mem _ (List.mem_append_right _ (h))
theorem i_X6_readWind_X3 : ∀ w ∈ u_ws RX3 TX3 13, w ∈ wsX6_readWind := fun _ h_ => mb_X6_readWind_wsX30 h_
theorem i_X6_readWind_X6 : ∀ w ∈ u_ws RX6 TX6 6, w ∈ wsX6_readWind := fun _ h_ => mb_X6_readWind_wsX60 h_
theorem i_X6_readWinds_X6 : ∀ w ∈ u_ws RX6 TX6 6, w ∈ wsX6_readWinds := fun _ h_ => mb_X6_readWinds_wsX60 h_
theorem mx_X6_isFull_1 : Cond.fieldLink RX6 22 "MillTalk$Tape" "size" "I" ∈ wsX6_isFull := by unfold wsX6_isFull; exact List.mem_cons_of_mem _ (List.mem_append_left _ (List.mem_of_getElem? (i := 0) rfl))
theorem mx_X6_append_1 : Cond.fieldLink RX6 11 "MillTalk$Tape" "bytes" "[I" ∈ wsX6_append := by unfold wsX6_append; exact List.mem_cons_of_mem _ (List.mem_append_left _ (List.mem_of_getElem? (i := 0) rfl))
theorem mx_X6_byteAt_1 : Cond.fieldLink RX6 22 "MillTalk$Tape" "size" "I" ∈ wsX6_byteAt := by unfold wsX6_byteAt; exact List.mem_cons_of_mem _ (List.mem_append_left _ (List.mem_of_getElem? (i := 0) rfl))
theorem mx_X6_byteAt_2 : Cond.fieldLink RX6 11 "MillTalk$Tape" "bytes" "[I" ∈ wsX6_byteAt := by unfold wsX6_byteAt; exact List.mem_cons_of_mem _ (List.mem_append_left _ (List.mem_of_getElem? (i := 1) rfl))
theorem mx_X6_figuresHere_1 : Cond.fieldLink RX6 36 "MillTalk$Tape" "place" "I" ∈ wsX6_figuresHere := by unfold wsX6_figuresHere; exact List.mem_cons_of_mem _ (List.mem_append_left _ (List.mem_of_getElem? (i := 0) rfl))
theorem mx_X6_fail_1 : Cond.fieldLink RX6 30 "MillTalk$Tape" "fault" "I" ∈ wsX6_fail := by unfold wsX6_fail; exact List.mem_cons_of_mem _ (List.mem_append_left _ (List.mem_of_getElem? (i := 0) rfl))
theorem mx_X6_fail_2 : Cond.fieldLink RX6 36 "MillTalk$Tape" "place" "I" ∈ wsX6_fail := by unfold wsX6_fail; exact List.mem_cons_of_mem _ (List.mem_append_left _ (List.mem_of_getElem? (i := 1) rfl))
theorem mx_X6_fail_3 : Cond.fieldLink RX6 33 "MillTalk$Tape" "faultPlace" "I" ∈ wsX6_fail := by unfold wsX6_fail; exact List.mem_cons_of_mem _ (List.mem_append_left _ (List.mem_of_getElem? (i := 2) rfl))
theorem mx_X6_readLaw_1 : Cond.fieldLink RX6 18 "MillTalk$Tape" "told" "LMillTalk$Level;" ∈ wsX6_readLaw := mb_X6_readLaw_wsX6_readLaw_r1 (List.mem_of_getElem? (i := 0) rfl)
theorem mx_X6_readLaw_2 : Cond.fieldLink RX6 59 "MillTalk$Level" "cells" "I" ∈ wsX6_readLaw := mb_X6_readLaw_wsX6_readLaw_r1 (List.mem_of_getElem? (i := 1) rfl)
theorem mx_X6_readLaw_3 : Cond.fieldLink RX6 62 "MillTalk$Level" "mill" "I" ∈ wsX6_readLaw := mb_X6_readLaw_wsX6_readLaw_r1 (List.mem_of_getElem? (i := 2) rfl)
theorem mx_X6_readLaw_4 : Cond.fieldLink RX6 65 "MillTalk$Level" "reach" "I" ∈ wsX6_readLaw := mb_X6_readLaw_wsX6_readLaw_r1 (List.mem_of_getElem? (i := 3) rfl)
theorem mx_X6_readWind_3 : Cond.fieldLink RX6 18 "MillTalk$Tape" "told" "LMillTalk$Level;" ∈ wsX6_readWind := mb_X6_readWind_wsX6_readWind_r1 (List.mem_of_getElem? (i := 2) rfl)
theorem mx_X6_readWind_5 : Cond.fieldLink RX6 81 "MillTalk$Level" "winds" "[I" ∈ wsX6_readWind := mb_X6_readWind_wsX6_readWind_r1 (List.mem_of_getElem? (i := 4) rfl)
theorem mx_X6_readWind_4 : Cond.fieldLink RX6 75 "MillTalk$Level" "windCount" "I" ∈ wsX6_readWind := mb_X6_readWind_wsX6_readWind_r1 (List.mem_of_getElem? (i := 3) rfl)
theorem mx_X6_readSound_2 : Cond.fieldLink RX6 18 "MillTalk$Tape" "told" "LMillTalk$Level;" ∈ wsX6_readSound := mb_X6_readSound_wsX6_readSound_r1 (List.mem_of_getElem? (i := 1) rfl)
theorem mx_X6_readSound_3 : Cond.fieldLink RX6 90 "MillTalk$Level" "soundCount" "I" ∈ wsX6_readSound := mb_X6_readSound_wsX6_readSound_r1 (List.mem_of_getElem? (i := 2) rfl)
theorem mx_X6_readSound_4 : Cond.fieldLink RX6 59 "MillTalk$Level" "cells" "I" ∈ wsX6_readSound := mb_X6_readSound_wsX6_readSound_r1 (List.mem_of_getElem? (i := 3) rfl)
theorem mx_X6_readSound_6 : Cond.fieldLink RX6 93 "MillTalk$Level" "kinds" "[I" ∈ wsX6_readSound := mb_X6_readSound_wsX6_readSound_r1 (List.mem_of_getElem? (i := 5) rfl)
