set_option maxHeartbeats 4000000 in
set_option maxRecDepth 100000 in
theorem c_J7_fill (l : Launch) (dC : Nat → ClassId) (dI : Nat → Nat → Nat) (cI cZ cL cJ : ClassId) (sz : Nat) (a : Nat) (n : Nat) (f : Nat → Int32) (v : Int32) (hn : n < 2 ^ 31) : Met l yJ7_fill_53178 wsJ7_fill_53178 ({ frames := 0, cells := 0, slots := 0, locals := 0 }) (va_Pc [.ref a, .int v] (fun U => U.heap.size = sz ∧ va_P (dC, dI) vwCl [(a, .inl (cI, n, .inl f))] U.heap ∧ va_K (dC, dI) vwCl [(cI, .int), (cZ, .boolean), (cL, .object RX3), (cJ, .array .int)] U ∧ va_D (fun _ => True) [(a, .inl (cI, n, .inl f))])) (va_Qv (fun (_ : Unit) => True) (fun (_ : Unit) t => ∃ (g : Nat → Int32), va_P (dC, dI) vwCl [(a, .inl (cI, n, .inl g))] t.heap ∧ va_D (va_A [(a, .inl (cI, n, .inl f))] sz) [(a, .inl (cI, n, .inl g))] ∧ (∀ j : Nat, j < n → g j = v)) (va_A [(a, .inl (cI, n, .inl f))] sz)) 0 0 (va_A [(a, .inl (cI, n, .inl f))] sz) := by
  refine Met.ofW (cc := cJ7_fill_53178) (maxL := 4) (ret := none) (by decide) rfl ?_
  intro p e s m args below meth c s₁ B hml hv
  obtain ⟨rfl, hsz, hP, hK, hD0⟩ := hv
  have hx := B.exec
  have hb := B.bytes
  have hr := B.returns
  have hts := atoms_spec (ws := wsJ7_fill_53178) B.pre
  have hown : s.vm.findClass RJ7 = some m.cls := findClass_of_methodNamed B.named
  have hlocks := B.notSynchronized
  subst hsz
  have hD := hD0.self (sz := s.heap.size)
  generalize hAe : va_A [(a, .inl (cI, n, .inl f))] s.heap.size = A at hD ⊢
  have hA : ∀ q : Nat, s.heap.size ≤ q → A q := fun q h => by rw [← hAe]; exact Or.inr h
  have hS : va_S A s.heap s.heap [] := va_S.rf
  have hP : va_P (dC, dI) vwCl [(a, .inl (cI, n, .inl f))] s.heap := hP
  have hl := lv_entry ([.ref a, .int v]) (n := 4) (Nat.le_of_ble_eq_true rfl)
  rw [lg_entry_eq]
  generalize (lg_sl ([.ref a, .int v]) ++ List.replicate (4 - (lg_sl ([.ref a, .int v])).length) Slot.unset).toArray = ls at hl ⊢
  have hl : lv_has ls 4 [(0, .ref a), (1, .int v)] := hl
  refine lv_iconst (v := 0) hx hb dJ7_fill_53178_0 (by decide) ?_
  refine lv_istore_n (lv' := [(2, .int 0), (0, .ref a), (1, .int v)]) hx hb dJ7_fill_53178_1 rfl hl (by decide) rfl (fun ls hl => ?_)
  refine lv_aload_n hx hb dJ7_fill_53178_2 rfl (lv_at hl 1 rfl) ?_
  refine va_alen (v := nI n) hx hb hK hP 0 0 rfl rfl rfl dJ7_fill_53178_3 ?_
  refine lv_istore_n (lv' := [(3, .int (nI n)), (2, .int 0), (0, .ref a), (1, .int v)]) hx hb dJ7_fill_53178_4 rfl hl (by decide) rfl (fun ls hl => ?_)
  have hP := hP.sub (ws' := [(a, .inl (cI, n, .inl f))]) [0] rfl
  have hD := hD.sub (ws' := [(a, .inl (cI, n, .inl f))]) [0] (by decide) rfl
  refine lp_go (σ := Nat → Int32) (fun i ff H locs ls => va_P (dC, dI) vwCl [(a, .inl (cI, n, .inl ff))] H ∧ va_D A [(a, .inl (cI, n, .inl ff))] ∧ va_S A s.heap H locs ∧ lv_has ls 4 [(3, .int (nI n)), (2, .int (nI i)), (0, .ref a), (1, .int v)] ∧ (∀ j : Nat, j < i → ff j = v)) n ?_ ?_ 0 (Nat.zero_le _) f ⟨hP, hD, hS, hl, fun j h => absurd h (Nat.not_lt_zero j)⟩
  · rintro i ff H locs ls hi ⟨hP, hD, hS, hl, hff⟩ ih
    refine lv_iload_n hx hb dJ7_fill_53178_5 rfl (lv_at hl 1 rfl) ?_
    refine lv_iload_n hx hb dJ7_fill_53178_6 rfl (lv_at hl 0 rfl) ?_
    refine lv_icmp_ge (tgt := 20) hx hb dJ7_fill_53178_7 (by decide) (fun c_ => absurd c_ (nI_ge hi hn)) (fun _ => ?_)
    refine lv_aload_n hx hb dJ7_fill_53178_10 rfl (lv_at hl 2 rfl) ?_
    refine lv_iload_n hx hb dJ7_fill_53178_11 rfl (lv_at hl 1 rfl) ?_
    refine lv_iload_n hx hb dJ7_fill_53178_12 rfl (lv_at hl 3 rfl) ?_
    refine va_iast hx hb hK hP hD hS 0 0 rfl rfl (vp_in_nI hi hn) dJ7_fill_53178_13 (fun H locs hP hD hS => ?_)
    generalize hg_2 : upd ff ((nI i) : Int32).toNatClampNeg v = g_2 at hP hD
    have hP : va_P (dC, dI) vwCl [(a, .inl (cI, n, .inl g_2))] H := hP
    have hD : va_D A [(a, .inl (cI, n, .inl g_2))] := hD
    refine lv_iinc (v := (nI (i + 1))) (lv' := [(2, .int (nI (i + 1))), (3, .int (nI n)), (0, .ref a), (1, .int v)]) hx hb dJ7_fill_53178_14 hl (k := 1) rfl (nI_1 i) (by decide) rfl (fun ls hl => ?_)
    refine lv_goto (tgt := 5) hx hb dJ7_fill_53178_17 (by decide) ?_
    have hff2 := fl_step (Nat.lt_trans hi hn) hff
    rw [hg_2] at hff2
    exact ih g_2 H locs ls ⟨hP.sub (ws' := [(a, .inl (cI, n, .inl g_2))]) [0] rfl, hD.sub (ws' := [(a, .inl (cI, n, .inl g_2))]) [0] (by decide) rfl, hS, lv_sub hl [1, 0, 2, 3] rfl, hff2⟩
  · rintro ff H locs ls ⟨hP, hD, hS, hl, hff⟩
    refine lv_iload_n hx hb dJ7_fill_53178_5 rfl (lv_at hl 1 rfl) ?_
    refine lv_iload_n hx hb dJ7_fill_53178_6 rfl (lv_at hl 0 rfl) ?_
    refine lv_icmp_ge (tgt := 20) hx hb dJ7_fill_53178_7 (by decide) (fun _ => ?_) (fun c_ => absurd (nI_le (Nat.le_refl n) hn) c_)
    have hP9 := hP.sub (ws' := [(a, .inl (cI, n, .inl ff))]) [0] rfl
    have hD9 := hD.sub (ws' := [(a, .inl (cI, n, .inl ff))]) [0] (by decide) rfl
    exact W.vret hx hb hr (fun t ht hW => ⟨⟨(), rfl, trivial, ⟨ff, by rw [ht]; exact hP9, hD9, hff⟩⟩, hS.F ht⟩) hS.2.2 dJ7_fill_53178_20
