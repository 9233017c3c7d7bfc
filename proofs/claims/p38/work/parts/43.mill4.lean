theorem lf_X7_feed_1 {z : Nat} {fb : Nat → Int32} {k0 : Int32} (hz : z ≤ 120) (hokT : okT fb z) (c_1 : k0 < 0) : z ≤ 120 := by
  first
  | with_reducible exact hokT
  | with_reducible exact fd_z (Or.inl c_1)
  | with_reducible exact fd_b (Or.inl c_1)
  | with_reducible exact fd_a (Or.inl c_1)
  | omega
theorem lf_X7_feed_2 {z : Nat} {fb : Nat → Int32} {k0 : Int32} (hz : z ≤ 120) (hokT : okT fb z) (c_1 : k0 < 0) : z = sf_z z k0 := by
  first
  | with_reducible exact hokT
  | with_reducible exact fd_z (Or.inl c_1)
  | with_reducible exact fd_b (Or.inl c_1)
  | with_reducible exact fd_a (Or.inl c_1)
  | omega
theorem lf_X7_feed_3 {z : Nat} {fb : Nat → Int32} {k0 : Int32} (hz : z ≤ 120) (hokT : okT fb z) (c_1 : k0 < 0) : fb = sf_b fb z k0 := by
  first
  | with_reducible exact hokT
  | with_reducible exact fd_z (Or.inl c_1)
  | with_reducible exact fd_b (Or.inl c_1)
  | with_reducible exact fd_a (Or.inl c_1)
  | omega
theorem lf_X7_feed_4 {z : Nat} {fb : Nat → Int32} {k0 : Int32} (hz : z ≤ 120) (hokT : okT fb z) (c_1 : k0 < 0) : okT fb z := by
  first
  | with_reducible exact hokT
  | with_reducible exact fd_z (Or.inl c_1)
  | with_reducible exact fd_b (Or.inl c_1)
  | with_reducible exact fd_a (Or.inl c_1)
  | omega
theorem lf_X7_feed_5 {z : Nat} {fb : Nat → Int32} {k0 : Int32} (hz : z ≤ 120) (hokT : okT fb z) (c_1 : k0 < 0) : (-1000001) = (an_fd z k0) := by
  first
  | with_reducible exact hokT
  | with_reducible exact fd_z (Or.inl c_1)
  | with_reducible exact fd_b (Or.inl c_1)
  | with_reducible exact fd_a (Or.inl c_1)
  | omega
theorem lf_X7_feed_6 {z : Nat} {fb : Nat → Int32} {k0 : Int32} {zn_5 : Nat} {fbn_5 : Nat → Int32} {r_5 : Int32} (hz : z ≤ 120) (hokT : okT fb z) (c_1 : ¬ (k0 < 0)) (c_2 : k0 ≤ 255) (f_3_0_0 : z < 120) (hF_5_0 : zn_5 ≤ 120) (hF_5_1 : zn_5 = apz z) (hF_5_2 : fbn_5 = apb fb z k0) (h_5 : r_5 = (nI (apz z))) : zn_5 ≤ 120 := by
  first
  | with_reducible exact hokT
  | with_reducible exact fd_z (Or.inl c_1)
  | with_reducible exact fd_b (Or.inl c_1)
  | with_reducible exact fd_a (Or.inl c_1)
  | with_reducible exact fd_Z c_1 c_2 f_3_0_0 hF_5_1
  | with_reducible exact fd_B c_1 c_2 f_3_0_0 hF_5_2
  | with_reducible exact fd_T c_1 c_2 f_3_0_0 hF_5_1 hF_5_2 hokT
  | with_reducible exact fd_A c_1 c_2 f_3_0_0 h_5
  | with_reducible exact fd_z (Or.inr (Or.inl c_2))
  | with_reducible exact fd_b (Or.inr (Or.inl c_2))
  | with_reducible exact fd_a (Or.inr c_2)
  | omega
theorem lf_X7_feed_7 {z : Nat} {fb : Nat → Int32} {k0 : Int32} {zn_5 : Nat} {fbn_5 : Nat → Int32} {r_5 : Int32} (hz : z ≤ 120) (hokT : okT fb z) (c_1 : ¬ (k0 < 0)) (c_2 : k0 ≤ 255) (f_3_0_0 : z < 120) (hF_5_0 : zn_5 ≤ 120) (hF_5_1 : zn_5 = apz z) (hF_5_2 : fbn_5 = apb fb z k0) (h_5 : r_5 = (nI (apz z))) : zn_5 = sf_z z k0 := by
  first
  | with_reducible exact hokT
  | with_reducible exact fd_z (Or.inl c_1)
  | with_reducible exact fd_b (Or.inl c_1)
  | with_reducible exact fd_a (Or.inl c_1)
  | with_reducible exact fd_Z c_1 c_2 f_3_0_0 hF_5_1
  | with_reducible exact fd_B c_1 c_2 f_3_0_0 hF_5_2
  | with_reducible exact fd_T c_1 c_2 f_3_0_0 hF_5_1 hF_5_2 hokT
  | with_reducible exact fd_A c_1 c_2 f_3_0_0 h_5
  | with_reducible exact fd_z (Or.inr (Or.inl c_2))
  | with_reducible exact fd_b (Or.inr (Or.inl c_2))
  | with_reducible exact fd_a (Or.inr c_2)
  | omega
theorem lf_X7_feed_8 {z : Nat} {fb : Nat → Int32} {k0 : Int32} {zn_5 : Nat} {fbn_5 : Nat → Int32} {r_5 : Int32} (hz : z ≤ 120) (hokT : okT fb z) (c_1 : ¬ (k0 < 0)) (c_2 : k0 ≤ 255) (f_3_0_0 : z < 120) (hF_5_0 : zn_5 ≤ 120) (hF_5_1 : zn_5 = apz z) (hF_5_2 : fbn_5 = apb fb z k0) (h_5 : r_5 = (nI (apz z))) : fbn_5 = sf_b fb z k0 := by
  first
  | with_reducible exact hokT
  | with_reducible exact fd_z (Or.inl c_1)
  | with_reducible exact fd_b (Or.inl c_1)
  | with_reducible exact fd_a (Or.inl c_1)
  | with_reducible exact fd_Z c_1 c_2 f_3_0_0 hF_5_1
  | with_reducible exact fd_B c_1 c_2 f_3_0_0 hF_5_2
  | with_reducible exact fd_T c_1 c_2 f_3_0_0 hF_5_1 hF_5_2 hokT
  | with_reducible exact fd_A c_1 c_2 f_3_0_0 h_5
  | with_reducible exact fd_z (Or.inr (Or.inl c_2))
  | with_reducible exact fd_b (Or.inr (Or.inl c_2))
  | with_reducible exact fd_a (Or.inr c_2)
  | omega
theorem lf_X7_feed_9 {z : Nat} {fb : Nat → Int32} {k0 : Int32} {zn_5 : Nat} {fbn_5 : Nat → Int32} {r_5 : Int32} (hz : z ≤ 120) (hokT : okT fb z) (c_1 : ¬ (k0 < 0)) (c_2 : k0 ≤ 255) (f_3_0_0 : z < 120) (hF_5_0 : zn_5 ≤ 120) (hF_5_1 : zn_5 = apz z) (hF_5_2 : fbn_5 = apb fb z k0) (h_5 : r_5 = (nI (apz z))) : okT fbn_5 zn_5 := by
  first
  | with_reducible exact hokT
  | with_reducible exact fd_z (Or.inl c_1)
  | with_reducible exact fd_b (Or.inl c_1)
  | with_reducible exact fd_a (Or.inl c_1)
  | with_reducible exact fd_Z c_1 c_2 f_3_0_0 hF_5_1
  | with_reducible exact fd_B c_1 c_2 f_3_0_0 hF_5_2
  | with_reducible exact fd_T c_1 c_2 f_3_0_0 hF_5_1 hF_5_2 hokT
  | with_reducible exact fd_A c_1 c_2 f_3_0_0 h_5
  | with_reducible exact fd_z (Or.inr (Or.inl c_2))
  | with_reducible exact fd_b (Or.inr (Or.inl c_2))
  | with_reducible exact fd_a (Or.inr c_2)
  | omega
theorem lf_X7_feed_10 {z : Nat} {fb : Nat → Int32} {k0 : Int32} {zn_5 : Nat} {fbn_5 : Nat → Int32} {r_5 : Int32} (hz : z ≤ 120) (hokT : okT fb z) (c_1 : ¬ (k0 < 0)) (c_2 : k0 ≤ 255) (f_3_0_0 : z < 120) (hF_5_0 : zn_5 ≤ 120) (hF_5_1 : zn_5 = apz z) (hF_5_2 : fbn_5 = apb fb z k0) (h_5 : r_5 = (nI (apz z))) : r_5 = (an_fd z k0) := by
  first
  | with_reducible exact hokT
  | with_reducible exact fd_z (Or.inl c_1)
  | with_reducible exact fd_b (Or.inl c_1)
  | with_reducible exact fd_a (Or.inl c_1)
  | with_reducible exact fd_Z c_1 c_2 f_3_0_0 hF_5_1
  | with_reducible exact fd_B c_1 c_2 f_3_0_0 hF_5_2
  | with_reducible exact fd_T c_1 c_2 f_3_0_0 hF_5_1 hF_5_2 hokT
  | with_reducible exact fd_A c_1 c_2 f_3_0_0 h_5
  | with_reducible exact fd_z (Or.inr (Or.inl c_2))
  | with_reducible exact fd_b (Or.inr (Or.inl c_2))
  | with_reducible exact fd_a (Or.inr c_2)
  | omega
theorem lf_X7_feed_11 {z : Nat} {fb : Nat → Int32} {k0 : Int32} (hz : z ≤ 120) (hokT : okT fb z) (c_1 : ¬ (k0 < 0)) (c_2 : k0 ≤ 255) (f_3_1_0 : z = 120) : z ≤ 120 := by
  first
  | with_reducible exact hokT
  | with_reducible exact fd_z (Or.inl c_1)
  | with_reducible exact fd_b (Or.inl c_1)
  | with_reducible exact fd_a (Or.inl c_1)
  | with_reducible exact fd_z (Or.inr (Or.inr f_3_1_0))
  | with_reducible exact fd_b (Or.inr (Or.inr f_3_1_0))
  | with_reducible exact fd_f c_1 c_2 f_3_1_0
  | with_reducible exact fd_z (Or.inr (Or.inl c_2))
  | with_reducible exact fd_b (Or.inr (Or.inl c_2))
  | with_reducible exact fd_a (Or.inr c_2)
  | omega
theorem lf_X7_feed_12 {z : Nat} {fb : Nat → Int32} {k0 : Int32} (hz : z ≤ 120) (hokT : okT fb z) (c_1 : ¬ (k0 < 0)) (c_2 : k0 ≤ 255) (f_3_1_0 : z = 120) : z = sf_z z k0 := by
  first
  | with_reducible exact hokT
  | with_reducible exact fd_z (Or.inl c_1)
  | with_reducible exact fd_b (Or.inl c_1)
  | with_reducible exact fd_a (Or.inl c_1)
  | with_reducible exact fd_z (Or.inr (Or.inr f_3_1_0))
  | with_reducible exact fd_b (Or.inr (Or.inr f_3_1_0))
  | with_reducible exact fd_f c_1 c_2 f_3_1_0
  | with_reducible exact fd_z (Or.inr (Or.inl c_2))
  | with_reducible exact fd_b (Or.inr (Or.inl c_2))
  | with_reducible exact fd_a (Or.inr c_2)
  | omega
theorem lf_X7_feed_13 {z : Nat} {fb : Nat → Int32} {k0 : Int32} (hz : z ≤ 120) (hokT : okT fb z) (c_1 : ¬ (k0 < 0)) (c_2 : k0 ≤ 255) (f_3_1_0 : z = 120) : fb = sf_b fb z k0 := by
  first
  | with_reducible exact hokT
  | with_reducible exact fd_z (Or.inl c_1)
  | with_reducible exact fd_b (Or.inl c_1)
  | with_reducible exact fd_a (Or.inl c_1)
  | with_reducible exact fd_z (Or.inr (Or.inr f_3_1_0))
  | with_reducible exact fd_b (Or.inr (Or.inr f_3_1_0))
  | with_reducible exact fd_f c_1 c_2 f_3_1_0
  | with_reducible exact fd_z (Or.inr (Or.inl c_2))
  | with_reducible exact fd_b (Or.inr (Or.inl c_2))
  | with_reducible exact fd_a (Or.inr c_2)
  | omega
theorem lf_X7_feed_14 {z : Nat} {fb : Nat → Int32} {k0 : Int32} (hz : z ≤ 120) (hokT : okT fb z) (c_1 : ¬ (k0 < 0)) (c_2 : k0 ≤ 255) (f_3_1_0 : z = 120) : okT fb z := by
  first
  | with_reducible exact hokT
  | with_reducible exact fd_z (Or.inl c_1)
  | with_reducible exact fd_b (Or.inl c_1)
  | with_reducible exact fd_a (Or.inl c_1)
  | with_reducible exact fd_z (Or.inr (Or.inr f_3_1_0))
  | with_reducible exact fd_b (Or.inr (Or.inr f_3_1_0))
  | with_reducible exact fd_f c_1 c_2 f_3_1_0
  | with_reducible exact fd_z (Or.inr (Or.inl c_2))
  | with_reducible exact fd_b (Or.inr (Or.inl c_2))
  | with_reducible exact fd_a (Or.inr c_2)
  | omega
theorem lf_X7_feed_15 {z : Nat} {fb : Nat → Int32} {k0 : Int32} (hz : z ≤ 120) (hokT : okT fb z) (c_1 : ¬ (k0 < 0)) (c_2 : k0 ≤ 255) (f_3_1_0 : z = 120) : (-1000003) = (an_fd z k0) := by
  first
  | with_reducible exact hokT
  | with_reducible exact fd_z (Or.inl c_1)
  | with_reducible exact fd_b (Or.inl c_1)
  | with_reducible exact fd_a (Or.inl c_1)
  | with_reducible exact fd_z (Or.inr (Or.inr f_3_1_0))
  | with_reducible exact fd_b (Or.inr (Or.inr f_3_1_0))
  | with_reducible exact fd_f c_1 c_2 f_3_1_0
  | with_reducible exact fd_z (Or.inr (Or.inl c_2))
  | with_reducible exact fd_b (Or.inr (Or.inl c_2))
  | with_reducible exact fd_a (Or.inr c_2)
  | omega
theorem lf_X7_feed_16 {z : Nat} {fb : Nat → Int32} {k0 : Int32} (hz : z ≤ 120) (hokT : okT fb z) (c_1 : ¬ (k0 < 0)) (c_2 : ¬ (k0 ≤ 255)) : z ≤ 120 := by
  first
  | with_reducible exact hokT
  | with_reducible exact fd_z (Or.inl c_1)
  | with_reducible exact fd_b (Or.inl c_1)
  | with_reducible exact fd_a (Or.inl c_1)
  | with_reducible exact fd_z (Or.inr (Or.inl c_2))
  | with_reducible exact fd_b (Or.inr (Or.inl c_2))
  | with_reducible exact fd_a (Or.inr c_2)
  | omega
theorem lf_X7_feed_17 {z : Nat} {fb : Nat → Int32} {k0 : Int32} (hz : z ≤ 120) (hokT : okT fb z) (c_1 : ¬ (k0 < 0)) (c_2 : ¬ (k0 ≤ 255)) : z = sf_z z k0 := by
  first
  | with_reducible exact hokT
  | with_reducible exact fd_z (Or.inl c_1)
  | with_reducible exact fd_b (Or.inl c_1)
  | with_reducible exact fd_a (Or.inl c_1)
  | with_reducible exact fd_z (Or.inr (Or.inl c_2))
  | with_reducible exact fd_b (Or.inr (Or.inl c_2))
  | with_reducible exact fd_a (Or.inr c_2)
  | omega
theorem lf_X7_feed_18 {z : Nat} {fb : Nat → Int32} {k0 : Int32} (hz : z ≤ 120) (hokT : okT fb z) (c_1 : ¬ (k0 < 0)) (c_2 : ¬ (k0 ≤ 255)) : fb = sf_b fb z k0 := by
  first
  | with_reducible exact hokT
  | with_reducible exact fd_z (Or.inl c_1)
  | with_reducible exact fd_b (Or.inl c_1)
  | with_reducible exact fd_a (Or.inl c_1)
  | with_reducible exact fd_z (Or.inr (Or.inl c_2))
  | with_reducible exact fd_b (Or.inr (Or.inl c_2))
  | with_reducible exact fd_a (Or.inr c_2)
  | omega
theorem lf_X7_feed_19 {z : Nat} {fb : Nat → Int32} {k0 : Int32} (hz : z ≤ 120) (hokT : okT fb z) (c_1 : ¬ (k0 < 0)) (c_2 : ¬ (k0 ≤ 255)) : okT fb z := by
  first
  | with_reducible exact hokT
  | with_reducible exact fd_z (Or.inl c_1)
  | with_reducible exact fd_b (Or.inl c_1)
  | with_reducible exact fd_a (Or.inl c_1)
  | with_reducible exact fd_z (Or.inr (Or.inl c_2))
  | with_reducible exact fd_b (Or.inr (Or.inl c_2))
  | with_reducible exact fd_a (Or.inr c_2)
  | omega
theorem lf_X7_feed_20 {z : Nat} {fb : Nat → Int32} {k0 : Int32} (hz : z ≤ 120) (hokT : okT fb z) (c_1 : ¬ (k0 < 0)) (c_2 : ¬ (k0 ≤ 255)) : (-1000001) = (an_fd z k0) := by
  first
  | with_reducible exact hokT
  | with_reducible exact fd_z (Or.inl c_1)
  | with_reducible exact fd_b (Or.inl c_1)
  | with_reducible exact fd_a (Or.inl c_1)
  | with_reducible exact fd_z (Or.inr (Or.inl c_2))
  | with_reducible exact fd_b (Or.inr (Or.inl c_2))
  | with_reducible exact fd_a (Or.inr c_2)
  | omega
set_option maxHeartbeats 4000000 in
set_option maxRecDepth 100000 in
theorem r_X7_feed (l : Launch) (dC : Nat → ClassId) (dI : Nat → Nat → Nat) (cI cZ cL cJ : ClassId) (sz : Nat) (x : Nat) (ro : Nat) (ta : Nat) (no : Nat) (ac : Nat) (im : Nat) (tr : Nat) (pl : Nat) (cs : Nat) (ak : Nat) (xf : Int32) (xg : Int32) (bs : Nat) (td : Nat) (z : Nat) (fp : Int32) (f : Int32) (k : Int32) (fb : Nat → Int32) (k0 : Int32) (hz : z ≤ 120) (hokT : okT fb z) : Met l yX7_feed wsX7_feed ({ frames := 2, cells := 0, slots := 0, locals := 41 }) (va_Pc [.ref x, .int k0] (fun U => U.heap.size = sz ∧ va_P (dC, dI) vwCl [(xo_7_rrrrrrrrrii x ro ta no ac im tr pl cs ak xf xg), (xo_6_ririii ta bs (nI z) td fp f k), (xI bs cI 120 fb)] U.heap ∧ va_K (dC, dI) vwCl [(cI, .int), (cZ, .boolean), (cL, .object RX3), (cJ, .array .int)] U ∧ va_D (fun _ => True) [(xo_7_rrrrrrrrrii x ro ta no ac im tr pl cs ak xf xg), (xo_6_ririii ta bs (nI z) td fp f k), (xI bs cI 120 fb)])) (va_Qi (fun r (_ : Unit) => r = (an_fd z k0)) (fun (_ : Unit) t => ∃ (zn : Nat) (fbn : Nat → Int32), va_P (dC, dI) vwCl [(xo_7_rrrrrrrrrii x ro ta no ac im tr pl cs ak xf xg), (xo_6_ririii ta bs (nI zn) td fp f k), (xI bs cI 120 fbn)] t.heap ∧ va_D (va_A [(xo_7_rrrrrrrrrii x ro ta no ac im tr pl cs ak xf xg), (xo_6_ririii ta bs (nI z) td fp f k), (xI bs cI 120 fb)] sz) [(xo_7_rrrrrrrrrii x ro ta no ac im tr pl cs ak xf xg), (xo_6_ririii ta bs (nI zn) td fp f k), (xI bs cI 120 fbn)] ∧ zn ≤ 120 ∧ zn = sf_z z k0 ∧ fbn = sf_b fb z k0 ∧ okT fbn zn) (va_A [(xo_7_rrrrrrrrrii x ro ta no ac im tr pl cs ak xf xg), (xo_6_ririii ta bs (nI z) td fp f k), (xI bs cI 120 fb)] sz)) 0 0 (va_A [(xo_7_rrrrrrrrrii x ro ta no ac im tr pl cs ak xf xg), (xo_6_ririii ta bs (nI z) td fp f k), (xI bs cI 120 fb)] sz) := by
  refine Met.ofW (cc := cX7_feed) (maxL := 2) (ret := (some .int)) (by decide) rfl ?_
  intro p e s m args below meth c s₁ B hml hv
  obtain ⟨rfl, hsz, hP, hK, hD0⟩ := hv
  have hx := B.exec
  have hb := B.bytes
  have hr := B.returns
  have hts := atoms_spec (ws := wsX7_feed) B.pre
  have hown : s.vm.findClass RX7 = some m.cls := findClass_of_methodNamed B.named
  have hlocks := B.notSynchronized
  subst hsz
  have hD := hD0.self (sz := s.heap.size)
  generalize hAe : va_A [(xo_7_rrrrrrrrrii x ro ta no ac im tr pl cs ak xf xg), (xo_6_ririii ta bs (nI z) td fp f k), (xI bs cI 120 fb)] s.heap.size = A at hD ⊢
  have hA : ∀ q : Nat, s.heap.size ≤ q → A q := fun q h => by rw [← hAe]; exact Or.inr h
  have hS : va_S A s.heap s.heap [] := va_S.rf
  have hP : va_P (dC, dI) vwCl [(xo_7_rrrrrrrrrii x ro ta no ac im tr pl cs ak xf xg), (xo_6_ririii ta bs (nI z) td fp f k), (xI bs cI 120 fb)] s.heap := hP
  have hl := lv_entry ([.ref x, .int k0]) (n := 2) (Nat.le_of_ble_eq_true rfl)
  rw [lg_entry_eq]
  generalize (lg_sl ([.ref x, .int k0]) ++ List.replicate (2 - (lg_sl ([.ref x, .int k0])).length) Slot.unset).toArray = ls at hl ⊢
  have hl : lv_has ls 2 [(0, .ref x), (1, .int k0)] := hl
  refine lv_iload_n hx hb dX7_feed_0 rfl (lv_at hl 1 rfl) ?_
  refine lv_if_lt (tgt := 11) hx hb dX7_feed_1 (by decide) (fun c_1 => ?_) (fun c_1 => ?_)
  · skip
    refine lv_ldc (own := RX7) (v := (-1000001)) hx hb hown (hts _ mx_X7_feed_1) dX7_feed_11 ?_
    have hX9 := cut2 (wc := [(xo_7_rrrrrrrrrii x ro ta no ac im tr pl cs ak xf xg), (xo_6_ririii ta bs (nI z) td fp f k), (xI bs cI 120 fb)]) hP hD [0, 1, 2] (by decide +kernel) rfl
    exact W.iret (v := (-1000001)) hx hb hr (fun t ht hW => ⟨⟨(-1000001), (), rfl, (lf_X7_feed_5 hz hokT c_1), ⟨z, fb, va_Ht ht hX9.1, hX9.2, (lf_X7_feed_1 hz hokT c_1), (lf_X7_feed_2 hz hokT c_1), (lf_X7_feed_3 hz hokT c_1), (lf_X7_feed_4 hz hokT c_1)⟩⟩, hS.F ht⟩) hS.2.2 dX7_feed_13
  · skip
    refine lv_iload_n hx hb dX7_feed_4 rfl (lv_at hl 1 rfl) ?_
    refine lv_sipush (v := 255) hx hb dX7_feed_5 (by decide) ?_
    refine lv_icmp_le (tgt := 14) hx hb dX7_feed_8 (by decide) (fun c_2 => ?_) (fun c_2 => ?_)
    · skip
      refine lv_aload_n hx hb dX7_feed_14 rfl (lv_at hl 0 rfl) ?_
      refine va_get (D := (dC, dI)) (ci := 7) (v := .ref ta) (C := RX7) (T := TX7) (N := 11) hx hb hts i_X7_feed_X7 hown hK hP 0 rfl rfl 1 (by decide) (hts _ mx_X7_feed_2) (fun _ h9 => h9) rfl dX7_feed_15 ?_
      have hPc_3 := hP.sub (ws' := [(xo_6_ririii ta bs (nI z) td fp f k)]) [1] rfl
      refine vp_callSi (W.runV (As := []) (rest := []) ⟨hx, hb, hml, hown, hts⟩ (r_X6_isFull l dC dI cI cZ cL cJ ta bs td z fp f k (hz)) (cwV 0 hts gX7_feed_X6_isFull rfl rfl rfl (by decide +kernel) ⟨Nat.le_of_ble_eq_true rfl, Nat.le_of_ble_eq_true rfl⟩) (pvP 6 1 hK hP rfl rfl hPc_3) rfl rfl hl.1 rfl (lv_room (Nat.le_of_ble_eq_true rfl)) dX7_feed_18 ⟨Nat.le_of_ble_eq_true rfl, Nat.le_of_ble_eq_true rfl⟩) (fun r_3 h_3 => ?_)
      rcases h_3 with ⟨h_3, f_3_0_0⟩ | ⟨h_3, f_3_1_0⟩
      · subst h_3
        refine lv_if_eq (tgt := 27) hx hb dX7_feed_21 (by decide) (fun _ => ?_) (fun c_ => absurd (by decide) c_)
        refine lv_aload_n hx hb dX7_feed_27 rfl (lv_at hl 0 rfl) ?_
        refine va_get (D := (dC, dI)) (ci := 7) (v := .ref ta) (C := RX7) (T := TX7) (N := 11) hx hb hts i_X7_feed_X7 hown hK hP 0 rfl rfl 1 (by decide) (hts _ mx_X7_feed_2) (fun _ h9 => h9) rfl dX7_feed_28 ?_
        refine lv_iload_n hx hb dX7_feed_31 rfl (lv_at hl 1 rfl) ?_
        have hc_5 := cutW (wc := [(xo_6_ririii ta bs (nI z) td fp f k), (xI bs cI 120 fb)]) hP hD hS hA [1, 2] (by decide +kernel) rfl
        refine va_calli (va_runV (As := [.int k0]) (rest := []) ⟨hx, hb, hml, hown, hts⟩ (r_X6_append l dC dI cI cZ cL cJ s.heap.size ta bs td z fp f k fb k0 (hz)) (cwV 1 hts gX7_feed_X6_append rfl rfl rfl (by decide +kernel) ⟨Nat.le_of_ble_eq_true rfl, Nat.le_of_ble_eq_true rfl⟩) (pvW 6 1 hK hP rfl rfl hc_5) rfl rfl hl.1 rfl (lv_room (Nat.le_of_ble_eq_true rfl)) dX7_feed_32 ⟨Nat.le_of_ble_eq_true rfl, Nat.le_of_ble_eq_true rfl⟩) hS (fun q _ h => hc_5.2.2 q h) hc_5.2.2 (fun r_5 u_5 t_5 H1 locs ht hvm h_5 hB hz1 hk1 hS => ?_)
        refine xl_2_5 hB (fun zn_5 fbn_5 hP1 hD1 hF_5_0 hF_5_1 hF_5_2 => ?_)
        clear hB
        rw [ht] at hP1
        obtain ⟨hP, hD⟩ := va_join (wr := [(xo_7_rrrrrrrrrii x ro ta no ac im tr pl cs ak xf xg)]) (w1 := [(xo_6_ririii ta bs (nI zn_5) td fp f k), (xI bs cI 120 fbn_5)]) hP hD [1, 2] [0] rfl rfl (by decide +kernel) (by decide +kernel) hk1 hc_5.2.2 hP1 hD1
        generalize H1 = H at hP hS ⊢
        have hP : va_P (dC, dI) vwCl [(xo_7_rrrrrrrrrii x ro ta no ac im tr pl cs ak xf xg), (xo_6_ririii ta bs (nI zn_5) td fp f k), (xI bs cI 120 fbn_5)] H := hP
        have hD := dto hP hD
        have hX9 := cut2 (wc := [(xo_7_rrrrrrrrrii x ro ta no ac im tr pl cs ak xf xg), (xo_6_ririii ta bs (nI zn_5) td fp f k), (xI bs cI 120 fbn_5)]) hP hD [0, 1, 2] (by decide +kernel) rfl
        exact W.iret (v := r_5) hx hb hr (fun t ht hW => ⟨⟨r_5, (), rfl, (lf_X7_feed_10 hz hokT c_1 c_2 f_3_0_0 hF_5_0 hF_5_1 hF_5_2 h_5), ⟨zn_5, fbn_5, va_Ht ht hX9.1, hX9.2, (lf_X7_feed_6 hz hokT c_1 c_2 f_3_0_0 hF_5_0 hF_5_1 hF_5_2 h_5), (lf_X7_feed_7 hz hokT c_1 c_2 f_3_0_0 hF_5_0 hF_5_1 hF_5_2 h_5), (lf_X7_feed_8 hz hokT c_1 c_2 f_3_0_0 hF_5_0 hF_5_1 hF_5_2 h_5), (lf_X7_feed_9 hz hokT c_1 c_2 f_3_0_0 hF_5_0 hF_5_1 hF_5_2 h_5)⟩⟩, hS.F ht⟩) hS.2.2 dX7_feed_35
      · subst h_3
        refine lv_if_eq (tgt := 27) hx hb dX7_feed_21 (by decide) (fun c_ => absurd c_ (by decide)) (fun _ => ?_)
        refine lv_ldc (own := RX7) (v := (-1000003)) hx hb hown (hts _ mx_X7_feed_3) dX7_feed_24 ?_
        have hX9 := cut2 (wc := [(xo_7_rrrrrrrrrii x ro ta no ac im tr pl cs ak xf xg), (xo_6_ririii ta bs (nI z) td fp f k), (xI bs cI 120 fb)]) hP hD [0, 1, 2] (by decide +kernel) rfl
        exact W.iret (v := (-1000003)) hx hb hr (fun t ht hW => ⟨⟨(-1000003), (), rfl, (lf_X7_feed_15 hz hokT c_1 c_2 f_3_1_0), ⟨z, fb, va_Ht ht hX9.1, hX9.2, (lf_X7_feed_11 hz hokT c_1 c_2 f_3_1_0), (lf_X7_feed_12 hz hokT c_1 c_2 f_3_1_0), (lf_X7_feed_13 hz hokT c_1 c_2 f_3_1_0), (lf_X7_feed_14 hz hokT c_1 c_2 f_3_1_0)⟩⟩, hS.F ht⟩) hS.2.2 dX7_feed_26
    · skip
      refine lv_ldc (own := RX7) (v := (-1000001)) hx hb hown (hts _ mx_X7_feed_1) dX7_feed_11 ?_
      have hX9 := cut2 (wc := [(xo_7_rrrrrrrrrii x ro ta no ac im tr pl cs ak xf xg), (xo_6_ririii ta bs (nI z) td fp f k), (xI bs cI 120 fb)]) hP hD [0, 1, 2] (by decide +kernel) rfl
      exact W.iret (v := (-1000001)) hx hb hr (fun t ht hW => ⟨⟨(-1000001), (), rfl, (lf_X7_feed_20 hz hokT c_1 c_2), ⟨z, fb, va_Ht ht hX9.1, hX9.2, (lf_X7_feed_16 hz hokT c_1 c_2), (lf_X7_feed_17 hz hokT c_1 c_2), (lf_X7_feed_18 hz hokT c_1 c_2), (lf_X7_feed_19 hz hokT c_1 c_2)⟩⟩, hS.F ht⟩) hS.2.2 dX7_feed_13
theorem lf_X7_level_1 {z : Nat} {fb : Nat → Int32} {thh : Nat} {tww : Nat} {tkk : Nat} {tg1 : Nat → Int32} {tg2 : Nat → Int32} {tg3 : Nat → Int32} {tg4 : Nat → Int32} {tg5 : Nat → Int32} {nhh : Nat} {nww : Nat} {nkk : Nat} {az : Nat} {fpn_1 : Int32} {fn_1 : Int32} {kn_1 : Int32} {tv0n_1 : Int32} {tv1n_1 : Int32} {tv2n_1 : Int32} {twn_1 : Nat} {tkn_1 : Nat} {tg1n_1 : Nat → Int32} {tg2n_1 : Nat → Int32} {tg3n_1 : Nat → Int32} {tg4n_1 : Nat → Int32} {tg5n_1 : Nat → Int32} {r_1 : Int32} {f1n_3 : Nat → Int32} {f2n_3 : Nat → Int32} {f3n_3 : Nat → Int32} {f4n_3 : Nat → Int32} {f5n_3 : Nat → Int32} (hz : z ≤ 120) (thb : thh ≤ 999) (htww : tww ≤ 6) (htkk : tkk ≤ 6) (nhb : nhh ≤ 999) (nwb : nww ≤ 6) (nkb : nkk ≤ 6) (haz : az ≤ 24) (hokT : okT fb z) (hF_1_0 : twn_1 ≤ 6) (hF_1_1 : tkn_1 ≤ 6) (hF_1_2 : xRs fb z tg1 tg2 tg3 tg4 tg5 = ((fpn_1, fn_1, kn_1), tkn_1, tg2n_1, tg3n_1, tg4n_1, tg5n_1)) (hF_1_3 : (xRw fb z tg1).2 = (twn_1, tg1n_1)) (hF_1_4 : tv0n_1 = xL0 fb z (0, 0, 0)) (hF_1_5 : tv1n_1 = xL1 fb z (0, 0, 0)) (hF_1_6 : tv2n_1 = xL2 fb z (0, 0, 0)) (h_1 : r_1 = ((xRs fb z tg1 tg2 tg3 tg4 tg5).1.2.1)) (c_2 : r_1 = 0) (hF_3_0 : (∀ jq : Nat, jq < 6 → f1n_3 jq = tg1n_1 jq)) (hF_3_1 : (∀ jq : Nat, jq < 6 → f2n_3 jq = tg2n_1 jq)) (hF_3_2 : (∀ jq : Nat, jq < 6 → f3n_3 jq = tg3n_1 jq)) (hF_3_3 : (∀ jq : Nat, jq < 6 → f4n_3 jq = tg4n_1 jq)) (hF_3_4 : (∀ jq : Nat, jq < 6 → f5n_3 jq = tg5n_1 jq)) : 0 ≤ 999 := by
  first
  | omega
  | with_reducible rfl
  | with_reducible exact okT_0 _
  | with_reducible exact lx_f hz hokT h_1 c_2
  | with_reducible exact lx_n hz hokT h_1 c_2
  | with_reducible exact lx_L hz hokT h_1 c_2 hF_1_2 hF_1_3 hF_1_4 hF_1_5 hF_1_6 hF_1_0 hF_1_1 hF_3_0 hF_3_1 hF_3_2 hF_3_3 hF_3_4
  | with_reducible exact lx_A hz hokT h_1 c_2 hF_1_2
  | with_reducible exact lx_fn hz hokT h_1 c_2
  | with_reducible exact lx_l hz hokT h_1 c_2
  | with_reducible exact lx_nn hz hokT h_1 c_2
  | omega
theorem lf_X7_level_2 {z : Nat} {fb : Nat → Int32} {thh : Nat} {tww : Nat} {tkk : Nat} {tg1 : Nat → Int32} {tg2 : Nat → Int32} {tg3 : Nat → Int32} {tg4 : Nat → Int32} {tg5 : Nat → Int32} {nhh : Nat} {nww : Nat} {nkk : Nat} {az : Nat} {fpn_1 : Int32} {fn_1 : Int32} {kn_1 : Int32} {tv0n_1 : Int32} {tv1n_1 : Int32} {tv2n_1 : Int32} {twn_1 : Nat} {tkn_1 : Nat} {tg1n_1 : Nat → Int32} {tg2n_1 : Nat → Int32} {tg3n_1 : Nat → Int32} {tg4n_1 : Nat → Int32} {tg5n_1 : Nat → Int32} {r_1 : Int32} {f1n_3 : Nat → Int32} {f2n_3 : Nat → Int32} {f3n_3 : Nat → Int32} {f4n_3 : Nat → Int32} {f5n_3 : Nat → Int32} (hz : z ≤ 120) (thb : thh ≤ 999) (htww : tww ≤ 6) (htkk : tkk ≤ 6) (nhb : nhh ≤ 999) (nwb : nww ≤ 6) (nkb : nkk ≤ 6) (haz : az ≤ 24) (hokT : okT fb z) (hF_1_0 : twn_1 ≤ 6) (hF_1_1 : tkn_1 ≤ 6) (hF_1_2 : xRs fb z tg1 tg2 tg3 tg4 tg5 = ((fpn_1, fn_1, kn_1), tkn_1, tg2n_1, tg3n_1, tg4n_1, tg5n_1)) (hF_1_3 : (xRw fb z tg1).2 = (twn_1, tg1n_1)) (hF_1_4 : tv0n_1 = xL0 fb z (0, 0, 0)) (hF_1_5 : tv1n_1 = xL1 fb z (0, 0, 0)) (hF_1_6 : tv2n_1 = xL2 fb z (0, 0, 0)) (h_1 : r_1 = ((xRs fb z tg1 tg2 tg3 tg4 tg5).1.2.1)) (c_2 : r_1 = 0) (hF_3_0 : (∀ jq : Nat, jq < 6 → f1n_3 jq = tg1n_1 jq)) (hF_3_1 : (∀ jq : Nat, jq < 6 → f2n_3 jq = tg2n_1 jq)) (hF_3_2 : (∀ jq : Nat, jq < 6 → f3n_3 jq = tg3n_1 jq)) (hF_3_3 : (∀ jq : Nat, jq < 6 → f4n_3 jq = tg4n_1 jq)) (hF_3_4 : (∀ jq : Nat, jq < 6 → f5n_3 jq = tg5n_1 jq)) : twn_1 ≤ 6 := by
  first
  | omega
  | with_reducible rfl
  | with_reducible exact okT_0 _
  | with_reducible exact lx_f hz hokT h_1 c_2
  | with_reducible exact lx_n hz hokT h_1 c_2
  | with_reducible exact lx_L hz hokT h_1 c_2 hF_1_2 hF_1_3 hF_1_4 hF_1_5 hF_1_6 hF_1_0 hF_1_1 hF_3_0 hF_3_1 hF_3_2 hF_3_3 hF_3_4
  | with_reducible exact lx_A hz hokT h_1 c_2 hF_1_2
  | with_reducible exact lx_fn hz hokT h_1 c_2
  | with_reducible exact lx_l hz hokT h_1 c_2
  | with_reducible exact lx_nn hz hokT h_1 c_2
  | omega
theorem lf_X7_level_3 {z : Nat} {fb : Nat → Int32} {thh : Nat} {tww : Nat} {tkk : Nat} {tg1 : Nat → Int32} {tg2 : Nat → Int32} {tg3 : Nat → Int32} {tg4 : Nat → Int32} {tg5 : Nat → Int32} {nhh : Nat} {nww : Nat} {nkk : Nat} {az : Nat} {fpn_1 : Int32} {fn_1 : Int32} {kn_1 : Int32} {tv0n_1 : Int32} {tv1n_1 : Int32} {tv2n_1 : Int32} {twn_1 : Nat} {tkn_1 : Nat} {tg1n_1 : Nat → Int32} {tg2n_1 : Nat → Int32} {tg3n_1 : Nat → Int32} {tg4n_1 : Nat → Int32} {tg5n_1 : Nat → Int32} {r_1 : Int32} {f1n_3 : Nat → Int32} {f2n_3 : Nat → Int32} {f3n_3 : Nat → Int32} {f4n_3 : Nat → Int32} {f5n_3 : Nat → Int32} (hz : z ≤ 120) (thb : thh ≤ 999) (htww : tww ≤ 6) (htkk : tkk ≤ 6) (nhb : nhh ≤ 999) (nwb : nww ≤ 6) (nkb : nkk ≤ 6) (haz : az ≤ 24) (hokT : okT fb z) (hF_1_0 : twn_1 ≤ 6) (hF_1_1 : tkn_1 ≤ 6) (hF_1_2 : xRs fb z tg1 tg2 tg3 tg4 tg5 = ((fpn_1, fn_1, kn_1), tkn_1, tg2n_1, tg3n_1, tg4n_1, tg5n_1)) (hF_1_3 : (xRw fb z tg1).2 = (twn_1, tg1n_1)) (hF_1_4 : tv0n_1 = xL0 fb z (0, 0, 0)) (hF_1_5 : tv1n_1 = xL1 fb z (0, 0, 0)) (hF_1_6 : tv2n_1 = xL2 fb z (0, 0, 0)) (h_1 : r_1 = ((xRs fb z tg1 tg2 tg3 tg4 tg5).1.2.1)) (c_2 : r_1 = 0) (hF_3_0 : (∀ jq : Nat, jq < 6 → f1n_3 jq = tg1n_1 jq)) (hF_3_1 : (∀ jq : Nat, jq < 6 → f2n_3 jq = tg2n_1 jq)) (hF_3_2 : (∀ jq : Nat, jq < 6 → f3n_3 jq = tg3n_1 jq)) (hF_3_3 : (∀ jq : Nat, jq < 6 → f4n_3 jq = tg4n_1 jq)) (hF_3_4 : (∀ jq : Nat, jq < 6 → f5n_3 jq = tg5n_1 jq)) : tkn_1 ≤ 6 := by
  first
  | omega
  | with_reducible rfl
  | with_reducible exact okT_0 _
  | with_reducible exact lx_f hz hokT h_1 c_2
  | with_reducible exact lx_n hz hokT h_1 c_2
  | with_reducible exact lx_L hz hokT h_1 c_2 hF_1_2 hF_1_3 hF_1_4 hF_1_5 hF_1_6 hF_1_0 hF_1_1 hF_3_0 hF_3_1 hF_3_2 hF_3_3 hF_3_4
  | with_reducible exact lx_A hz hokT h_1 c_2 hF_1_2
  | with_reducible exact lx_fn hz hokT h_1 c_2
  | with_reducible exact lx_l hz hokT h_1 c_2
  | with_reducible exact lx_nn hz hokT h_1 c_2
  | omega
theorem lf_X7_level_4 {z : Nat} {fb : Nat → Int32} {thh : Nat} {tww : Nat} {tkk : Nat} {tg1 : Nat → Int32} {tg2 : Nat → Int32} {tg3 : Nat → Int32} {tg4 : Nat → Int32} {tg5 : Nat → Int32} {nhh : Nat} {nww : Nat} {nkk : Nat} {az : Nat} {fpn_1 : Int32} {fn_1 : Int32} {kn_1 : Int32} {tv0n_1 : Int32} {tv1n_1 : Int32} {tv2n_1 : Int32} {twn_1 : Nat} {tkn_1 : Nat} {tg1n_1 : Nat → Int32} {tg2n_1 : Nat → Int32} {tg3n_1 : Nat → Int32} {tg4n_1 : Nat → Int32} {tg5n_1 : Nat → Int32} {r_1 : Int32} {f1n_3 : Nat → Int32} {f2n_3 : Nat → Int32} {f3n_3 : Nat → Int32} {f4n_3 : Nat → Int32} {f5n_3 : Nat → Int32} (hz : z ≤ 120) (thb : thh ≤ 999) (htww : tww ≤ 6) (htkk : tkk ≤ 6) (nhb : nhh ≤ 999) (nwb : nww ≤ 6) (nkb : nkk ≤ 6) (haz : az ≤ 24) (hokT : okT fb z) (hF_1_0 : twn_1 ≤ 6) (hF_1_1 : tkn_1 ≤ 6) (hF_1_2 : xRs fb z tg1 tg2 tg3 tg4 tg5 = ((fpn_1, fn_1, kn_1), tkn_1, tg2n_1, tg3n_1, tg4n_1, tg5n_1)) (hF_1_3 : (xRw fb z tg1).2 = (twn_1, tg1n_1)) (hF_1_4 : tv0n_1 = xL0 fb z (0, 0, 0)) (hF_1_5 : tv1n_1 = xL1 fb z (0, 0, 0)) (hF_1_6 : tv2n_1 = xL2 fb z (0, 0, 0)) (h_1 : r_1 = ((xRs fb z tg1 tg2 tg3 tg4 tg5).1.2.1)) (c_2 : r_1 = 0) (hF_3_0 : (∀ jq : Nat, jq < 6 → f1n_3 jq = tg1n_1 jq)) (hF_3_1 : (∀ jq : Nat, jq < 6 → f2n_3 jq = tg2n_1 jq)) (hF_3_2 : (∀ jq : Nat, jq < 6 → f3n_3 jq = tg3n_1 jq)) (hF_3_3 : (∀ jq : Nat, jq < 6 → f4n_3 jq = tg4n_1 jq)) (hF_3_4 : (∀ jq : Nat, jq < 6 → f5n_3 jq = tg5n_1 jq)) : 0 ≤ 999 := by
  first
  | omega
  | with_reducible rfl
  | with_reducible exact okT_0 _
  | with_reducible exact lx_f hz hokT h_1 c_2
  | with_reducible exact lx_n hz hokT h_1 c_2
  | with_reducible exact lx_L hz hokT h_1 c_2 hF_1_2 hF_1_3 hF_1_4 hF_1_5 hF_1_6 hF_1_0 hF_1_1 hF_3_0 hF_3_1 hF_3_2 hF_3_3 hF_3_4
  | with_reducible exact lx_A hz hokT h_1 c_2 hF_1_2
  | with_reducible exact lx_fn hz hokT h_1 c_2
  | with_reducible exact lx_l hz hokT h_1 c_2
  | with_reducible exact lx_nn hz hokT h_1 c_2
  | omega
theorem lf_X7_level_5 {z : Nat} {fb : Nat → Int32} {thh : Nat} {tww : Nat} {tkk : Nat} {tg1 : Nat → Int32} {tg2 : Nat → Int32} {tg3 : Nat → Int32} {tg4 : Nat → Int32} {tg5 : Nat → Int32} {nhh : Nat} {nww : Nat} {nkk : Nat} {az : Nat} {fpn_1 : Int32} {fn_1 : Int32} {kn_1 : Int32} {tv0n_1 : Int32} {tv1n_1 : Int32} {tv2n_1 : Int32} {twn_1 : Nat} {tkn_1 : Nat} {tg1n_1 : Nat → Int32} {tg2n_1 : Nat → Int32} {tg3n_1 : Nat → Int32} {tg4n_1 : Nat → Int32} {tg5n_1 : Nat → Int32} {r_1 : Int32} {f1n_3 : Nat → Int32} {f2n_3 : Nat → Int32} {f3n_3 : Nat → Int32} {f4n_3 : Nat → Int32} {f5n_3 : Nat → Int32} (hz : z ≤ 120) (thb : thh ≤ 999) (htww : tww ≤ 6) (htkk : tkk ≤ 6) (nhb : nhh ≤ 999) (nwb : nww ≤ 6) (nkb : nkk ≤ 6) (haz : az ≤ 24) (hokT : okT fb z) (hF_1_0 : twn_1 ≤ 6) (hF_1_1 : tkn_1 ≤ 6) (hF_1_2 : xRs fb z tg1 tg2 tg3 tg4 tg5 = ((fpn_1, fn_1, kn_1), tkn_1, tg2n_1, tg3n_1, tg4n_1, tg5n_1)) (hF_1_3 : (xRw fb z tg1).2 = (twn_1, tg1n_1)) (hF_1_4 : tv0n_1 = xL0 fb z (0, 0, 0)) (hF_1_5 : tv1n_1 = xL1 fb z (0, 0, 0)) (hF_1_6 : tv2n_1 = xL2 fb z (0, 0, 0)) (h_1 : r_1 = ((xRs fb z tg1 tg2 tg3 tg4 tg5).1.2.1)) (c_2 : r_1 = 0) (hF_3_0 : (∀ jq : Nat, jq < 6 → f1n_3 jq = tg1n_1 jq)) (hF_3_1 : (∀ jq : Nat, jq < 6 → f2n_3 jq = tg2n_1 jq)) (hF_3_2 : (∀ jq : Nat, jq < 6 → f3n_3 jq = tg3n_1 jq)) (hF_3_3 : (∀ jq : Nat, jq < 6 → f4n_3 jq = tg4n_1 jq)) (hF_3_4 : (∀ jq : Nat, jq < 6 → f5n_3 jq = tg5n_1 jq)) : twn_1 ≤ 6 := by
  first
  | omega
  | with_reducible rfl
  | with_reducible exact okT_0 _
  | with_reducible exact lx_f hz hokT h_1 c_2
  | with_reducible exact lx_n hz hokT h_1 c_2
  | with_reducible exact lx_L hz hokT h_1 c_2 hF_1_2 hF_1_3 hF_1_4 hF_1_5 hF_1_6 hF_1_0 hF_1_1 hF_3_0 hF_3_1 hF_3_2 hF_3_3 hF_3_4
  | with_reducible exact lx_A hz hokT h_1 c_2 hF_1_2
  | with_reducible exact lx_fn hz hokT h_1 c_2
  | with_reducible exact lx_l hz hokT h_1 c_2
  | with_reducible exact lx_nn hz hokT h_1 c_2
  | omega
theorem lf_X7_level_6 {z : Nat} {fb : Nat → Int32} {thh : Nat} {tww : Nat} {tkk : Nat} {tg1 : Nat → Int32} {tg2 : Nat → Int32} {tg3 : Nat → Int32} {tg4 : Nat → Int32} {tg5 : Nat → Int32} {nhh : Nat} {nww : Nat} {nkk : Nat} {az : Nat} {fpn_1 : Int32} {fn_1 : Int32} {kn_1 : Int32} {tv0n_1 : Int32} {tv1n_1 : Int32} {tv2n_1 : Int32} {twn_1 : Nat} {tkn_1 : Nat} {tg1n_1 : Nat → Int32} {tg2n_1 : Nat → Int32} {tg3n_1 : Nat → Int32} {tg4n_1 : Nat → Int32} {tg5n_1 : Nat → Int32} {r_1 : Int32} {f1n_3 : Nat → Int32} {f2n_3 : Nat → Int32} {f3n_3 : Nat → Int32} {f4n_3 : Nat → Int32} {f5n_3 : Nat → Int32} (hz : z ≤ 120) (thb : thh ≤ 999) (htww : tww ≤ 6) (htkk : tkk ≤ 6) (nhb : nhh ≤ 999) (nwb : nww ≤ 6) (nkb : nkk ≤ 6) (haz : az ≤ 24) (hokT : okT fb z) (hF_1_0 : twn_1 ≤ 6) (hF_1_1 : tkn_1 ≤ 6) (hF_1_2 : xRs fb z tg1 tg2 tg3 tg4 tg5 = ((fpn_1, fn_1, kn_1), tkn_1, tg2n_1, tg3n_1, tg4n_1, tg5n_1)) (hF_1_3 : (xRw fb z tg1).2 = (twn_1, tg1n_1)) (hF_1_4 : tv0n_1 = xL0 fb z (0, 0, 0)) (hF_1_5 : tv1n_1 = xL1 fb z (0, 0, 0)) (hF_1_6 : tv2n_1 = xL2 fb z (0, 0, 0)) (h_1 : r_1 = ((xRs fb z tg1 tg2 tg3 tg4 tg5).1.2.1)) (c_2 : r_1 = 0) (hF_3_0 : (∀ jq : Nat, jq < 6 → f1n_3 jq = tg1n_1 jq)) (hF_3_1 : (∀ jq : Nat, jq < 6 → f2n_3 jq = tg2n_1 jq)) (hF_3_2 : (∀ jq : Nat, jq < 6 → f3n_3 jq = tg3n_1 jq)) (hF_3_3 : (∀ jq : Nat, jq < 6 → f4n_3 jq = tg4n_1 jq)) (hF_3_4 : (∀ jq : Nat, jq < 6 → f5n_3 jq = tg5n_1 jq)) : tkn_1 ≤ 6 := by
  first
  | omega
  | with_reducible rfl
  | with_reducible exact okT_0 _
  | with_reducible exact lx_f hz hokT h_1 c_2
  | with_reducible exact lx_n hz hokT h_1 c_2
  | with_reducible exact lx_L hz hokT h_1 c_2 hF_1_2 hF_1_3 hF_1_4 hF_1_5 hF_1_6 hF_1_0 hF_1_1 hF_3_0 hF_3_1 hF_3_2 hF_3_3 hF_3_4
  | with_reducible exact lx_A hz hokT h_1 c_2 hF_1_2
  | with_reducible exact lx_fn hz hokT h_1 c_2
  | with_reducible exact lx_l hz hokT h_1 c_2
  | with_reducible exact lx_nn hz hokT h_1 c_2
  | omega
theorem lf_X7_level_7 {z : Nat} {fb : Nat → Int32} {thh : Nat} {tww : Nat} {tkk : Nat} {tg1 : Nat → Int32} {tg2 : Nat → Int32} {tg3 : Nat → Int32} {tg4 : Nat → Int32} {tg5 : Nat → Int32} {nhh : Nat} {nww : Nat} {nkk : Nat} {az : Nat} {fpn_1 : Int32} {fn_1 : Int32} {kn_1 : Int32} {tv0n_1 : Int32} {tv1n_1 : Int32} {tv2n_1 : Int32} {twn_1 : Nat} {tkn_1 : Nat} {tg1n_1 : Nat → Int32} {tg2n_1 : Nat → Int32} {tg3n_1 : Nat → Int32} {tg4n_1 : Nat → Int32} {tg5n_1 : Nat → Int32} {r_1 : Int32} {f1n_3 : Nat → Int32} {f2n_3 : Nat → Int32} {f3n_3 : Nat → Int32} {f4n_3 : Nat → Int32} {f5n_3 : Nat → Int32} (hz : z ≤ 120) (thb : thh ≤ 999) (htww : tww ≤ 6) (htkk : tkk ≤ 6) (nhb : nhh ≤ 999) (nwb : nww ≤ 6) (nkb : nkk ≤ 6) (haz : az ≤ 24) (hokT : okT fb z) (hF_1_0 : twn_1 ≤ 6) (hF_1_1 : tkn_1 ≤ 6) (hF_1_2 : xRs fb z tg1 tg2 tg3 tg4 tg5 = ((fpn_1, fn_1, kn_1), tkn_1, tg2n_1, tg3n_1, tg4n_1, tg5n_1)) (hF_1_3 : (xRw fb z tg1).2 = (twn_1, tg1n_1)) (hF_1_4 : tv0n_1 = xL0 fb z (0, 0, 0)) (hF_1_5 : tv1n_1 = xL1 fb z (0, 0, 0)) (hF_1_6 : tv2n_1 = xL2 fb z (0, 0, 0)) (h_1 : r_1 = ((xRs fb z tg1 tg2 tg3 tg4 tg5).1.2.1)) (c_2 : r_1 = 0) (hF_3_0 : (∀ jq : Nat, jq < 6 → f1n_3 jq = tg1n_1 jq)) (hF_3_1 : (∀ jq : Nat, jq < 6 → f2n_3 jq = tg2n_1 jq)) (hF_3_2 : (∀ jq : Nat, jq < 6 → f3n_3 jq = tg3n_1 jq)) (hF_3_3 : (∀ jq : Nat, jq < 6 → f4n_3 jq = tg4n_1 jq)) (hF_3_4 : (∀ jq : Nat, jq < 6 → f5n_3 jq = tg5n_1 jq)) : 0 ≤ 24 := by
  first
  | omega
  | with_reducible rfl
  | with_reducible exact okT_0 _
  | with_reducible exact lx_f hz hokT h_1 c_2
  | with_reducible exact lx_n hz hokT h_1 c_2
  | with_reducible exact lx_L hz hokT h_1 c_2 hF_1_2 hF_1_3 hF_1_4 hF_1_5 hF_1_6 hF_1_0 hF_1_1 hF_3_0 hF_3_1 hF_3_2 hF_3_3 hF_3_4
  | with_reducible exact lx_A hz hokT h_1 c_2 hF_1_2
  | with_reducible exact lx_fn hz hokT h_1 c_2
  | with_reducible exact lx_l hz hokT h_1 c_2
  | with_reducible exact lx_nn hz hokT h_1 c_2
  | omega
theorem lf_X7_level_8 {z : Nat} {fb : Nat → Int32} {thh : Nat} {tww : Nat} {tkk : Nat} {tg1 : Nat → Int32} {tg2 : Nat → Int32} {tg3 : Nat → Int32} {tg4 : Nat → Int32} {tg5 : Nat → Int32} {nhh : Nat} {nww : Nat} {nkk : Nat} {az : Nat} {fpn_1 : Int32} {fn_1 : Int32} {kn_1 : Int32} {tv0n_1 : Int32} {tv1n_1 : Int32} {tv2n_1 : Int32} {twn_1 : Nat} {tkn_1 : Nat} {tg1n_1 : Nat → Int32} {tg2n_1 : Nat → Int32} {tg3n_1 : Nat → Int32} {tg4n_1 : Nat → Int32} {tg5n_1 : Nat → Int32} {r_1 : Int32} {f1n_3 : Nat → Int32} {f2n_3 : Nat → Int32} {f3n_3 : Nat → Int32} {f4n_3 : Nat → Int32} {f5n_3 : Nat → Int32} (hz : z ≤ 120) (thb : thh ≤ 999) (htww : tww ≤ 6) (htkk : tkk ≤ 6) (nhb : nhh ≤ 999) (nwb : nww ≤ 6) (nkb : nkk ≤ 6) (haz : az ≤ 24) (hokT : okT fb z) (hF_1_0 : twn_1 ≤ 6) (hF_1_1 : tkn_1 ≤ 6) (hF_1_2 : xRs fb z tg1 tg2 tg3 tg4 tg5 = ((fpn_1, fn_1, kn_1), tkn_1, tg2n_1, tg3n_1, tg4n_1, tg5n_1)) (hF_1_3 : (xRw fb z tg1).2 = (twn_1, tg1n_1)) (hF_1_4 : tv0n_1 = xL0 fb z (0, 0, 0)) (hF_1_5 : tv1n_1 = xL1 fb z (0, 0, 0)) (hF_1_6 : tv2n_1 = xL2 fb z (0, 0, 0)) (h_1 : r_1 = ((xRs fb z tg1 tg2 tg3 tg4 tg5).1.2.1)) (c_2 : r_1 = 0) (hF_3_0 : (∀ jq : Nat, jq < 6 → f1n_3 jq = tg1n_1 jq)) (hF_3_1 : (∀ jq : Nat, jq < 6 → f2n_3 jq = tg2n_1 jq)) (hF_3_2 : (∀ jq : Nat, jq < 6 → f3n_3 jq = tg3n_1 jq)) (hF_3_3 : (∀ jq : Nat, jq < 6 → f4n_3 jq = tg4n_1 jq)) (hF_3_4 : (∀ jq : Nat, jq < 6 → f5n_3 jq = tg5n_1 jq)) : fb = fb := by
  first
  | omega
  | with_reducible rfl
  | with_reducible exact okT_0 _
  | with_reducible exact lx_f hz hokT h_1 c_2
  | with_reducible exact lx_n hz hokT h_1 c_2
  | with_reducible exact lx_L hz hokT h_1 c_2 hF_1_2 hF_1_3 hF_1_4 hF_1_5 hF_1_6 hF_1_0 hF_1_1 hF_3_0 hF_3_1 hF_3_2 hF_3_3 hF_3_4
  | with_reducible exact lx_A hz hokT h_1 c_2 hF_1_2
  | with_reducible exact lx_fn hz hokT h_1 c_2
  | with_reducible exact lx_l hz hokT h_1 c_2
  | with_reducible exact lx_nn hz hokT h_1 c_2
  | omega
theorem lf_X7_level_9 {xf : Int32} {z : Nat} {fb : Nat → Int32} {thh : Nat} {tww : Nat} {tkk : Nat} {tg1 : Nat → Int32} {tg2 : Nat → Int32} {tg3 : Nat → Int32} {tg4 : Nat → Int32} {tg5 : Nat → Int32} {nhh : Nat} {nww : Nat} {nkk : Nat} {az : Nat} {fpn_1 : Int32} {fn_1 : Int32} {kn_1 : Int32} {tv0n_1 : Int32} {tv1n_1 : Int32} {tv2n_1 : Int32} {twn_1 : Nat} {tkn_1 : Nat} {tg1n_1 : Nat → Int32} {tg2n_1 : Nat → Int32} {tg3n_1 : Nat → Int32} {tg4n_1 : Nat → Int32} {tg5n_1 : Nat → Int32} {r_1 : Int32} {f1n_3 : Nat → Int32} {f2n_3 : Nat → Int32} {f3n_3 : Nat → Int32} {f4n_3 : Nat → Int32} {f5n_3 : Nat → Int32} (hz : z ≤ 120) (thb : thh ≤ 999) (htww : tww ≤ 6) (htkk : tkk ≤ 6) (nhb : nhh ≤ 999) (nwb : nww ≤ 6) (nkb : nkk ≤ 6) (haz : az ≤ 24) (hokT : okT fb z) (hF_1_0 : twn_1 ≤ 6) (hF_1_1 : tkn_1 ≤ 6) (hF_1_2 : xRs fb z tg1 tg2 tg3 tg4 tg5 = ((fpn_1, fn_1, kn_1), tkn_1, tg2n_1, tg3n_1, tg4n_1, tg5n_1)) (hF_1_3 : (xRw fb z tg1).2 = (twn_1, tg1n_1)) (hF_1_4 : tv0n_1 = xL0 fb z (0, 0, 0)) (hF_1_5 : tv1n_1 = xL1 fb z (0, 0, 0)) (hF_1_6 : tv2n_1 = xL2 fb z (0, 0, 0)) (h_1 : r_1 = ((xRs fb z tg1 tg2 tg3 tg4 tg5).1.2.1)) (c_2 : r_1 = 0) (hF_3_0 : (∀ jq : Nat, jq < 6 → f1n_3 jq = tg1n_1 jq)) (hF_3_1 : (∀ jq : Nat, jq < 6 → f2n_3 jq = tg2n_1 jq)) (hF_3_2 : (∀ jq : Nat, jq < 6 → f3n_3 jq = tg3n_1 jq)) (hF_3_3 : (∀ jq : Nat, jq < 6 → f4n_3 jq = tg4n_1 jq)) (hF_3_4 : (∀ jq : Nat, jq < 6 → f5n_3 jq = tg5n_1 jq)) : xf = lvF fb z xf := by
  first
  | omega
  | with_reducible rfl
  | with_reducible exact okT_0 _
  | with_reducible exact lx_f hz hokT h_1 c_2
  | with_reducible exact lx_n hz hokT h_1 c_2
  | with_reducible exact lx_L hz hokT h_1 c_2 hF_1_2 hF_1_3 hF_1_4 hF_1_5 hF_1_6 hF_1_0 hF_1_1 hF_3_0 hF_3_1 hF_3_2 hF_3_3 hF_3_4
  | with_reducible exact lx_A hz hokT h_1 c_2 hF_1_2
  | with_reducible exact lx_fn hz hokT h_1 c_2
  | with_reducible exact lx_l hz hokT h_1 c_2
  | with_reducible exact lx_nn hz hokT h_1 c_2
  | omega
theorem lf_X7_level_10 {z : Nat} {fb : Nat → Int32} {thh : Nat} {tww : Nat} {tkk : Nat} {tg1 : Nat → Int32} {tg2 : Nat → Int32} {tg3 : Nat → Int32} {tg4 : Nat → Int32} {tg5 : Nat → Int32} {nhh : Nat} {nww : Nat} {nkk : Nat} {az : Nat} {fpn_1 : Int32} {fn_1 : Int32} {kn_1 : Int32} {tv0n_1 : Int32} {tv1n_1 : Int32} {tv2n_1 : Int32} {twn_1 : Nat} {tkn_1 : Nat} {tg1n_1 : Nat → Int32} {tg2n_1 : Nat → Int32} {tg3n_1 : Nat → Int32} {tg4n_1 : Nat → Int32} {tg5n_1 : Nat → Int32} {r_1 : Int32} {f1n_3 : Nat → Int32} {f2n_3 : Nat → Int32} {f3n_3 : Nat → Int32} {f4n_3 : Nat → Int32} {f5n_3 : Nat → Int32} (hz : z ≤ 120) (thb : thh ≤ 999) (htww : tww ≤ 6) (htkk : tkk ≤ 6) (nhb : nhh ≤ 999) (nwb : nww ≤ 6) (nkb : nkk ≤ 6) (haz : az ≤ 24) (hokT : okT fb z) (hF_1_0 : twn_1 ≤ 6) (hF_1_1 : tkn_1 ≤ 6) (hF_1_2 : xRs fb z tg1 tg2 tg3 tg4 tg5 = ((fpn_1, fn_1, kn_1), tkn_1, tg2n_1, tg3n_1, tg4n_1, tg5n_1)) (hF_1_3 : (xRw fb z tg1).2 = (twn_1, tg1n_1)) (hF_1_4 : tv0n_1 = xL0 fb z (0, 0, 0)) (hF_1_5 : tv1n_1 = xL1 fb z (0, 0, 0)) (hF_1_6 : tv2n_1 = xL2 fb z (0, 0, 0)) (h_1 : r_1 = ((xRs fb z tg1 tg2 tg3 tg4 tg5).1.2.1)) (c_2 : r_1 = 0) (hF_3_0 : (∀ jq : Nat, jq < 6 → f1n_3 jq = tg1n_1 jq)) (hF_3_1 : (∀ jq : Nat, jq < 6 → f2n_3 jq = tg2n_1 jq)) (hF_3_2 : (∀ jq : Nat, jq < 6 → f3n_3 jq = tg3n_1 jq)) (hF_3_3 : (∀ jq : Nat, jq < 6 → f4n_3 jq = tg4n_1 jq)) (hF_3_4 : (∀ jq : Nat, jq < 6 → f5n_3 jq = tg5n_1 jq)) : okT fb 0 := by
  first
  | omega
  | with_reducible rfl
  | with_reducible exact okT_0 _
  | with_reducible exact lx_f hz hokT h_1 c_2
  | with_reducible exact lx_n hz hokT h_1 c_2
  | with_reducible exact lx_L hz hokT h_1 c_2 hF_1_2 hF_1_3 hF_1_4 hF_1_5 hF_1_6 hF_1_0 hF_1_1 hF_3_0 hF_3_1 hF_3_2 hF_3_3 hF_3_4
  | with_reducible exact lx_A hz hokT h_1 c_2 hF_1_2
  | with_reducible exact lx_fn hz hokT h_1 c_2
  | with_reducible exact lx_l hz hokT h_1 c_2
  | with_reducible exact lx_nn hz hokT h_1 c_2
  | omega
theorem lf_X7_level_11 {z : Nat} {fb : Nat → Int32} {thh : Nat} {tww : Nat} {tkk : Nat} {tg1 : Nat → Int32} {tg2 : Nat → Int32} {tg3 : Nat → Int32} {tg4 : Nat → Int32} {tg5 : Nat → Int32} {nv0 : Int32} {nv1 : Int32} {nv2 : Int32} {nv3 : Int32} {nv5 : Int32} {nhh : Nat} {nww : Nat} {nkk : Nat} {ng1 : Nat → Int32} {ng2 : Nat → Int32} {ng3 : Nat → Int32} {ng4 : Nat → Int32} {ng5 : Nat → Int32} {az : Nat} {fpn_1 : Int32} {fn_1 : Int32} {kn_1 : Int32} {tv0n_1 : Int32} {tv1n_1 : Int32} {tv2n_1 : Int32} {twn_1 : Nat} {tkn_1 : Nat} {tg1n_1 : Nat → Int32} {tg2n_1 : Nat → Int32} {tg3n_1 : Nat → Int32} {tg4n_1 : Nat → Int32} {tg5n_1 : Nat → Int32} {r_1 : Int32} {f1n_3 : Nat → Int32} {f2n_3 : Nat → Int32} {f3n_3 : Nat → Int32} {f4n_3 : Nat → Int32} {f5n_3 : Nat → Int32} (hz : z ≤ 120) (thb : thh ≤ 999) (htww : tww ≤ 6) (htkk : tkk ≤ 6) (nhb : nhh ≤ 999) (nwb : nww ≤ 6) (nkb : nkk ≤ 6) (haz : az ≤ 24) (hokT : okT fb z) (hF_1_0 : twn_1 ≤ 6) (hF_1_1 : tkn_1 ≤ 6) (hF_1_2 : xRs fb z tg1 tg2 tg3 tg4 tg5 = ((fpn_1, fn_1, kn_1), tkn_1, tg2n_1, tg3n_1, tg4n_1, tg5n_1)) (hF_1_3 : (xRw fb z tg1).2 = (twn_1, tg1n_1)) (hF_1_4 : tv0n_1 = xL0 fb z (0, 0, 0)) (hF_1_5 : tv1n_1 = xL1 fb z (0, 0, 0)) (hF_1_6 : tv2n_1 = xL2 fb z (0, 0, 0)) (h_1 : r_1 = ((xRs fb z tg1 tg2 tg3 tg4 tg5).1.2.1)) (c_2 : r_1 = 0) (hF_3_0 : (∀ jq : Nat, jq < 6 → f1n_3 jq = tg1n_1 jq)) (hF_3_1 : (∀ jq : Nat, jq < 6 → f2n_3 jq = tg2n_1 jq)) (hF_3_2 : (∀ jq : Nat, jq < 6 → f3n_3 jq = tg3n_1 jq)) (hF_3_3 : (∀ jq : Nat, jq < 6 → f4n_3 jq = tg4n_1 jq)) (hF_3_4 : (∀ jq : Nat, jq < 6 → f5n_3 jq = tg5n_1 jq)) : (nrm tv0n_1 tv1n_1 tv2n_1 1 0 0 twn_1 tkn_1 f1n_3 f2n_3 f3n_3 f4n_3 f5n_3) = n_lev ((rR fb z).2 = 0) (rR fb z).1.2 (nrm nv0 nv1 nv2 nv3 nhh nv5 nww nkk ng1 ng2 ng3 ng4 ng5) := by
  first
  | omega
  | with_reducible rfl
  | with_reducible exact okT_0 _
  | with_reducible exact lx_f hz hokT h_1 c_2
  | with_reducible exact lx_n hz hokT h_1 c_2
  | with_reducible exact lx_L hz hokT h_1 c_2 hF_1_2 hF_1_3 hF_1_4 hF_1_5 hF_1_6 hF_1_0 hF_1_1 hF_3_0 hF_3_1 hF_3_2 hF_3_3 hF_3_4
  | with_reducible exact lx_A hz hokT h_1 c_2 hF_1_2
  | with_reducible exact lx_fn hz hokT h_1 c_2
  | with_reducible exact lx_l hz hokT h_1 c_2
  | with_reducible exact lx_nn hz hokT h_1 c_2
  | omega
theorem lf_X7_level_12 {z : Nat} {fb : Nat → Int32} {thh : Nat} {tww : Nat} {tkk : Nat} {tg1 : Nat → Int32} {tg2 : Nat → Int32} {tg3 : Nat → Int32} {tg4 : Nat → Int32} {tg5 : Nat → Int32} {nhh : Nat} {nww : Nat} {nkk : Nat} {az : Nat} {fpn_1 : Int32} {fn_1 : Int32} {kn_1 : Int32} {tv0n_1 : Int32} {tv1n_1 : Int32} {tv2n_1 : Int32} {twn_1 : Nat} {tkn_1 : Nat} {tg1n_1 : Nat → Int32} {tg2n_1 : Nat → Int32} {tg3n_1 : Nat → Int32} {tg4n_1 : Nat → Int32} {tg5n_1 : Nat → Int32} {r_1 : Int32} {f1n_3 : Nat → Int32} {f2n_3 : Nat → Int32} {f3n_3 : Nat → Int32} {f4n_3 : Nat → Int32} {f5n_3 : Nat → Int32} (hz : z ≤ 120) (thb : thh ≤ 999) (htww : tww ≤ 6) (htkk : tkk ≤ 6) (nhb : nhh ≤ 999) (nwb : nww ≤ 6) (nkb : nkk ≤ 6) (haz : az ≤ 24) (hokT : okT fb z) (hF_1_0 : twn_1 ≤ 6) (hF_1_1 : tkn_1 ≤ 6) (hF_1_2 : xRs fb z tg1 tg2 tg3 tg4 tg5 = ((fpn_1, fn_1, kn_1), tkn_1, tg2n_1, tg3n_1, tg4n_1, tg5n_1)) (hF_1_3 : (xRw fb z tg1).2 = (twn_1, tg1n_1)) (hF_1_4 : tv0n_1 = xL0 fb z (0, 0, 0)) (hF_1_5 : tv1n_1 = xL1 fb z (0, 0, 0)) (hF_1_6 : tv2n_1 = xL2 fb z (0, 0, 0)) (h_1 : r_1 = ((xRs fb z tg1 tg2 tg3 tg4 tg5).1.2.1)) (c_2 : r_1 = 0) (hF_3_0 : (∀ jq : Nat, jq < 6 → f1n_3 jq = tg1n_1 jq)) (hF_3_1 : (∀ jq : Nat, jq < 6 → f2n_3 jq = tg2n_1 jq)) (hF_3_2 : (∀ jq : Nat, jq < 6 → f3n_3 jq = tg3n_1 jq)) (hF_3_3 : (∀ jq : Nat, jq < 6 → f4n_3 jq = tg4n_1 jq)) (hF_3_4 : (∀ jq : Nat, jq < 6 → f5n_3 jq = tg5n_1 jq)) : 0 = n_levN ((rR fb z).2 = 0) az := by
  first
  | omega
  | with_reducible rfl
  | with_reducible exact okT_0 _
  | with_reducible exact lx_f hz hokT h_1 c_2
  | with_reducible exact lx_n hz hokT h_1 c_2
  | with_reducible exact lx_L hz hokT h_1 c_2 hF_1_2 hF_1_3 hF_1_4 hF_1_5 hF_1_6 hF_1_0 hF_1_1 hF_3_0 hF_3_1 hF_3_2 hF_3_3 hF_3_4
  | with_reducible exact lx_A hz hokT h_1 c_2 hF_1_2
  | with_reducible exact lx_fn hz hokT h_1 c_2
  | with_reducible exact lx_l hz hokT h_1 c_2
  | with_reducible exact lx_nn hz hokT h_1 c_2
  | omega
theorem lf_X7_level_13 {z : Nat} {fb : Nat → Int32} {thh : Nat} {tww : Nat} {tkk : Nat} {tg1 : Nat → Int32} {tg2 : Nat → Int32} {tg3 : Nat → Int32} {tg4 : Nat → Int32} {tg5 : Nat → Int32} {nhh : Nat} {nww : Nat} {nkk : Nat} {az : Nat} {fpn_1 : Int32} {fn_1 : Int32} {kn_1 : Int32} {tv0n_1 : Int32} {tv1n_1 : Int32} {tv2n_1 : Int32} {twn_1 : Nat} {tkn_1 : Nat} {tg1n_1 : Nat → Int32} {tg2n_1 : Nat → Int32} {tg3n_1 : Nat → Int32} {tg4n_1 : Nat → Int32} {tg5n_1 : Nat → Int32} {r_1 : Int32} {f1n_3 : Nat → Int32} {f2n_3 : Nat → Int32} {f3n_3 : Nat → Int32} {f4n_3 : Nat → Int32} {f5n_3 : Nat → Int32} (hz : z ≤ 120) (thb : thh ≤ 999) (htww : tww ≤ 6) (htkk : tkk ≤ 6) (nhb : nhh ≤ 999) (nwb : nww ≤ 6) (nkb : nkk ≤ 6) (haz : az ≤ 24) (hokT : okT fb z) (hF_1_0 : twn_1 ≤ 6) (hF_1_1 : tkn_1 ≤ 6) (hF_1_2 : xRs fb z tg1 tg2 tg3 tg4 tg5 = ((fpn_1, fn_1, kn_1), tkn_1, tg2n_1, tg3n_1, tg4n_1, tg5n_1)) (hF_1_3 : (xRw fb z tg1).2 = (twn_1, tg1n_1)) (hF_1_4 : tv0n_1 = xL0 fb z (0, 0, 0)) (hF_1_5 : tv1n_1 = xL1 fb z (0, 0, 0)) (hF_1_6 : tv2n_1 = xL2 fb z (0, 0, 0)) (h_1 : r_1 = ((xRs fb z tg1 tg2 tg3 tg4 tg5).1.2.1)) (c_2 : r_1 = 0) (hF_3_0 : (∀ jq : Nat, jq < 6 → f1n_3 jq = tg1n_1 jq)) (hF_3_1 : (∀ jq : Nat, jq < 6 → f2n_3 jq = tg2n_1 jq)) (hF_3_2 : (∀ jq : Nat, jq < 6 → f3n_3 jq = tg3n_1 jq)) (hF_3_3 : (∀ jq : Nat, jq < 6 → f4n_3 jq = tg4n_1 jq)) (hF_3_4 : (∀ jq : Nat, jq < 6 → f5n_3 jq = tg5n_1 jq)) : (nI tkn_1) = (lvA fb z) := by
  first
  | omega
  | with_reducible rfl
  | with_reducible exact okT_0 _
  | with_reducible exact lx_f hz hokT h_1 c_2
  | with_reducible exact lx_n hz hokT h_1 c_2
  | with_reducible exact lx_L hz hokT h_1 c_2 hF_1_2 hF_1_3 hF_1_4 hF_1_5 hF_1_6 hF_1_0 hF_1_1 hF_3_0 hF_3_1 hF_3_2 hF_3_3 hF_3_4
  | with_reducible exact lx_A hz hokT h_1 c_2 hF_1_2
  | with_reducible exact lx_fn hz hokT h_1 c_2
  | with_reducible exact lx_l hz hokT h_1 c_2
  | with_reducible exact lx_nn hz hokT h_1 c_2
  | omega
theorem lf_X7_level_14 {z : Nat} {fb : Nat → Int32} {thh : Nat} {tww : Nat} {tkk : Nat} {tg1 : Nat → Int32} {tg2 : Nat → Int32} {tg3 : Nat → Int32} {tg4 : Nat → Int32} {tg5 : Nat → Int32} {nhh : Nat} {nww : Nat} {nkk : Nat} {az : Nat} {fpn_1 : Int32} {fn_1 : Int32} {kn_1 : Int32} {tv0n_1 : Int32} {tv1n_1 : Int32} {tv2n_1 : Int32} {twn_1 : Nat} {tkn_1 : Nat} {tg1n_1 : Nat → Int32} {tg2n_1 : Nat → Int32} {tg3n_1 : Nat → Int32} {tg4n_1 : Nat → Int32} {tg5n_1 : Nat → Int32} {r_1 : Int32} {v_5 : Int32} (hz : z ≤ 120) (thb : thh ≤ 999) (htww : tww ≤ 6) (htkk : tkk ≤ 6) (nhb : nhh ≤ 999) (nwb : nww ≤ 6) (nkb : nkk ≤ 6) (haz : az ≤ 24) (hokT : okT fb z) (hF_1_0 : twn_1 ≤ 6) (hF_1_1 : tkn_1 ≤ 6) (hF_1_2 : xRs fb z tg1 tg2 tg3 tg4 tg5 = ((fpn_1, fn_1, kn_1), tkn_1, tg2n_1, tg3n_1, tg4n_1, tg5n_1)) (hF_1_3 : (xRw fb z tg1).2 = (twn_1, tg1n_1)) (hF_1_4 : tv0n_1 = xL0 fb z (0, 0, 0)) (hF_1_5 : tv1n_1 = xL1 fb z (0, 0, 0)) (hF_1_6 : tv2n_1 = xL2 fb z (0, 0, 0)) (h_1 : r_1 = ((xRs fb z tg1 tg2 tg3 tg4 tg5).1.2.1)) (c_2 : ¬ (r_1 = 0)) (e_5 : v_5 = ((-1000100) - fpn_1)) : 0 ≤ 999 := by
  first
  | omega
  | with_reducible rfl
  | with_reducible exact okT_0 _
  | with_reducible exact lx_f hz hokT h_1 c_2
  | with_reducible exact lx_n hz hokT h_1 c_2
  | with_reducible exact lx_A hz hokT h_1 c_2 hF_1_2
  | with_reducible exact lx_fn hz hokT h_1 c_2
  | with_reducible exact lx_l hz hokT h_1 c_2
  | with_reducible exact lx_nn hz hokT h_1 c_2
  | with_reducible exact lx_AN hz hokT h_1 c_2 hF_1_2 e_5
  | omega
theorem lf_X7_level_15 {z : Nat} {fb : Nat → Int32} {thh : Nat} {tww : Nat} {tkk : Nat} {tg1 : Nat → Int32} {tg2 : Nat → Int32} {tg3 : Nat → Int32} {tg4 : Nat → Int32} {tg5 : Nat → Int32} {nhh : Nat} {nww : Nat} {nkk : Nat} {az : Nat} {fpn_1 : Int32} {fn_1 : Int32} {kn_1 : Int32} {tv0n_1 : Int32} {tv1n_1 : Int32} {tv2n_1 : Int32} {twn_1 : Nat} {tkn_1 : Nat} {tg1n_1 : Nat → Int32} {tg2n_1 : Nat → Int32} {tg3n_1 : Nat → Int32} {tg4n_1 : Nat → Int32} {tg5n_1 : Nat → Int32} {r_1 : Int32} {v_5 : Int32} (hz : z ≤ 120) (thb : thh ≤ 999) (htww : tww ≤ 6) (htkk : tkk ≤ 6) (nhb : nhh ≤ 999) (nwb : nww ≤ 6) (nkb : nkk ≤ 6) (haz : az ≤ 24) (hokT : okT fb z) (hF_1_0 : twn_1 ≤ 6) (hF_1_1 : tkn_1 ≤ 6) (hF_1_2 : xRs fb z tg1 tg2 tg3 tg4 tg5 = ((fpn_1, fn_1, kn_1), tkn_1, tg2n_1, tg3n_1, tg4n_1, tg5n_1)) (hF_1_3 : (xRw fb z tg1).2 = (twn_1, tg1n_1)) (hF_1_4 : tv0n_1 = xL0 fb z (0, 0, 0)) (hF_1_5 : tv1n_1 = xL1 fb z (0, 0, 0)) (hF_1_6 : tv2n_1 = xL2 fb z (0, 0, 0)) (h_1 : r_1 = ((xRs fb z tg1 tg2 tg3 tg4 tg5).1.2.1)) (c_2 : ¬ (r_1 = 0)) (e_5 : v_5 = ((-1000100) - fpn_1)) : twn_1 ≤ 6 := by
  first
  | omega
  | with_reducible rfl
  | with_reducible exact okT_0 _
  | with_reducible exact lx_f hz hokT h_1 c_2
  | with_reducible exact lx_n hz hokT h_1 c_2
  | with_reducible exact lx_A hz hokT h_1 c_2 hF_1_2
  | with_reducible exact lx_fn hz hokT h_1 c_2
  | with_reducible exact lx_l hz hokT h_1 c_2
  | with_reducible exact lx_nn hz hokT h_1 c_2
  | with_reducible exact lx_AN hz hokT h_1 c_2 hF_1_2 e_5
  | omega
theorem lf_X7_level_16 {z : Nat} {fb : Nat → Int32} {thh : Nat} {tww : Nat} {tkk : Nat} {tg1 : Nat → Int32} {tg2 : Nat → Int32} {tg3 : Nat → Int32} {tg4 : Nat → Int32} {tg5 : Nat → Int32} {nhh : Nat} {nww : Nat} {nkk : Nat} {az : Nat} {fpn_1 : Int32} {fn_1 : Int32} {kn_1 : Int32} {tv0n_1 : Int32} {tv1n_1 : Int32} {tv2n_1 : Int32} {twn_1 : Nat} {tkn_1 : Nat} {tg1n_1 : Nat → Int32} {tg2n_1 : Nat → Int32} {tg3n_1 : Nat → Int32} {tg4n_1 : Nat → Int32} {tg5n_1 : Nat → Int32} {r_1 : Int32} {v_5 : Int32} (hz : z ≤ 120) (thb : thh ≤ 999) (htww : tww ≤ 6) (htkk : tkk ≤ 6) (nhb : nhh ≤ 999) (nwb : nww ≤ 6) (nkb : nkk ≤ 6) (haz : az ≤ 24) (hokT : okT fb z) (hF_1_0 : twn_1 ≤ 6) (hF_1_1 : tkn_1 ≤ 6) (hF_1_2 : xRs fb z tg1 tg2 tg3 tg4 tg5 = ((fpn_1, fn_1, kn_1), tkn_1, tg2n_1, tg3n_1, tg4n_1, tg5n_1)) (hF_1_3 : (xRw fb z tg1).2 = (twn_1, tg1n_1)) (hF_1_4 : tv0n_1 = xL0 fb z (0, 0, 0)) (hF_1_5 : tv1n_1 = xL1 fb z (0, 0, 0)) (hF_1_6 : tv2n_1 = xL2 fb z (0, 0, 0)) (h_1 : r_1 = ((xRs fb z tg1 tg2 tg3 tg4 tg5).1.2.1)) (c_2 : ¬ (r_1 = 0)) (e_5 : v_5 = ((-1000100) - fpn_1)) : tkn_1 ≤ 6 := by
  first
  | omega
  | with_reducible rfl
  | with_reducible exact okT_0 _
  | with_reducible exact lx_f hz hokT h_1 c_2
  | with_reducible exact lx_n hz hokT h_1 c_2
  | with_reducible exact lx_A hz hokT h_1 c_2 hF_1_2
  | with_reducible exact lx_fn hz hokT h_1 c_2
  | with_reducible exact lx_l hz hokT h_1 c_2
  | with_reducible exact lx_nn hz hokT h_1 c_2
  | with_reducible exact lx_AN hz hokT h_1 c_2 hF_1_2 e_5
  | omega
theorem lf_X7_level_17 {z : Nat} {fb : Nat → Int32} {thh : Nat} {tww : Nat} {tkk : Nat} {tg1 : Nat → Int32} {tg2 : Nat → Int32} {tg3 : Nat → Int32} {tg4 : Nat → Int32} {tg5 : Nat → Int32} {nhh : Nat} {nww : Nat} {nkk : Nat} {az : Nat} {fpn_1 : Int32} {fn_1 : Int32} {kn_1 : Int32} {tv0n_1 : Int32} {tv1n_1 : Int32} {tv2n_1 : Int32} {twn_1 : Nat} {tkn_1 : Nat} {tg1n_1 : Nat → Int32} {tg2n_1 : Nat → Int32} {tg3n_1 : Nat → Int32} {tg4n_1 : Nat → Int32} {tg5n_1 : Nat → Int32} {r_1 : Int32} {v_5 : Int32} (hz : z ≤ 120) (thb : thh ≤ 999) (htww : tww ≤ 6) (htkk : tkk ≤ 6) (nhb : nhh ≤ 999) (nwb : nww ≤ 6) (nkb : nkk ≤ 6) (haz : az ≤ 24) (hokT : okT fb z) (hF_1_0 : twn_1 ≤ 6) (hF_1_1 : tkn_1 ≤ 6) (hF_1_2 : xRs fb z tg1 tg2 tg3 tg4 tg5 = ((fpn_1, fn_1, kn_1), tkn_1, tg2n_1, tg3n_1, tg4n_1, tg5n_1)) (hF_1_3 : (xRw fb z tg1).2 = (twn_1, tg1n_1)) (hF_1_4 : tv0n_1 = xL0 fb z (0, 0, 0)) (hF_1_5 : tv1n_1 = xL1 fb z (0, 0, 0)) (hF_1_6 : tv2n_1 = xL2 fb z (0, 0, 0)) (h_1 : r_1 = ((xRs fb z tg1 tg2 tg3 tg4 tg5).1.2.1)) (c_2 : ¬ (r_1 = 0)) (e_5 : v_5 = ((-1000100) - fpn_1)) : nhh ≤ 999 := by
  first
  | omega
  | with_reducible rfl
  | with_reducible exact okT_0 _
  | with_reducible exact lx_f hz hokT h_1 c_2
  | with_reducible exact lx_n hz hokT h_1 c_2
  | with_reducible exact lx_A hz hokT h_1 c_2 hF_1_2
  | with_reducible exact lx_fn hz hokT h_1 c_2
  | with_reducible exact lx_l hz hokT h_1 c_2
  | with_reducible exact lx_nn hz hokT h_1 c_2
  | with_reducible exact lx_AN hz hokT h_1 c_2 hF_1_2 e_5
  | omega
theorem lf_X7_level_18 {z : Nat} {fb : Nat → Int32} {thh : Nat} {tww : Nat} {tkk : Nat} {tg1 : Nat → Int32} {tg2 : Nat → Int32} {tg3 : Nat → Int32} {tg4 : Nat → Int32} {tg5 : Nat → Int32} {nhh : Nat} {nww : Nat} {nkk : Nat} {az : Nat} {fpn_1 : Int32} {fn_1 : Int32} {kn_1 : Int32} {tv0n_1 : Int32} {tv1n_1 : Int32} {tv2n_1 : Int32} {twn_1 : Nat} {tkn_1 : Nat} {tg1n_1 : Nat → Int32} {tg2n_1 : Nat → Int32} {tg3n_1 : Nat → Int32} {tg4n_1 : Nat → Int32} {tg5n_1 : Nat → Int32} {r_1 : Int32} {v_5 : Int32} (hz : z ≤ 120) (thb : thh ≤ 999) (htww : tww ≤ 6) (htkk : tkk ≤ 6) (nhb : nhh ≤ 999) (nwb : nww ≤ 6) (nkb : nkk ≤ 6) (haz : az ≤ 24) (hokT : okT fb z) (hF_1_0 : twn_1 ≤ 6) (hF_1_1 : tkn_1 ≤ 6) (hF_1_2 : xRs fb z tg1 tg2 tg3 tg4 tg5 = ((fpn_1, fn_1, kn_1), tkn_1, tg2n_1, tg3n_1, tg4n_1, tg5n_1)) (hF_1_3 : (xRw fb z tg1).2 = (twn_1, tg1n_1)) (hF_1_4 : tv0n_1 = xL0 fb z (0, 0, 0)) (hF_1_5 : tv1n_1 = xL1 fb z (0, 0, 0)) (hF_1_6 : tv2n_1 = xL2 fb z (0, 0, 0)) (h_1 : r_1 = ((xRs fb z tg1 tg2 tg3 tg4 tg5).1.2.1)) (c_2 : ¬ (r_1 = 0)) (e_5 : v_5 = ((-1000100) - fpn_1)) : nww ≤ 6 := by
  first
  | omega
  | with_reducible rfl
  | with_reducible exact okT_0 _
  | with_reducible exact lx_f hz hokT h_1 c_2
  | with_reducible exact lx_n hz hokT h_1 c_2
  | with_reducible exact lx_A hz hokT h_1 c_2 hF_1_2
  | with_reducible exact lx_fn hz hokT h_1 c_2
  | with_reducible exact lx_l hz hokT h_1 c_2
  | with_reducible exact lx_nn hz hokT h_1 c_2
  | with_reducible exact lx_AN hz hokT h_1 c_2 hF_1_2 e_5
  | omega
theorem lf_X7_level_19 {z : Nat} {fb : Nat → Int32} {thh : Nat} {tww : Nat} {tkk : Nat} {tg1 : Nat → Int32} {tg2 : Nat → Int32} {tg3 : Nat → Int32} {tg4 : Nat → Int32} {tg5 : Nat → Int32} {nhh : Nat} {nww : Nat} {nkk : Nat} {az : Nat} {fpn_1 : Int32} {fn_1 : Int32} {kn_1 : Int32} {tv0n_1 : Int32} {tv1n_1 : Int32} {tv2n_1 : Int32} {twn_1 : Nat} {tkn_1 : Nat} {tg1n_1 : Nat → Int32} {tg2n_1 : Nat → Int32} {tg3n_1 : Nat → Int32} {tg4n_1 : Nat → Int32} {tg5n_1 : Nat → Int32} {r_1 : Int32} {v_5 : Int32} (hz : z ≤ 120) (thb : thh ≤ 999) (htww : tww ≤ 6) (htkk : tkk ≤ 6) (nhb : nhh ≤ 999) (nwb : nww ≤ 6) (nkb : nkk ≤ 6) (haz : az ≤ 24) (hokT : okT fb z) (hF_1_0 : twn_1 ≤ 6) (hF_1_1 : tkn_1 ≤ 6) (hF_1_2 : xRs fb z tg1 tg2 tg3 tg4 tg5 = ((fpn_1, fn_1, kn_1), tkn_1, tg2n_1, tg3n_1, tg4n_1, tg5n_1)) (hF_1_3 : (xRw fb z tg1).2 = (twn_1, tg1n_1)) (hF_1_4 : tv0n_1 = xL0 fb z (0, 0, 0)) (hF_1_5 : tv1n_1 = xL1 fb z (0, 0, 0)) (hF_1_6 : tv2n_1 = xL2 fb z (0, 0, 0)) (h_1 : r_1 = ((xRs fb z tg1 tg2 tg3 tg4 tg5).1.2.1)) (c_2 : ¬ (r_1 = 0)) (e_5 : v_5 = ((-1000100) - fpn_1)) : nkk ≤ 6 := by
  first
  | omega
  | with_reducible rfl
  | with_reducible exact okT_0 _
  | with_reducible exact lx_f hz hokT h_1 c_2
  | with_reducible exact lx_n hz hokT h_1 c_2
  | with_reducible exact lx_A hz hokT h_1 c_2 hF_1_2
  | with_reducible exact lx_fn hz hokT h_1 c_2
  | with_reducible exact lx_l hz hokT h_1 c_2
  | with_reducible exact lx_nn hz hokT h_1 c_2
  | with_reducible exact lx_AN hz hokT h_1 c_2 hF_1_2 e_5
  | omega
theorem lf_X7_level_20 {z : Nat} {fb : Nat → Int32} {thh : Nat} {tww : Nat} {tkk : Nat} {tg1 : Nat → Int32} {tg2 : Nat → Int32} {tg3 : Nat → Int32} {tg4 : Nat → Int32} {tg5 : Nat → Int32} {nhh : Nat} {nww : Nat} {nkk : Nat} {az : Nat} {fpn_1 : Int32} {fn_1 : Int32} {kn_1 : Int32} {tv0n_1 : Int32} {tv1n_1 : Int32} {tv2n_1 : Int32} {twn_1 : Nat} {tkn_1 : Nat} {tg1n_1 : Nat → Int32} {tg2n_1 : Nat → Int32} {tg3n_1 : Nat → Int32} {tg4n_1 : Nat → Int32} {tg5n_1 : Nat → Int32} {r_1 : Int32} {v_5 : Int32} (hz : z ≤ 120) (thb : thh ≤ 999) (htww : tww ≤ 6) (htkk : tkk ≤ 6) (nhb : nhh ≤ 999) (nwb : nww ≤ 6) (nkb : nkk ≤ 6) (haz : az ≤ 24) (hokT : okT fb z) (hF_1_0 : twn_1 ≤ 6) (hF_1_1 : tkn_1 ≤ 6) (hF_1_2 : xRs fb z tg1 tg2 tg3 tg4 tg5 = ((fpn_1, fn_1, kn_1), tkn_1, tg2n_1, tg3n_1, tg4n_1, tg5n_1)) (hF_1_3 : (xRw fb z tg1).2 = (twn_1, tg1n_1)) (hF_1_4 : tv0n_1 = xL0 fb z (0, 0, 0)) (hF_1_5 : tv1n_1 = xL1 fb z (0, 0, 0)) (hF_1_6 : tv2n_1 = xL2 fb z (0, 0, 0)) (h_1 : r_1 = ((xRs fb z tg1 tg2 tg3 tg4 tg5).1.2.1)) (c_2 : ¬ (r_1 = 0)) (e_5 : v_5 = ((-1000100) - fpn_1)) : az ≤ 24 := by
  first
  | omega
  | with_reducible rfl
  | with_reducible exact okT_0 _
  | with_reducible exact lx_f hz hokT h_1 c_2
  | with_reducible exact lx_n hz hokT h_1 c_2
  | with_reducible exact lx_A hz hokT h_1 c_2 hF_1_2
  | with_reducible exact lx_fn hz hokT h_1 c_2
  | with_reducible exact lx_l hz hokT h_1 c_2
  | with_reducible exact lx_nn hz hokT h_1 c_2
  | with_reducible exact lx_AN hz hokT h_1 c_2 hF_1_2 e_5
  | omega
theorem lf_X7_level_21 {z : Nat} {fb : Nat → Int32} {thh : Nat} {tww : Nat} {tkk : Nat} {tg1 : Nat → Int32} {tg2 : Nat → Int32} {tg3 : Nat → Int32} {tg4 : Nat → Int32} {tg5 : Nat → Int32} {nhh : Nat} {nww : Nat} {nkk : Nat} {az : Nat} {fpn_1 : Int32} {fn_1 : Int32} {kn_1 : Int32} {tv0n_1 : Int32} {tv1n_1 : Int32} {tv2n_1 : Int32} {twn_1 : Nat} {tkn_1 : Nat} {tg1n_1 : Nat → Int32} {tg2n_1 : Nat → Int32} {tg3n_1 : Nat → Int32} {tg4n_1 : Nat → Int32} {tg5n_1 : Nat → Int32} {r_1 : Int32} {v_5 : Int32} (hz : z ≤ 120) (thb : thh ≤ 999) (htww : tww ≤ 6) (htkk : tkk ≤ 6) (nhb : nhh ≤ 999) (nwb : nww ≤ 6) (nkb : nkk ≤ 6) (haz : az ≤ 24) (hokT : okT fb z) (hF_1_0 : twn_1 ≤ 6) (hF_1_1 : tkn_1 ≤ 6) (hF_1_2 : xRs fb z tg1 tg2 tg3 tg4 tg5 = ((fpn_1, fn_1, kn_1), tkn_1, tg2n_1, tg3n_1, tg4n_1, tg5n_1)) (hF_1_3 : (xRw fb z tg1).2 = (twn_1, tg1n_1)) (hF_1_4 : tv0n_1 = xL0 fb z (0, 0, 0)) (hF_1_5 : tv1n_1 = xL1 fb z (0, 0, 0)) (hF_1_6 : tv2n_1 = xL2 fb z (0, 0, 0)) (h_1 : r_1 = ((xRs fb z tg1 tg2 tg3 tg4 tg5).1.2.1)) (c_2 : ¬ (r_1 = 0)) (e_5 : v_5 = ((-1000100) - fpn_1)) : fb = fb := by
  first
  | omega
  | with_reducible rfl
  | with_reducible exact okT_0 _
  | with_reducible exact lx_f hz hokT h_1 c_2
  | with_reducible exact lx_n hz hokT h_1 c_2
  | with_reducible exact lx_A hz hokT h_1 c_2 hF_1_2
  | with_reducible exact lx_fn hz hokT h_1 c_2
  | with_reducible exact lx_l hz hokT h_1 c_2
  | with_reducible exact lx_nn hz hokT h_1 c_2
  | with_reducible exact lx_AN hz hokT h_1 c_2 hF_1_2 e_5
  | omega
theorem lf_X7_level_22 {xf : Int32} {z : Nat} {fb : Nat → Int32} {thh : Nat} {tww : Nat} {tkk : Nat} {tg1 : Nat → Int32} {tg2 : Nat → Int32} {tg3 : Nat → Int32} {tg4 : Nat → Int32} {tg5 : Nat → Int32} {nhh : Nat} {nww : Nat} {nkk : Nat} {az : Nat} {fpn_1 : Int32} {fn_1 : Int32} {kn_1 : Int32} {tv0n_1 : Int32} {tv1n_1 : Int32} {tv2n_1 : Int32} {twn_1 : Nat} {tkn_1 : Nat} {tg1n_1 : Nat → Int32} {tg2n_1 : Nat → Int32} {tg3n_1 : Nat → Int32} {tg4n_1 : Nat → Int32} {tg5n_1 : Nat → Int32} {r_1 : Int32} {v_5 : Int32} (hz : z ≤ 120) (thb : thh ≤ 999) (htww : tww ≤ 6) (htkk : tkk ≤ 6) (nhb : nhh ≤ 999) (nwb : nww ≤ 6) (nkb : nkk ≤ 6) (haz : az ≤ 24) (hokT : okT fb z) (hF_1_0 : twn_1 ≤ 6) (hF_1_1 : tkn_1 ≤ 6) (hF_1_2 : xRs fb z tg1 tg2 tg3 tg4 tg5 = ((fpn_1, fn_1, kn_1), tkn_1, tg2n_1, tg3n_1, tg4n_1, tg5n_1)) (hF_1_3 : (xRw fb z tg1).2 = (twn_1, tg1n_1)) (hF_1_4 : tv0n_1 = xL0 fb z (0, 0, 0)) (hF_1_5 : tv1n_1 = xL1 fb z (0, 0, 0)) (hF_1_6 : tv2n_1 = xL2 fb z (0, 0, 0)) (h_1 : r_1 = ((xRs fb z tg1 tg2 tg3 tg4 tg5).1.2.1)) (c_2 : ¬ (r_1 = 0)) (e_5 : v_5 = ((-1000100) - fpn_1)) : r_1 = lvF fb z xf := by
  first
  | omega
  | with_reducible rfl
  | with_reducible exact okT_0 _
  | with_reducible exact lx_f hz hokT h_1 c_2
  | with_reducible exact lx_n hz hokT h_1 c_2
  | with_reducible exact lx_A hz hokT h_1 c_2 hF_1_2
  | with_reducible exact lx_fn hz hokT h_1 c_2
  | with_reducible exact lx_l hz hokT h_1 c_2
  | with_reducible exact lx_nn hz hokT h_1 c_2
  | with_reducible exact lx_AN hz hokT h_1 c_2 hF_1_2 e_5
  | omega
theorem lf_X7_level_23 {z : Nat} {fb : Nat → Int32} {thh : Nat} {tww : Nat} {tkk : Nat} {tg1 : Nat → Int32} {tg2 : Nat → Int32} {tg3 : Nat → Int32} {tg4 : Nat → Int32} {tg5 : Nat → Int32} {nhh : Nat} {nww : Nat} {nkk : Nat} {az : Nat} {fpn_1 : Int32} {fn_1 : Int32} {kn_1 : Int32} {tv0n_1 : Int32} {tv1n_1 : Int32} {tv2n_1 : Int32} {twn_1 : Nat} {tkn_1 : Nat} {tg1n_1 : Nat → Int32} {tg2n_1 : Nat → Int32} {tg3n_1 : Nat → Int32} {tg4n_1 : Nat → Int32} {tg5n_1 : Nat → Int32} {r_1 : Int32} {v_5 : Int32} (hz : z ≤ 120) (thb : thh ≤ 999) (htww : tww ≤ 6) (htkk : tkk ≤ 6) (nhb : nhh ≤ 999) (nwb : nww ≤ 6) (nkb : nkk ≤ 6) (haz : az ≤ 24) (hokT : okT fb z) (hF_1_0 : twn_1 ≤ 6) (hF_1_1 : tkn_1 ≤ 6) (hF_1_2 : xRs fb z tg1 tg2 tg3 tg4 tg5 = ((fpn_1, fn_1, kn_1), tkn_1, tg2n_1, tg3n_1, tg4n_1, tg5n_1)) (hF_1_3 : (xRw fb z tg1).2 = (twn_1, tg1n_1)) (hF_1_4 : tv0n_1 = xL0 fb z (0, 0, 0)) (hF_1_5 : tv1n_1 = xL1 fb z (0, 0, 0)) (hF_1_6 : tv2n_1 = xL2 fb z (0, 0, 0)) (h_1 : r_1 = ((xRs fb z tg1 tg2 tg3 tg4 tg5).1.2.1)) (c_2 : ¬ (r_1 = 0)) (e_5 : v_5 = ((-1000100) - fpn_1)) : okT fb 0 := by
  first
  | omega
  | with_reducible rfl
  | with_reducible exact okT_0 _
  | with_reducible exact lx_f hz hokT h_1 c_2
  | with_reducible exact lx_n hz hokT h_1 c_2
  | with_reducible exact lx_A hz hokT h_1 c_2 hF_1_2
  | with_reducible exact lx_fn hz hokT h_1 c_2
  | with_reducible exact lx_l hz hokT h_1 c_2
  | with_reducible exact lx_nn hz hokT h_1 c_2
  | with_reducible exact lx_AN hz hokT h_1 c_2 hF_1_2 e_5
  | omega
theorem lf_X7_level_24 {z : Nat} {fb : Nat → Int32} {thh : Nat} {tww : Nat} {tkk : Nat} {tg1 : Nat → Int32} {tg2 : Nat → Int32} {tg3 : Nat → Int32} {tg4 : Nat → Int32} {tg5 : Nat → Int32} {nv0 : Int32} {nv1 : Int32} {nv2 : Int32} {nv3 : Int32} {nv5 : Int32} {nhh : Nat} {nww : Nat} {nkk : Nat} {ng1 : Nat → Int32} {ng2 : Nat → Int32} {ng3 : Nat → Int32} {ng4 : Nat → Int32} {ng5 : Nat → Int32} {az : Nat} {fpn_1 : Int32} {fn_1 : Int32} {kn_1 : Int32} {tv0n_1 : Int32} {tv1n_1 : Int32} {tv2n_1 : Int32} {twn_1 : Nat} {tkn_1 : Nat} {tg1n_1 : Nat → Int32} {tg2n_1 : Nat → Int32} {tg3n_1 : Nat → Int32} {tg4n_1 : Nat → Int32} {tg5n_1 : Nat → Int32} {r_1 : Int32} {v_5 : Int32} (hz : z ≤ 120) (thb : thh ≤ 999) (htww : tww ≤ 6) (htkk : tkk ≤ 6) (nhb : nhh ≤ 999) (nwb : nww ≤ 6) (nkb : nkk ≤ 6) (haz : az ≤ 24) (hokT : okT fb z) (hF_1_0 : twn_1 ≤ 6) (hF_1_1 : tkn_1 ≤ 6) (hF_1_2 : xRs fb z tg1 tg2 tg3 tg4 tg5 = ((fpn_1, fn_1, kn_1), tkn_1, tg2n_1, tg3n_1, tg4n_1, tg5n_1)) (hF_1_3 : (xRw fb z tg1).2 = (twn_1, tg1n_1)) (hF_1_4 : tv0n_1 = xL0 fb z (0, 0, 0)) (hF_1_5 : tv1n_1 = xL1 fb z (0, 0, 0)) (hF_1_6 : tv2n_1 = xL2 fb z (0, 0, 0)) (h_1 : r_1 = ((xRs fb z tg1 tg2 tg3 tg4 tg5).1.2.1)) (c_2 : ¬ (r_1 = 0)) (e_5 : v_5 = ((-1000100) - fpn_1)) : (nrm nv0 nv1 nv2 nv3 nhh nv5 nww nkk ng1 ng2 ng3 ng4 ng5) = n_lev ((rR fb z).2 = 0) (rR fb z).1.2 (nrm nv0 nv1 nv2 nv3 nhh nv5 nww nkk ng1 ng2 ng3 ng4 ng5) := by
  first
  | omega
  | with_reducible rfl
  | with_reducible exact okT_0 _
  | with_reducible exact lx_f hz hokT h_1 c_2
  | with_reducible exact lx_n hz hokT h_1 c_2
  | with_reducible exact lx_A hz hokT h_1 c_2 hF_1_2
  | with_reducible exact lx_fn hz hokT h_1 c_2
  | with_reducible exact lx_l hz hokT h_1 c_2
  | with_reducible exact lx_nn hz hokT h_1 c_2
  | with_reducible exact lx_AN hz hokT h_1 c_2 hF_1_2 e_5
  | omega
theorem lf_X7_level_25 {z : Nat} {fb : Nat → Int32} {thh : Nat} {tww : Nat} {tkk : Nat} {tg1 : Nat → Int32} {tg2 : Nat → Int32} {tg3 : Nat → Int32} {tg4 : Nat → Int32} {tg5 : Nat → Int32} {nhh : Nat} {nww : Nat} {nkk : Nat} {az : Nat} {fpn_1 : Int32} {fn_1 : Int32} {kn_1 : Int32} {tv0n_1 : Int32} {tv1n_1 : Int32} {tv2n_1 : Int32} {twn_1 : Nat} {tkn_1 : Nat} {tg1n_1 : Nat → Int32} {tg2n_1 : Nat → Int32} {tg3n_1 : Nat → Int32} {tg4n_1 : Nat → Int32} {tg5n_1 : Nat → Int32} {r_1 : Int32} {v_5 : Int32} (hz : z ≤ 120) (thb : thh ≤ 999) (htww : tww ≤ 6) (htkk : tkk ≤ 6) (nhb : nhh ≤ 999) (nwb : nww ≤ 6) (nkb : nkk ≤ 6) (haz : az ≤ 24) (hokT : okT fb z) (hF_1_0 : twn_1 ≤ 6) (hF_1_1 : tkn_1 ≤ 6) (hF_1_2 : xRs fb z tg1 tg2 tg3 tg4 tg5 = ((fpn_1, fn_1, kn_1), tkn_1, tg2n_1, tg3n_1, tg4n_1, tg5n_1)) (hF_1_3 : (xRw fb z tg1).2 = (twn_1, tg1n_1)) (hF_1_4 : tv0n_1 = xL0 fb z (0, 0, 0)) (hF_1_5 : tv1n_1 = xL1 fb z (0, 0, 0)) (hF_1_6 : tv2n_1 = xL2 fb z (0, 0, 0)) (h_1 : r_1 = ((xRs fb z tg1 tg2 tg3 tg4 tg5).1.2.1)) (c_2 : ¬ (r_1 = 0)) (e_5 : v_5 = ((-1000100) - fpn_1)) : az = n_levN ((rR fb z).2 = 0) az := by
  first
  | omega
  | with_reducible rfl
  | with_reducible exact okT_0 _
  | with_reducible exact lx_f hz hokT h_1 c_2
  | with_reducible exact lx_n hz hokT h_1 c_2
  | with_reducible exact lx_A hz hokT h_1 c_2 hF_1_2
  | with_reducible exact lx_fn hz hokT h_1 c_2
  | with_reducible exact lx_l hz hokT h_1 c_2
  | with_reducible exact lx_nn hz hokT h_1 c_2
  | with_reducible exact lx_AN hz hokT h_1 c_2 hF_1_2 e_5
  | omega
theorem lf_X7_level_26 {z : Nat} {fb : Nat → Int32} {thh : Nat} {tww : Nat} {tkk : Nat} {tg1 : Nat → Int32} {tg2 : Nat → Int32} {tg3 : Nat → Int32} {tg4 : Nat → Int32} {tg5 : Nat → Int32} {nhh : Nat} {nww : Nat} {nkk : Nat} {az : Nat} {fpn_1 : Int32} {fn_1 : Int32} {kn_1 : Int32} {tv0n_1 : Int32} {tv1n_1 : Int32} {tv2n_1 : Int32} {twn_1 : Nat} {tkn_1 : Nat} {tg1n_1 : Nat → Int32} {tg2n_1 : Nat → Int32} {tg3n_1 : Nat → Int32} {tg4n_1 : Nat → Int32} {tg5n_1 : Nat → Int32} {r_1 : Int32} {v_5 : Int32} (hz : z ≤ 120) (thb : thh ≤ 999) (htww : tww ≤ 6) (htkk : tkk ≤ 6) (nhb : nhh ≤ 999) (nwb : nww ≤ 6) (nkb : nkk ≤ 6) (haz : az ≤ 24) (hokT : okT fb z) (hF_1_0 : twn_1 ≤ 6) (hF_1_1 : tkn_1 ≤ 6) (hF_1_2 : xRs fb z tg1 tg2 tg3 tg4 tg5 = ((fpn_1, fn_1, kn_1), tkn_1, tg2n_1, tg3n_1, tg4n_1, tg5n_1)) (hF_1_3 : (xRw fb z tg1).2 = (twn_1, tg1n_1)) (hF_1_4 : tv0n_1 = xL0 fb z (0, 0, 0)) (hF_1_5 : tv1n_1 = xL1 fb z (0, 0, 0)) (hF_1_6 : tv2n_1 = xL2 fb z (0, 0, 0)) (h_1 : r_1 = ((xRs fb z tg1 tg2 tg3 tg4 tg5).1.2.1)) (c_2 : ¬ (r_1 = 0)) (e_5 : v_5 = ((-1000100) - fpn_1)) : v_5 = (lvA fb z) := by
  first
  | omega
  | with_reducible rfl
  | with_reducible exact okT_0 _
  | with_reducible exact lx_f hz hokT h_1 c_2
  | with_reducible exact lx_n hz hokT h_1 c_2
  | with_reducible exact lx_A hz hokT h_1 c_2 hF_1_2
  | with_reducible exact lx_fn hz hokT h_1 c_2
  | with_reducible exact lx_l hz hokT h_1 c_2
  | with_reducible exact lx_nn hz hokT h_1 c_2
  | with_reducible exact lx_AN hz hokT h_1 c_2 hF_1_2 e_5
  | omega
set_option maxHeartbeats 4000000 in
set_option maxRecDepth 100000 in
theorem r_X7_level (l : Launch) (dC : Nat → ClassId) (dI : Nat → Nat → Nat) (cI cZ cL cJ : ClassId) (sz : Nat) (x : Nat) (ro : Nat) (ta : Nat) (no : Nat) (ac : Nat) (im : Nat) (tr : Nat) (pl : Nat) (cs : Nat) (ak : Nat) (xf : Int32) (xg : Int32) (bs : Nat) (td : Nat) (z : Nat) (fp : Int32) (f : Int32) (k : Int32) (fb : Nat → Int32) (tv0 : Int32) (tv1 : Int32) (tv2 : Int32) (tv3 : Int32) (tv5 : Int32) (thh : Nat) (tww : Nat) (tkk : Nat) (tb1 : Nat) (tb2 : Nat) (tb3 : Nat) (tb4 : Nat) (tb5 : Nat) (tg1 : Nat → Int32) (tg2 : Nat → Int32) (tg3 : Nat → Int32) (tg4 : Nat → Int32) (tg5 : Nat → Int32) (nv0 : Int32) (nv1 : Int32) (nv2 : Int32) (nv3 : Int32) (nv5 : Int32) (nhh : Nat) (nww : Nat) (nkk : Nat) (nb1 : Nat) (nb2 : Nat) (nb3 : Nat) (nb4 : Nat) (nb5 : Nat) (ng1 : Nat → Int32) (ng2 : Nat → Int32) (ng3 : Nat → Int32) (ng4 : Nat → Int32) (ng5 : Nat → Int32) (be : Nat) (q : Nat) (az : Nat) (hz : z ≤ 120) (thb : thh ≤ 999) (htww : tww ≤ 6) (htkk : tkk ≤ 6) (nhb : nhh ≤ 999) (nwb : nww ≤ 6) (nkb : nkk ≤ 6) (haz : az ≤ 24) (hokT : okT fb z) : Met l yX7_level wsX7_level ({ frames := 6, cells := 0, slots := 0, locals := 131 }) (va_Pc [.ref x] (fun U => U.heap.size = sz ∧ va_P (dC, dI) vwCl [(xo_7_rrrrrrrrrii x ro ta no ac im tr pl cs ak xf xg), (xo_6_ririii ta bs (nI z) td fp f k), (xI bs cI 120 fb), (xo_3_iiiiiiiirrrrr td tv0 tv1 tv2 tv3 (nI thh) tv5 (nI tww) (nI tkk) tb1 tb2 tb3 tb4 tb5), (xI tb1 cI 6 tg1), (xI tb2 cI 6 tg2), (xI tb3 cI 6 tg3), (xI tb4 cI 6 tg4), (xI tb5 cI 6 tg5), (xo_3_iiiiiiiirrrrr no nv0 nv1 nv2 nv3 (nI nhh) nv5 (nI nww) (nI nkk) nb1 nb2 nb3 nb4 nb5), (xI nb1 cI 6 ng1), (xI nb2 cI 6 ng2), (xI nb3 cI 6 ng3), (xI nb4 cI 6 ng4), (xI nb5 cI 6 ng5), (xo_0_rii ac be (nI q) (nI az))] U.heap ∧ va_K (dC, dI) vwCl [(cI, .int), (cZ, .boolean), (cL, .object RX3), (cJ, .array .int)] U ∧ va_D (fun _ => True) [(xo_7_rrrrrrrrrii x ro ta no ac im tr pl cs ak xf xg), (xo_6_ririii ta bs (nI z) td fp f k), (xI bs cI 120 fb), (xo_3_iiiiiiiirrrrr td tv0 tv1 tv2 tv3 (nI thh) tv5 (nI tww) (nI tkk) tb1 tb2 tb3 tb4 tb5), (xI tb1 cI 6 tg1), (xI tb2 cI 6 tg2), (xI tb3 cI 6 tg3), (xI tb4 cI 6 tg4), (xI tb5 cI 6 tg5), (xo_3_iiiiiiiirrrrr no nv0 nv1 nv2 nv3 (nI nhh) nv5 (nI nww) (nI nkk) nb1 nb2 nb3 nb4 nb5), (xI nb1 cI 6 ng1), (xI nb2 cI 6 ng2), (xI nb3 cI 6 ng3), (xI nb4 cI 6 ng4), (xI nb5 cI 6 ng5), (xo_0_rii ac be (nI q) (nI az))])) (va_Qi (fun r (_ : Unit) => r = (lvA fb z)) (fun (_ : Unit) t => ∃ (xfn : Int32) (fpn : Int32) (fn : Int32) (kn : Int32) (fbn : Nat → Int32) (tv0n : Int32) (tv1n : Int32) (tv2n : Int32) (tv3n : Int32) (tv5n : Int32) (tg1n : Nat → Int32) (tg2n : Nat → Int32) (tg3n : Nat → Int32) (tg4n : Nat → Int32) (tg5n : Nat → Int32) (thn : Nat) (twn : Nat) (tkn : Nat) (nv0n : Int32) (nv1n : Int32) (nv2n : Int32) (nv3n : Int32) (nv5n : Int32) (ng1n : Nat → Int32) (ng2n : Nat → Int32) (ng3n : Nat → Int32) (ng4n : Nat → Int32) (ng5n : Nat → Int32) (nhn : Nat) (nwn : Nat) (nkn : Nat) (azn : Nat), va_P (dC, dI) vwCl [(xo_7_rrrrrrrrrii x ro ta no ac im tr pl cs ak xfn xg), (xo_6_ririii ta bs (nI 0) td fpn fn kn), (xI bs cI 120 fbn), (xo_3_iiiiiiiirrrrr td tv0n tv1n tv2n tv3n (nI thn) tv5n (nI twn) (nI tkn) tb1 tb2 tb3 tb4 tb5), (xI tb1 cI 6 tg1n), (xI tb2 cI 6 tg2n), (xI tb3 cI 6 tg3n), (xI tb4 cI 6 tg4n), (xI tb5 cI 6 tg5n), (xo_3_iiiiiiiirrrrr no nv0n nv1n nv2n nv3n (nI nhn) nv5n (nI nwn) (nI nkn) nb1 nb2 nb3 nb4 nb5), (xI nb1 cI 6 ng1n), (xI nb2 cI 6 ng2n), (xI nb3 cI 6 ng3n), (xI nb4 cI 6 ng4n), (xI nb5 cI 6 ng5n), (xo_0_rii ac be (nI q) (nI azn))] t.heap ∧ va_D (va_A [(xo_7_rrrrrrrrrii x ro ta no ac im tr pl cs ak xf xg), (xo_6_ririii ta bs (nI z) td fp f k), (xI bs cI 120 fb), (xo_3_iiiiiiiirrrrr td tv0 tv1 tv2 tv3 (nI thh) tv5 (nI tww) (nI tkk) tb1 tb2 tb3 tb4 tb5), (xI tb1 cI 6 tg1), (xI tb2 cI 6 tg2), (xI tb3 cI 6 tg3), (xI tb4 cI 6 tg4), (xI tb5 cI 6 tg5), (xo_3_iiiiiiiirrrrr no nv0 nv1 nv2 nv3 (nI nhh) nv5 (nI nww) (nI nkk) nb1 nb2 nb3 nb4 nb5), (xI nb1 cI 6 ng1), (xI nb2 cI 6 ng2), (xI nb3 cI 6 ng3), (xI nb4 cI 6 ng4), (xI nb5 cI 6 ng5), (xo_0_rii ac be (nI q) (nI az))] sz) [(xo_7_rrrrrrrrrii x ro ta no ac im tr pl cs ak xfn xg), (xo_6_ririii ta bs (nI 0) td fpn fn kn), (xI bs cI 120 fbn), (xo_3_iiiiiiiirrrrr td tv0n tv1n tv2n tv3n (nI thn) tv5n (nI twn) (nI tkn) tb1 tb2 tb3 tb4 tb5), (xI tb1 cI 6 tg1n), (xI tb2 cI 6 tg2n), (xI tb3 cI 6 tg3n), (xI tb4 cI 6 tg4n), (xI tb5 cI 6 tg5n), (xo_3_iiiiiiiirrrrr no nv0n nv1n nv2n nv3n (nI nhn) nv5n (nI nwn) (nI nkn) nb1 nb2 nb3 nb4 nb5), (xI nb1 cI 6 ng1n), (xI nb2 cI 6 ng2n), (xI nb3 cI 6 ng3n), (xI nb4 cI 6 ng4n), (xI nb5 cI 6 ng5n), (xo_0_rii ac be (nI q) (nI azn))] ∧ thn ≤ 999 ∧ twn ≤ 6 ∧ tkn ≤ 6 ∧ nhn ≤ 999 ∧ nwn ≤ 6 ∧ nkn ≤ 6 ∧ azn ≤ 24 ∧ fbn = fb ∧ xfn = lvF fb z xf ∧ okT fbn 0 ∧ (nrm nv0n nv1n nv2n nv3n nhn nv5n nwn nkn ng1n ng2n ng3n ng4n ng5n) = n_lev ((rR fb z).2 = 0) (rR fb z).1.2 (nrm nv0 nv1 nv2 nv3 nhh nv5 nww nkk ng1 ng2 ng3 ng4 ng5) ∧ azn = n_levN ((rR fb z).2 = 0) az) (va_A [(xo_7_rrrrrrrrrii x ro ta no ac im tr pl cs ak xf xg), (xo_6_ririii ta bs (nI z) td fp f k), (xI bs cI 120 fb), (xo_3_iiiiiiiirrrrr td tv0 tv1 tv2 tv3 (nI thh) tv5 (nI tww) (nI tkk) tb1 tb2 tb3 tb4 tb5), (xI tb1 cI 6 tg1), (xI tb2 cI 6 tg2), (xI tb3 cI 6 tg3), (xI tb4 cI 6 tg4), (xI tb5 cI 6 tg5), (xo_3_iiiiiiiirrrrr no nv0 nv1 nv2 nv3 (nI nhh) nv5 (nI nww) (nI nkk) nb1 nb2 nb3 nb4 nb5), (xI nb1 cI 6 ng1), (xI nb2 cI 6 ng2), (xI nb3 cI 6 ng3), (xI nb4 cI 6 ng4), (xI nb5 cI 6 ng5), (xo_0_rii ac be (nI q) (nI az))] sz)) 0 0 (va_A [(xo_7_rrrrrrrrrii x ro ta no ac im tr pl cs ak xf xg), (xo_6_ririii ta bs (nI z) td fp f k), (xI bs cI 120 fb), (xo_3_iiiiiiiirrrrr td tv0 tv1 tv2 tv3 (nI thh) tv5 (nI tww) (nI tkk) tb1 tb2 tb3 tb4 tb5), (xI tb1 cI 6 tg1), (xI tb2 cI 6 tg2), (xI tb3 cI 6 tg3), (xI tb4 cI 6 tg4), (xI tb5 cI 6 tg5), (xo_3_iiiiiiiirrrrr no nv0 nv1 nv2 nv3 (nI nhh) nv5 (nI nww) (nI nkk) nb1 nb2 nb3 nb4 nb5), (xI nb1 cI 6 ng1), (xI nb2 cI 6 ng2), (xI nb3 cI 6 ng3), (xI nb4 cI 6 ng4), (xI nb5 cI 6 ng5), (xo_0_rii ac be (nI q) (nI az))] sz) := by
  refine Met.ofW (cc := cX7_level) (maxL := 2) (ret := (some .int)) (by decide) rfl ?_
  intro p e s m args below meth c s₁ B hml hv
  obtain ⟨rfl, hsz, hP, hK, hD0⟩ := hv
  have hx := B.exec
  have hb := B.bytes
  have hr := B.returns
  have hts := atoms_spec (ws := wsX7_level) B.pre
  have hown : s.vm.findClass RX7 = some m.cls := findClass_of_methodNamed B.named
  have hlocks := B.notSynchronized
  subst hsz
  have hD := hD0.self (sz := s.heap.size)
  generalize hAe : va_A [(xo_7_rrrrrrrrrii x ro ta no ac im tr pl cs ak xf xg), (xo_6_ririii ta bs (nI z) td fp f k), (xI bs cI 120 fb), (xo_3_iiiiiiiirrrrr td tv0 tv1 tv2 tv3 (nI thh) tv5 (nI tww) (nI tkk) tb1 tb2 tb3 tb4 tb5), (xI tb1 cI 6 tg1), (xI tb2 cI 6 tg2), (xI tb3 cI 6 tg3), (xI tb4 cI 6 tg4), (xI tb5 cI 6 tg5), (xo_3_iiiiiiiirrrrr no nv0 nv1 nv2 nv3 (nI nhh) nv5 (nI nww) (nI nkk) nb1 nb2 nb3 nb4 nb5), (xI nb1 cI 6 ng1), (xI nb2 cI 6 ng2), (xI nb3 cI 6 ng3), (xI nb4 cI 6 ng4), (xI nb5 cI 6 ng5), (xo_0_rii ac be (nI q) (nI az))] s.heap.size = A at hD ⊢
  have hA : ∀ q : Nat, s.heap.size ≤ q → A q := fun q h => by rw [← hAe]; exact Or.inr h
  have hS : va_S A s.heap s.heap [] := va_S.rf
  have hP : va_P (dC, dI) vwCl [(xo_7_rrrrrrrrrii x ro ta no ac im tr pl cs ak xf xg), (xo_6_ririii ta bs (nI z) td fp f k), (xI bs cI 120 fb), (xo_3_iiiiiiiirrrrr td tv0 tv1 tv2 tv3 (nI thh) tv5 (nI tww) (nI tkk) tb1 tb2 tb3 tb4 tb5), (xI tb1 cI 6 tg1), (xI tb2 cI 6 tg2), (xI tb3 cI 6 tg3), (xI tb4 cI 6 tg4), (xI tb5 cI 6 tg5), (xo_3_iiiiiiiirrrrr no nv0 nv1 nv2 nv3 (nI nhh) nv5 (nI nww) (nI nkk) nb1 nb2 nb3 nb4 nb5), (xI nb1 cI 6 ng1), (xI nb2 cI 6 ng2), (xI nb3 cI 6 ng3), (xI nb4 cI 6 ng4), (xI nb5 cI 6 ng5), (xo_0_rii ac be (nI q) (nI az))] s.heap := hP
  have hl := lv_entry ([.ref x]) (n := 2) (Nat.le_of_ble_eq_true rfl)
  rw [lg_entry_eq]
  generalize (lg_sl ([.ref x]) ++ List.replicate (2 - (lg_sl ([.ref x])).length) Slot.unset).toArray = ls at hl ⊢
  have hl : lv_has ls 2 [(0, .ref x)] := hl
  refine lv_aload_n hx hb dX7_level_0 rfl (lv_at hl 0 rfl) ?_
  refine va_get (D := (dC, dI)) (ci := 7) (v := .ref ta) (C := RX7) (T := TX7) (N := 11) hx hb hts i_X7_level_X7 hown hK hP 0 rfl rfl 1 (by decide) (hts _ mx_X7_level_1) (fun _ h9 => h9) rfl dX7_level_1 ?_
  have hc_1 := cutW (wc := [(xo_6_ririii ta bs (nI z) td fp f k), (xI bs cI 120 fb), (xo_3_iiiiiiiirrrrr td tv0 tv1 tv2 tv3 (nI thh) tv5 (nI tww) (nI tkk) tb1 tb2 tb3 tb4 tb5), (xI tb1 cI 6 tg1), (xI tb2 cI 6 tg2), (xI tb3 cI 6 tg3), (xI tb4 cI 6 tg4), (xI tb5 cI 6 tg5)]) hP hD hS hA [1, 2, 3, 4, 5, 6, 7, 8] (by decide +kernel) rfl
  refine va_calli (va_runV (As := []) (rest := []) ⟨hx, hb, hml, hown, hts⟩ (r_X6_read l dC dI cI cZ cL cJ s.heap.size ta bs td z fp f k fb tv0 tv1 tv2 tv3 tv5 thh tww tkk tb1 tb2 tb3 tb4 tb5 tg1 tg2 tg3 tg4 tg5 (thb) (hz) (htww) (htkk)) (cwV 0 hts gX7_level_X6_read rfl rfl rfl (by decide +kernel) ⟨Nat.le_of_ble_eq_true rfl, Nat.le_of_ble_eq_true rfl⟩) (pvW 6 1 hK hP rfl rfl hc_1) rfl rfl hl.1 rfl (lv_room (Nat.le_of_ble_eq_true rfl)) dX7_level_4 ⟨Nat.le_of_ble_eq_true rfl, Nat.le_of_ble_eq_true rfl⟩) hS (fun q _ h => hc_1.2.2 q h) hc_1.2.2 (fun r_1 u_1 t_1 H1 locs ht hvm h_1 hB hz1 hk1 hS => ?_)
  refine xl_13_9 hB (fun fpn_1 fn_1 kn_1 tv0n_1 tv1n_1 tv2n_1 twn_1 tkn_1 tg1n_1 tg2n_1 tg3n_1 tg4n_1 tg5n_1 hP1 hD1 hF_1_0 hF_1_1 hF_1_2 hF_1_3 hF_1_4 hF_1_5 hF_1_6 => ?_)
  clear hB
  rw [ht] at hP1
  obtain ⟨hP, hD⟩ := va_join (wr := [(xo_7_rrrrrrrrrii x ro ta no ac im tr pl cs ak xf xg), (xo_3_iiiiiiiirrrrr no nv0 nv1 nv2 nv3 (nI nhh) nv5 (nI nww) (nI nkk) nb1 nb2 nb3 nb4 nb5), (xI nb1 cI 6 ng1), (xI nb2 cI 6 ng2), (xI nb3 cI 6 ng3), (xI nb4 cI 6 ng4), (xI nb5 cI 6 ng5), (xo_0_rii ac be (nI q) (nI az))]) (w1 := [(xo_6_ririii ta bs (nI 0) td fpn_1 fn_1 kn_1), (xI bs cI 120 fb), (xo_3_iiiiiiiirrrrr td tv0n_1 tv1n_1 tv2n_1 1 (nI 0) 0 (nI twn_1) (nI tkn_1) tb1 tb2 tb3 tb4 tb5), (xI tb1 cI 6 tg1n_1), (xI tb2 cI 6 tg2n_1), (xI tb3 cI 6 tg3n_1), (xI tb4 cI 6 tg4n_1), (xI tb5 cI 6 tg5n_1)]) hP hD [1, 2, 3, 4, 5, 6, 7, 8] [0, 9, 10, 11, 12, 13, 14, 15] rfl rfl (by decide +kernel) (by decide +kernel) hk1 hc_1.2.2 hP1 hD1
  generalize H1 = H at hP hS ⊢
  have hP : va_P (dC, dI) vwCl [(xo_7_rrrrrrrrrii x ro ta no ac im tr pl cs ak xf xg), (xo_3_iiiiiiiirrrrr no nv0 nv1 nv2 nv3 (nI nhh) nv5 (nI nww) (nI nkk) nb1 nb2 nb3 nb4 nb5), (xI nb1 cI 6 ng1), (xI nb2 cI 6 ng2), (xI nb3 cI 6 ng3), (xI nb4 cI 6 ng4), (xI nb5 cI 6 ng5), (xo_0_rii ac be (nI q) (nI az)), (xo_6_ririii ta bs (nI 0) td fpn_1 fn_1 kn_1), (xI bs cI 120 fb), (xo_3_iiiiiiiirrrrr td tv0n_1 tv1n_1 tv2n_1 1 (nI 0) 0 (nI twn_1) (nI tkn_1) tb1 tb2 tb3 tb4 tb5), (xI tb1 cI 6 tg1n_1), (xI tb2 cI 6 tg2n_1), (xI tb3 cI 6 tg3n_1), (xI tb4 cI 6 tg4n_1), (xI tb5 cI 6 tg5n_1)] H := hP
  have hD := dto hP hD
  refine lv_istore_n (lv' := [(1, .int r_1), (0, .ref x)]) hx hb dX7_level_7 rfl hl (by decide) rfl (fun ls hl => ?_)
  refine lv_iload_n hx hb dX7_level_8 rfl (lv_at hl 0 rfl) ?_
  refine lv_if_eq (tgt := 28) hx hb dX7_level_9 (by decide) (fun c_2 => ?_) (fun c_2 => ?_)
  · skip
    refine lv_aload_n hx hb dX7_level_28 rfl (lv_at hl 1 rfl) ?_
    refine va_get (D := (dC, dI)) (ci := 7) (v := .ref no) (C := RX7) (T := TX7) (N := 11) hx hb hts i_X7_level_X7 hown hK hP 0 rfl rfl 2 (by decide) (hts _ mx_X7_level_5) (fun _ h9 => h9) rfl dX7_level_29 ?_
    refine lv_aload_n hx hb dX7_level_32 rfl (lv_at hl 1 rfl) ?_
    refine va_get (D := (dC, dI)) (ci := 7) (v := .ref ta) (C := RX7) (T := TX7) (N := 11) hx hb hts i_X7_level_X7 hown hK hP 0 rfl rfl 1 (by decide) (hts _ mx_X7_level_1) (fun _ h9 => h9) rfl dX7_level_33 ?_
    refine va_get (D := (dC, dI)) (ci := 6) (v := .ref td) (C := RX6) (T := TX6) (N := 6) hx hb hts i_X7_level_X6 hown hK hP 8 rfl rfl 2 (by decide) (hts _ mx_X7_level_6) (fun _ h9 => h9) rfl dX7_level_36 ?_
    have hc_3 := cutW (wc := [(xo_3_iiiiiiiirrrrr no nv0 nv1 nv2 nv3 (nI nhh) nv5 (nI nww) (nI nkk) nb1 nb2 nb3 nb4 nb5), (xI nb1 cI 6 ng1), (xI nb2 cI 6 ng2), (xI nb3 cI 6 ng3), (xI nb4 cI 6 ng4), (xI nb5 cI 6 ng5), (xo_3_iiiiiiiirrrrr td tv0n_1 tv1n_1 tv2n_1 1 (nI 0) 0 (nI twn_1) (nI tkn_1) tb1 tb2 tb3 tb4 tb5), (xI tb1 cI 6 tg1n_1), (xI tb2 cI 6 tg2n_1), (xI tb3 cI 6 tg3n_1), (xI tb4 cI 6 tg4n_1), (xI tb5 cI 6 tg5n_1)]) hP hD hS hA [1, 2, 3, 4, 5, 6, 10, 11, 12, 13, 14, 15] (by decide +kernel) rfl
    refine va_callv (va_runV (As := [.ref td]) (rest := []) ⟨hx, hb, hml, hown, hts⟩ (r_X3_becomeLike l dC dI cI cZ cL cJ H.size no nv0 nv1 nv2 nv3 (nI nhh) nv5 (nI nww) (nI nkk) nb1 nb2 nb3 nb4 nb5 ng1 ng2 ng3 ng4 ng5 td tv0n_1 tv1n_1 tv2n_1 1 (nI 0) 0 (nI twn_1) (nI tkn_1) tb1 tb2 tb3 tb4 tb5 tg1n_1 tg2n_1 tg3n_1 tg4n_1 tg5n_1 ) (cwV 1 hts gX7_level_X3_becomeLike rfl rfl rfl (by decide +kernel) ⟨Nat.le_of_ble_eq_true rfl, Nat.le_of_ble_eq_true rfl⟩) (pvW 3 1 hK hP rfl rfl hc_3) rfl rfl hl.1 rfl (lv_room (Nat.le_of_ble_eq_true rfl)) dX7_level_39 ⟨Nat.le_of_ble_eq_true rfl, Nat.le_of_ble_eq_true rfl⟩) hS (fun q _ h => hc_3.2.2 q h) hc_3.2.2 (fun u_3 t_3 H1 locs ht hvm h_3 hB hz1 hk1 hS => ?_)
    refine xl_5_7 hB (fun f1n_3 f2n_3 f3n_3 f4n_3 f5n_3 hP1 hD1 hF_3_0 hF_3_1 hF_3_2 hF_3_3 hF_3_4 => ?_)
    clear hB
    rw [ht] at hP1
    obtain ⟨hP, hD⟩ := va_join (wr := [(xo_7_rrrrrrrrrii x ro ta no ac im tr pl cs ak xf xg), (xo_0_rii ac be (nI q) (nI az)), (xo_6_ririii ta bs (nI 0) td fpn_1 fn_1 kn_1), (xI bs cI 120 fb)]) (w1 := [(xo_3_iiiiiiiirrrrr no tv0n_1 tv1n_1 tv2n_1 1 (nI 0) 0 (nI twn_1) (nI tkn_1) nb1 nb2 nb3 nb4 nb5), (xI nb1 cI 6 f1n_3), (xI nb2 cI 6 f2n_3), (xI nb3 cI 6 f3n_3), (xI nb4 cI 6 f4n_3), (xI nb5 cI 6 f5n_3), (xo_3_iiiiiiiirrrrr td tv0n_1 tv1n_1 tv2n_1 1 (nI 0) 0 (nI twn_1) (nI tkn_1) tb1 tb2 tb3 tb4 tb5), (xI tb1 cI 6 tg1n_1), (xI tb2 cI 6 tg2n_1), (xI tb3 cI 6 tg3n_1), (xI tb4 cI 6 tg4n_1), (xI tb5 cI 6 tg5n_1)]) hP hD [1, 2, 3, 4, 5, 6, 10, 11, 12, 13, 14, 15] [0, 7, 8, 9] rfl rfl (by decide +kernel) (by decide +kernel) hk1 hc_3.2.2 hP1 hD1
    generalize H1 = H at hP hS ⊢
    have hP : va_P (dC, dI) vwCl [(xo_7_rrrrrrrrrii x ro ta no ac im tr pl cs ak xf xg), (xo_0_rii ac be (nI q) (nI az)), (xo_6_ririii ta bs (nI 0) td fpn_1 fn_1 kn_1), (xI bs cI 120 fb), (xo_3_iiiiiiiirrrrr no tv0n_1 tv1n_1 tv2n_1 1 (nI 0) 0 (nI twn_1) (nI tkn_1) nb1 nb2 nb3 nb4 nb5), (xI nb1 cI 6 f1n_3), (xI nb2 cI 6 f2n_3), (xI nb3 cI 6 f3n_3), (xI nb4 cI 6 f4n_3), (xI nb5 cI 6 f5n_3), (xo_3_iiiiiiiirrrrr td tv0n_1 tv1n_1 tv2n_1 1 (nI 0) 0 (nI twn_1) (nI tkn_1) tb1 tb2 tb3 tb4 tb5), (xI tb1 cI 6 tg1n_1), (xI tb2 cI 6 tg2n_1), (xI tb3 cI 6 tg3n_1), (xI tb4 cI 6 tg4n_1), (xI tb5 cI 6 tg5n_1)] H := hP
    have hD := dto hP hD
    refine lv_aload_n hx hb dX7_level_42 rfl (lv_at hl 1 rfl) ?_
    refine va_get (D := (dC, dI)) (ci := 7) (v := .ref ac) (C := RX7) (T := TX7) (N := 11) hx hb hts i_X7_level_X7 hown hK hP 0 rfl rfl 3 (by decide) (hts _ mx_X7_level_7) (fun _ h9 => h9) rfl dX7_level_43 ?_
    have hc_4 := cutW (wc := [(xo_0_rii ac be (nI q) (nI az))]) hP hD hS hA [1] (by decide +kernel) rfl
    refine va_callv (va_runV (As := []) (rest := []) ⟨hx, hb, hml, hown, hts⟩ (r_X0_forget l dC dI cI cZ cL cJ H.size ac be q az ) (cwV 0 hts gX7_level_X0_forget rfl rfl rfl (by decide +kernel) ⟨Nat.le_of_ble_eq_true rfl, Nat.le_of_ble_eq_true rfl⟩) (pvW 0 1 hK hP rfl rfl hc_4) rfl rfl hl.1 rfl (lv_room (Nat.le_of_ble_eq_true rfl)) dX7_level_46 ⟨Nat.le_of_ble_eq_true rfl, Nat.le_of_ble_eq_true rfl⟩) hS (fun q _ h => hc_4.2.2 q h) hc_4.2.2 (fun u_4 t_4 H1 locs ht hvm h_4 hB hz1 hk1 hS => ?_)
    refine xl_0_2 hB (fun hP1 hD1 => ?_)
    clear hB
    rw [ht] at hP1
    obtain ⟨hP, hD⟩ := va_join (wr := [(xo_7_rrrrrrrrrii x ro ta no ac im tr pl cs ak xf xg), (xo_6_ririii ta bs (nI 0) td fpn_1 fn_1 kn_1), (xI bs cI 120 fb), (xo_3_iiiiiiiirrrrr no tv0n_1 tv1n_1 tv2n_1 1 (nI 0) 0 (nI twn_1) (nI tkn_1) nb1 nb2 nb3 nb4 nb5), (xI nb1 cI 6 f1n_3), (xI nb2 cI 6 f2n_3), (xI nb3 cI 6 f3n_3), (xI nb4 cI 6 f4n_3), (xI nb5 cI 6 f5n_3), (xo_3_iiiiiiiirrrrr td tv0n_1 tv1n_1 tv2n_1 1 (nI 0) 0 (nI twn_1) (nI tkn_1) tb1 tb2 tb3 tb4 tb5), (xI tb1 cI 6 tg1n_1), (xI tb2 cI 6 tg2n_1), (xI tb3 cI 6 tg3n_1), (xI tb4 cI 6 tg4n_1), (xI tb5 cI 6 tg5n_1)]) (w1 := [(xo_0_rii ac be (nI q) (nI 0))]) hP hD [1] [0, 2, 3, 4, 5, 6, 7, 8, 9, 10, 11, 12, 13, 14, 15] rfl rfl (by decide +kernel) (by decide +kernel) hk1 hc_4.2.2 hP1 hD1
    generalize H1 = H at hP hS ⊢
    have hP : va_P (dC, dI) vwCl [(xo_7_rrrrrrrrrii x ro ta no ac im tr pl cs ak xf xg), (xo_6_ririii ta bs (nI 0) td fpn_1 fn_1 kn_1), (xI bs cI 120 fb), (xo_3_iiiiiiiirrrrr no tv0n_1 tv1n_1 tv2n_1 1 (nI 0) 0 (nI twn_1) (nI tkn_1) nb1 nb2 nb3 nb4 nb5), (xI nb1 cI 6 f1n_3), (xI nb2 cI 6 f2n_3), (xI nb3 cI 6 f3n_3), (xI nb4 cI 6 f4n_3), (xI nb5 cI 6 f5n_3), (xo_3_iiiiiiiirrrrr td tv0n_1 tv1n_1 tv2n_1 1 (nI 0) 0 (nI twn_1) (nI tkn_1) tb1 tb2 tb3 tb4 tb5), (xI tb1 cI 6 tg1n_1), (xI tb2 cI 6 tg2n_1), (xI tb3 cI 6 tg3n_1), (xI tb4 cI 6 tg4n_1), (xI tb5 cI 6 tg5n_1), (xo_0_rii ac be (nI q) (nI 0))] H := hP
    have hD := dto hP hD
    refine lv_aload_n hx hb dX7_level_49 rfl (lv_at hl 1 rfl) ?_
    refine va_get (D := (dC, dI)) (ci := 7) (v := .ref no) (C := RX7) (T := TX7) (N := 11) hx hb hts i_X7_level_X7 hown hK hP 0 rfl rfl 2 (by decide) (hts _ mx_X7_level_5) (fun _ h9 => h9) rfl dX7_level_50 ?_
    refine va_get (D := (dC, dI)) (ci := 3) (v := .int (nI tkn_1)) (C := RX3) (T := TX3) (N := 13) hx hb hts i_X7_level_X3 hown hK hP 3 rfl rfl 7 (by decide) (hts _ mx_X7_level_8) (fun _ h9 => h9) rfl dX7_level_53 ?_
    have hX9 := cut2 (wc := [(xo_7_rrrrrrrrrii x ro ta no ac im tr pl cs ak xf xg), (xo_6_ririii ta bs (nI 0) td fpn_1 fn_1 kn_1), (xI bs cI 120 fb), (xo_3_iiiiiiiirrrrr td tv0n_1 tv1n_1 tv2n_1 1 (nI 0) 0 (nI twn_1) (nI tkn_1) tb1 tb2 tb3 tb4 tb5), (xI tb1 cI 6 tg1n_1), (xI tb2 cI 6 tg2n_1), (xI tb3 cI 6 tg3n_1), (xI tb4 cI 6 tg4n_1), (xI tb5 cI 6 tg5n_1), (xo_3_iiiiiiiirrrrr no tv0n_1 tv1n_1 tv2n_1 1 (nI 0) 0 (nI twn_1) (nI tkn_1) nb1 nb2 nb3 nb4 nb5), (xI nb1 cI 6 f1n_3), (xI nb2 cI 6 f2n_3), (xI nb3 cI 6 f3n_3), (xI nb4 cI 6 f4n_3), (xI nb5 cI 6 f5n_3), (xo_0_rii ac be (nI q) (nI 0))]) hP hD [0, 1, 2, 9, 10, 11, 12, 13, 14, 3, 4, 5, 6, 7, 8, 15] (by decide +kernel) rfl
    exact W.iret (v := (nI tkn_1)) hx hb hr (fun t ht hW => ⟨⟨(nI tkn_1), (), rfl, (lf_X7_level_13 hz thb htww htkk nhb nwb nkb haz hokT hF_1_0 hF_1_1 hF_1_2 hF_1_3 hF_1_4 hF_1_5 hF_1_6 h_1 c_2 hF_3_0 hF_3_1 hF_3_2 hF_3_3 hF_3_4), ⟨xf, fpn_1, fn_1, kn_1, fb, tv0n_1, tv1n_1, tv2n_1, 1, 0, tg1n_1, tg2n_1, tg3n_1, tg4n_1, tg5n_1, 0, twn_1, tkn_1, tv0n_1, tv1n_1, tv2n_1, 1, 0, f1n_3, f2n_3, f3n_3, f4n_3, f5n_3, 0, twn_1, tkn_1, 0, va_Ht ht hX9.1, hX9.2, (lf_X7_level_1 hz thb htww htkk nhb nwb nkb haz hokT hF_1_0 hF_1_1 hF_1_2 hF_1_3 hF_1_4 hF_1_5 hF_1_6 h_1 c_2 hF_3_0 hF_3_1 hF_3_2 hF_3_3 hF_3_4), (lf_X7_level_2 hz thb htww htkk nhb nwb nkb haz hokT hF_1_0 hF_1_1 hF_1_2 hF_1_3 hF_1_4 hF_1_5 hF_1_6 h_1 c_2 hF_3_0 hF_3_1 hF_3_2 hF_3_3 hF_3_4), (lf_X7_level_3 hz thb htww htkk nhb nwb nkb haz hokT hF_1_0 hF_1_1 hF_1_2 hF_1_3 hF_1_4 hF_1_5 hF_1_6 h_1 c_2 hF_3_0 hF_3_1 hF_3_2 hF_3_3 hF_3_4), (lf_X7_level_4 hz thb htww htkk nhb nwb nkb haz hokT hF_1_0 hF_1_1 hF_1_2 hF_1_3 hF_1_4 hF_1_5 hF_1_6 h_1 c_2 hF_3_0 hF_3_1 hF_3_2 hF_3_3 hF_3_4), (lf_X7_level_5 hz thb htww htkk nhb nwb nkb haz hokT hF_1_0 hF_1_1 hF_1_2 hF_1_3 hF_1_4 hF_1_5 hF_1_6 h_1 c_2 hF_3_0 hF_3_1 hF_3_2 hF_3_3 hF_3_4), (lf_X7_level_6 hz thb htww htkk nhb nwb nkb haz hokT hF_1_0 hF_1_1 hF_1_2 hF_1_3 hF_1_4 hF_1_5 hF_1_6 h_1 c_2 hF_3_0 hF_3_1 hF_3_2 hF_3_3 hF_3_4), (lf_X7_level_7 hz thb htww htkk nhb nwb nkb haz hokT hF_1_0 hF_1_1 hF_1_2 hF_1_3 hF_1_4 hF_1_5 hF_1_6 h_1 c_2 hF_3_0 hF_3_1 hF_3_2 hF_3_3 hF_3_4), (lf_X7_level_8 hz thb htww htkk nhb nwb nkb haz hokT hF_1_0 hF_1_1 hF_1_2 hF_1_3 hF_1_4 hF_1_5 hF_1_6 h_1 c_2 hF_3_0 hF_3_1 hF_3_2 hF_3_3 hF_3_4), (lf_X7_level_9 hz thb htww htkk nhb nwb nkb haz hokT hF_1_0 hF_1_1 hF_1_2 hF_1_3 hF_1_4 hF_1_5 hF_1_6 h_1 c_2 hF_3_0 hF_3_1 hF_3_2 hF_3_3 hF_3_4), (lf_X7_level_10 hz thb htww htkk nhb nwb nkb haz hokT hF_1_0 hF_1_1 hF_1_2 hF_1_3 hF_1_4 hF_1_5 hF_1_6 h_1 c_2 hF_3_0 hF_3_1 hF_3_2 hF_3_3 hF_3_4), (lf_X7_level_11 hz thb htww htkk nhb nwb nkb haz hokT hF_1_0 hF_1_1 hF_1_2 hF_1_3 hF_1_4 hF_1_5 hF_1_6 h_1 c_2 hF_3_0 hF_3_1 hF_3_2 hF_3_3 hF_3_4), (lf_X7_level_12 hz thb htww htkk nhb nwb nkb haz hokT hF_1_0 hF_1_1 hF_1_2 hF_1_3 hF_1_4 hF_1_5 hF_1_6 h_1 c_2 hF_3_0 hF_3_1 hF_3_2 hF_3_3 hF_3_4)⟩⟩, hS.F ht⟩) hS.2.2 dX7_level_56
  · skip
    refine lv_aload_n hx hb dX7_level_12 rfl (lv_at hl 1 rfl) ?_
    refine lv_iload_n hx hb dX7_level_13 rfl (lv_at hl 0 rfl) ?_
    refine va_put (D := (dC, dI)) (ci := 7) (v := .int r_1) (ty := .int) (C := RX7) (T := TX7) (N := 11) hx hb hts i_X7_level_X7 tyX7 tyX7_ok nmX7 hown hK hP hD hS 0 rfl rfl 9 (by decide) (hts _ mx_X7_level_2) (fun _ h9 => h9) rfl (by decide +kernel) rfl rfl (Nat.le_of_ble_eq_true rfl) dX7_level_14 (fun H locs hP hD hS => ?_)
    have hP : va_P (dC, dI) vwCl [(xo_7_rrrrrrrrrii x ro ta no ac im tr pl cs ak r_1 xg), (xo_3_iiiiiiiirrrrr no nv0 nv1 nv2 nv3 (nI nhh) nv5 (nI nww) (nI nkk) nb1 nb2 nb3 nb4 nb5), (xI nb1 cI 6 ng1), (xI nb2 cI 6 ng2), (xI nb3 cI 6 ng3), (xI nb4 cI 6 ng4), (xI nb5 cI 6 ng5), (xo_0_rii ac be (nI q) (nI az)), (xo_6_ririii ta bs (nI 0) td fpn_1 fn_1 kn_1), (xI bs cI 120 fb), (xo_3_iiiiiiiirrrrr td tv0n_1 tv1n_1 tv2n_1 1 (nI 0) 0 (nI twn_1) (nI tkn_1) tb1 tb2 tb3 tb4 tb5), (xI tb1 cI 6 tg1n_1), (xI tb2 cI 6 tg2n_1), (xI tb3 cI 6 tg3n_1), (xI tb4 cI 6 tg4n_1), (xI tb5 cI 6 tg5n_1)] H := hP
    have hD := dto hP hD
    refine lv_ldc (own := RX7) (v := (-1000100)) hx hb hown (hts _ mx_X7_level_3) dX7_level_17 ?_
    refine lv_aload_n hx hb dX7_level_19 rfl (lv_at hl 1 rfl) ?_
    refine va_get (D := (dC, dI)) (ci := 7) (v := .ref ta) (C := RX7) (T := TX7) (N := 11) hx hb hts i_X7_level_X7 hown hK hP 0 rfl rfl 1 (by decide) (hts _ mx_X7_level_1) (fun _ h9 => h9) rfl dX7_level_20 ?_
    refine va_get (D := (dC, dI)) (ci := 6) (v := .int fpn_1) (C := RX6) (T := TX6) (N := 6) hx hb hts i_X7_level_X6 hown hK hP 8 rfl rfl 3 (by decide) (hts _ mx_X7_level_4) (fun _ h9 => h9) rfl dX7_level_23 ?_
    refine lv_isub hx hb dX7_level_26 ?_
    refine lv_topi (fun v_5 e_5 => ?_)
    have hX9 := cut2 (wc := [(xo_7_rrrrrrrrrii x ro ta no ac im tr pl cs ak r_1 xg), (xo_6_ririii ta bs (nI 0) td fpn_1 fn_1 kn_1), (xI bs cI 120 fb), (xo_3_iiiiiiiirrrrr td tv0n_1 tv1n_1 tv2n_1 1 (nI 0) 0 (nI twn_1) (nI tkn_1) tb1 tb2 tb3 tb4 tb5), (xI tb1 cI 6 tg1n_1), (xI tb2 cI 6 tg2n_1), (xI tb3 cI 6 tg3n_1), (xI tb4 cI 6 tg4n_1), (xI tb5 cI 6 tg5n_1), (xo_3_iiiiiiiirrrrr no nv0 nv1 nv2 nv3 (nI nhh) nv5 (nI nww) (nI nkk) nb1 nb2 nb3 nb4 nb5), (xI nb1 cI 6 ng1), (xI nb2 cI 6 ng2), (xI nb3 cI 6 ng3), (xI nb4 cI 6 ng4), (xI nb5 cI 6 ng5), (xo_0_rii ac be (nI q) (nI az))]) hP hD [0, 8, 9, 10, 11, 12, 13, 14, 15, 1, 2, 3, 4, 5, 6, 7] (by decide +kernel) rfl
    exact W.iret (v := v_5) hx hb hr (fun t ht hW => ⟨⟨v_5, (), rfl, (lf_X7_level_26 hz thb htww htkk nhb nwb nkb haz hokT hF_1_0 hF_1_1 hF_1_2 hF_1_3 hF_1_4 hF_1_5 hF_1_6 h_1 c_2 e_5), ⟨r_1, fpn_1, fn_1, kn_1, fb, tv0n_1, tv1n_1, tv2n_1, 1, 0, tg1n_1, tg2n_1, tg3n_1, tg4n_1, tg5n_1, 0, twn_1, tkn_1, nv0, nv1, nv2, nv3, nv5, ng1, ng2, ng3, ng4, ng5, nhh, nww, nkk, az, va_Ht ht hX9.1, hX9.2, (lf_X7_level_14 hz thb htww htkk nhb nwb nkb haz hokT hF_1_0 hF_1_1 hF_1_2 hF_1_3 hF_1_4 hF_1_5 hF_1_6 h_1 c_2 e_5), (lf_X7_level_15 hz thb htww htkk nhb nwb nkb haz hokT hF_1_0 hF_1_1 hF_1_2 hF_1_3 hF_1_4 hF_1_5 hF_1_6 h_1 c_2 e_5), (lf_X7_level_16 hz thb htww htkk nhb nwb nkb haz hokT hF_1_0 hF_1_1 hF_1_2 hF_1_3 hF_1_4 hF_1_5 hF_1_6 h_1 c_2 e_5), (lf_X7_level_17 hz thb htww htkk nhb nwb nkb haz hokT hF_1_0 hF_1_1 hF_1_2 hF_1_3 hF_1_4 hF_1_5 hF_1_6 h_1 c_2 e_5), (lf_X7_level_18 hz thb htww htkk nhb nwb nkb haz hokT hF_1_0 hF_1_1 hF_1_2 hF_1_3 hF_1_4 hF_1_5 hF_1_6 h_1 c_2 e_5), (lf_X7_level_19 hz thb htww htkk nhb nwb nkb haz hokT hF_1_0 hF_1_1 hF_1_2 hF_1_3 hF_1_4 hF_1_5 hF_1_6 h_1 c_2 e_5), (lf_X7_level_20 hz thb htww htkk nhb nwb nkb haz hokT hF_1_0 hF_1_1 hF_1_2 hF_1_3 hF_1_4 hF_1_5 hF_1_6 h_1 c_2 e_5), (lf_X7_level_21 hz thb htww htkk nhb nwb nkb haz hokT hF_1_0 hF_1_1 hF_1_2 hF_1_3 hF_1_4 hF_1_5 hF_1_6 h_1 c_2 e_5), (lf_X7_level_22 hz thb htww htkk nhb nwb nkb haz hokT hF_1_0 hF_1_1 hF_1_2 hF_1_3 hF_1_4 hF_1_5 hF_1_6 h_1 c_2 e_5), (lf_X7_level_23 hz thb htww htkk nhb nwb nkb haz hokT hF_1_0 hF_1_1 hF_1_2 hF_1_3 hF_1_4 hF_1_5 hF_1_6 h_1 c_2 e_5), (lf_X7_level_24 hz thb htww htkk nhb nwb nkb haz hokT hF_1_0 hF_1_1 hF_1_2 hF_1_3 hF_1_4 hF_1_5 hF_1_6 h_1 c_2 e_5), (lf_X7_level_25 hz thb htww htkk nhb nwb nkb haz hokT hF_1_0 hF_1_1 hF_1_2 hF_1_3 hF_1_4 hF_1_5 hF_1_6 h_1 c_2 e_5)⟩⟩, hS.F ht⟩) hS.2.2 dX7_level_27
theorem lf_X7_row_1 {fl : Nat → Int32} {fe : Nat → Int32} {y0 : Nat} {y1 : Nat} {y2 : Nat} {y3 : Nat} {y4 : Nat} {y5 : Nat} {y6 : Nat} {y7 : Nat} {fi : Nat → Option Nat} {k0 : Int32} {k1 : Int32} {k2 : Int32} (hfi : fi 0 = some y0 ∧ fi 1 = some y1 ∧ fi 2 = some y2 ∧ fi 3 = some y3 ∧ fi 4 = some y4 ∧ fi 5 = some y5 ∧ fi 6 = some y6 ∧ fi 7 = some y7) (hfe : ∀ jq : Nat, jq < 8 → ∃ q : Nat, q ≤ 40 ∧ fe jq = nI q) (f_1_0_0 : (k0 < 0 ∨ 8 ≤ k0)) : abl fl = sr_l (abl fl) k0 k1 k2 := by
  first
  | (rw [itr_y (by assumption) (by assumption) (by omega)]; assumption)
  | with_reducible exact fr_ok (by assumption) (by assumption) (by omega) (by assumption)
  | with_reducible exact fr_neg (by assumption) (by assumption) (by assumption) (by assumption) (by assumption)
  | ((with_reducible refine fr_bad ?_); grind)
  | ((with_reducible refine (itr_n ?_).symm); grind)
  | (subst_vars; with_reducible exact (an_row_ok (by assumption) (by assumption) (by omega)).symm)
  | (subst_vars; with_reducible exact (an_row_neg (by assumption) (by assumption) (by assumption) (by assumption)).symm)
  | (unfold an_row; rw [if_pos (by grind)])
  | (unfold an_row; grind)
  | (unfold sr_l; rw [if_neg (by grind)])
  | (unfold sr_n; rw [if_neg (by grind)])
  | (subst_vars; rw [sr_l_ok (by assumption) (by assumption) (by omega)]; with_reducible exact abl_up (by omega))
  | (subst_vars; rw [sr_n_ok (by assumption) (by assumption) (by omega)]; with_reducible exact abn_up (by omega) (by assumption))
theorem lf_X7_row_2 {fl : Nat → Int32} {fe : Nat → Int32} {y0 : Nat} {y1 : Nat} {y2 : Nat} {y3 : Nat} {y4 : Nat} {y5 : Nat} {y6 : Nat} {y7 : Nat} {fi : Nat → Option Nat} {k0 : Int32} {k1 : Int32} {k2 : Int32} (hfi : fi 0 = some y0 ∧ fi 1 = some y1 ∧ fi 2 = some y2 ∧ fi 3 = some y3 ∧ fi 4 = some y4 ∧ fi 5 = some y5 ∧ fi 6 = some y6 ∧ fi 7 = some y7) (hfe : ∀ jq : Nat, jq < 8 → ∃ q : Nat, q ≤ 40 ∧ fe jq = nI q) (f_1_0_0 : (k0 < 0 ∨ 8 ≤ k0)) : abn fl fe = sr_n (abn fl fe) k0 k1 k2 := by
  first
  | (rw [itr_y (by assumption) (by assumption) (by omega)]; assumption)
  | with_reducible exact fr_ok (by assumption) (by assumption) (by omega) (by assumption)
  | with_reducible exact fr_neg (by assumption) (by assumption) (by assumption) (by assumption) (by assumption)
  | ((with_reducible refine fr_bad ?_); grind)
  | ((with_reducible refine (itr_n ?_).symm); grind)
  | (subst_vars; with_reducible exact (an_row_ok (by assumption) (by assumption) (by omega)).symm)
  | (subst_vars; with_reducible exact (an_row_neg (by assumption) (by assumption) (by assumption) (by assumption)).symm)
  | (unfold an_row; rw [if_pos (by grind)])
  | (unfold an_row; grind)
  | (unfold sr_l; rw [if_neg (by grind)])
  | (unfold sr_n; rw [if_neg (by grind)])
  | (subst_vars; rw [sr_l_ok (by assumption) (by assumption) (by omega)]; with_reducible exact abl_up (by omega))
  | (subst_vars; rw [sr_n_ok (by assumption) (by assumption) (by omega)]; with_reducible exact abn_up (by omega) (by assumption))
theorem lf_X7_row_3 {fe : Nat → Int32} {y0 : Nat} {y1 : Nat} {y2 : Nat} {y3 : Nat} {y4 : Nat} {y5 : Nat} {y6 : Nat} {y7 : Nat} {f0 : Nat → Int32} {f1 : Nat → Int32} {f2 : Nat → Int32} {f3 : Nat → Int32} {f4 : Nat → Int32} {f5 : Nat → Int32} {f6 : Nat → Int32} {f7 : Nat → Int32} {fi : Nat → Option Nat} {k0 : Int32} {k1 : Int32} {k2 : Int32} (hfi : fi 0 = some y0 ∧ fi 1 = some y1 ∧ fi 2 = some y2 ∧ fi 3 = some y3 ∧ fi 4 = some y4 ∧ fi 5 = some y5 ∧ fi 6 = some y6 ∧ fi 7 = some y7) (hfe : ∀ jq : Nat, jq < 8 → ∃ q : Nat, q ≤ 40 ∧ fe jq = nI q) (f_1_0_0 : (k0 < 0 ∨ 8 ≤ k0)) : (itX f0 f1 f2 f3 f4 f5 f6 f7) = n_itr (itX f0 f1 f2 f3 f4 f5 f6 f7) k0 k1 k2 := by
  first
  | (rw [itr_y (by assumption) (by assumption) (by omega)]; assumption)
  | with_reducible exact fr_ok (by assumption) (by assumption) (by omega) (by assumption)
  | with_reducible exact fr_neg (by assumption) (by assumption) (by assumption) (by assumption) (by assumption)
  | ((with_reducible refine fr_bad ?_); grind)
  | ((with_reducible refine (itr_n ?_).symm); grind)
  | (subst_vars; with_reducible exact (an_row_ok (by assumption) (by assumption) (by omega)).symm)
  | (subst_vars; with_reducible exact (an_row_neg (by assumption) (by assumption) (by assumption) (by assumption)).symm)
  | (unfold an_row; rw [if_pos (by grind)])
  | (unfold an_row; grind)
  | (unfold sr_l; rw [if_neg (by grind)])
  | (unfold sr_n; rw [if_neg (by grind)])
  | (subst_vars; rw [sr_l_ok (by assumption) (by assumption) (by omega)]; with_reducible exact abl_up (by omega))
  | (subst_vars; rw [sr_n_ok (by assumption) (by assumption) (by omega)]; with_reducible exact abn_up (by omega) (by assumption))
theorem lf_X7_row_4 {xg : Int32} {fe : Nat → Int32} {y0 : Nat} {y1 : Nat} {y2 : Nat} {y3 : Nat} {y4 : Nat} {y5 : Nat} {y6 : Nat} {y7 : Nat} {fi : Nat → Option Nat} {k0 : Int32} {k1 : Int32} {k2 : Int32} (hfi : fi 0 = some y0 ∧ fi 1 = some y1 ∧ fi 2 = some y2 ∧ fi 3 = some y3 ∧ fi 4 = some y4 ∧ fi 5 = some y5 ∧ fi 6 = some y6 ∧ fi 7 = some y7) (hfe : ∀ jq : Nat, jq < 8 → ∃ q : Nat, q ≤ 40 ∧ fe jq = nI q) (f_1_0_0 : (k0 < 0 ∨ 8 ≤ k0)) : xg = f_row k0 k1 k2 xg := by
  first
  | (rw [itr_y (by assumption) (by assumption) (by omega)]; assumption)
  | with_reducible exact fr_ok (by assumption) (by assumption) (by omega) (by assumption)
  | with_reducible exact fr_neg (by assumption) (by assumption) (by assumption) (by assumption) (by assumption)
  | ((with_reducible refine fr_bad ?_); grind)
  | ((with_reducible refine (itr_n ?_).symm); grind)
  | (subst_vars; with_reducible exact (an_row_ok (by assumption) (by assumption) (by omega)).symm)
  | (subst_vars; with_reducible exact (an_row_neg (by assumption) (by assumption) (by assumption) (by assumption)).symm)
  | (unfold an_row; rw [if_pos (by grind)])
  | (unfold an_row; grind)
  | (unfold sr_l; rw [if_neg (by grind)])
  | (unfold sr_n; rw [if_neg (by grind)])
  | (subst_vars; rw [sr_l_ok (by assumption) (by assumption) (by omega)]; with_reducible exact abl_up (by omega))
  | (subst_vars; rw [sr_n_ok (by assumption) (by assumption) (by omega)]; with_reducible exact abn_up (by omega) (by assumption))
theorem lf_X7_row_5 {fe : Nat → Int32} {y0 : Nat} {y1 : Nat} {y2 : Nat} {y3 : Nat} {y4 : Nat} {y5 : Nat} {y6 : Nat} {y7 : Nat} {fi : Nat → Option Nat} {k0 : Int32} {k1 : Int32} {k2 : Int32} (hfi : fi 0 = some y0 ∧ fi 1 = some y1 ∧ fi 2 = some y2 ∧ fi 3 = some y3 ∧ fi 4 = some y4 ∧ fi 5 = some y5 ∧ fi 6 = some y6 ∧ fi 7 = some y7) (hfe : ∀ jq : Nat, jq < 8 → ∃ q : Nat, q ≤ 40 ∧ fe jq = nI q) (f_1_0_0 : (k0 < 0 ∨ 8 ≤ k0)) : (-1000001) = (an_row k0 k1 k2) := by
  first
  | (rw [itr_y (by assumption) (by assumption) (by omega)]; assumption)
  | with_reducible exact fr_ok (by assumption) (by assumption) (by omega) (by assumption)
  | with_reducible exact fr_neg (by assumption) (by assumption) (by assumption) (by assumption) (by assumption)
  | ((with_reducible refine fr_bad ?_); grind)
  | ((with_reducible refine (itr_n ?_).symm); grind)
  | (subst_vars; with_reducible exact (an_row_ok (by assumption) (by assumption) (by omega)).symm)
  | (subst_vars; with_reducible exact (an_row_neg (by assumption) (by assumption) (by assumption) (by assumption)).symm)
  | (unfold an_row; rw [if_pos (by grind)])
  | (unfold an_row; grind)
  | (unfold sr_l; rw [if_neg (by grind)])
  | (unfold sr_n; rw [if_neg (by grind)])
  | (subst_vars; rw [sr_l_ok (by assumption) (by assumption) (by omega)]; with_reducible exact abl_up (by omega))
  | (subst_vars; rw [sr_n_ok (by assumption) (by assumption) (by omega)]; with_reducible exact abn_up (by omega) (by assumption))
theorem lf_X7_row_6 {fl : Nat → Int32} {fe : Nat → Int32} {y0 : Nat} {y1 : Nat} {y2 : Nat} {y3 : Nat} {y4 : Nat} {y5 : Nat} {y6 : Nat} {y7 : Nat} {fi : Nat → Option Nat} {k1 : Int32} {k2 : Int32} {j_1 : Nat} (hfi : fi 0 = some y0 ∧ fi 1 = some y1 ∧ fi 2 = some y2 ∧ fi 3 = some y3 ∧ fi 4 = some y4 ∧ fi 5 = some y5 ∧ fi 6 = some y6 ∧ fi 7 = some y7) (hfe : ∀ jq : Nat, jq < 8 → ∃ q : Nat, q ≤ 40 ∧ fe jq = nI q) (hj_1 : j_1 < 8) (f_5_0_0 : (k1 < 0 ∨ 2 < k1)) : abl fl = sr_l (abl fl) (nI j_1) k1 k2 := by
  first
  | (rw [itr_y (by assumption) (by assumption) (by omega)]; assumption)
  | with_reducible exact fr_ok (by assumption) (by assumption) (by omega) (by assumption)
  | with_reducible exact fr_neg (by assumption) (by assumption) (by assumption) (by assumption) (by assumption)
  | ((with_reducible refine fr_bad ?_); grind)
  | ((with_reducible refine (itr_n ?_).symm); grind)
  | (subst_vars; with_reducible exact (an_row_ok (by assumption) (by assumption) (by omega)).symm)
  | (subst_vars; with_reducible exact (an_row_neg (by assumption) (by assumption) (by assumption) (by assumption)).symm)
  | (unfold an_row; rw [if_pos (by grind)])
  | (unfold an_row; grind)
  | (unfold sr_l; rw [if_neg (by grind)])
  | (unfold sr_n; rw [if_neg (by grind)])
  | (subst_vars; rw [sr_l_ok (by assumption) (by assumption) (by omega)]; with_reducible exact abl_up (by omega))
  | (subst_vars; rw [sr_n_ok (by assumption) (by assumption) (by omega)]; with_reducible exact abn_up (by omega) (by assumption))
theorem lf_X7_row_7 {fl : Nat → Int32} {fe : Nat → Int32} {y0 : Nat} {y1 : Nat} {y2 : Nat} {y3 : Nat} {y4 : Nat} {y5 : Nat} {y6 : Nat} {y7 : Nat} {fi : Nat → Option Nat} {k1 : Int32} {k2 : Int32} {j_1 : Nat} (hfi : fi 0 = some y0 ∧ fi 1 = some y1 ∧ fi 2 = some y2 ∧ fi 3 = some y3 ∧ fi 4 = some y4 ∧ fi 5 = some y5 ∧ fi 6 = some y6 ∧ fi 7 = some y7) (hfe : ∀ jq : Nat, jq < 8 → ∃ q : Nat, q ≤ 40 ∧ fe jq = nI q) (hj_1 : j_1 < 8) (f_5_0_0 : (k1 < 0 ∨ 2 < k1)) : abn fl fe = sr_n (abn fl fe) (nI j_1) k1 k2 := by
  first
  | (rw [itr_y (by assumption) (by assumption) (by omega)]; assumption)
  | with_reducible exact fr_ok (by assumption) (by assumption) (by omega) (by assumption)
  | with_reducible exact fr_neg (by assumption) (by assumption) (by assumption) (by assumption) (by assumption)
  | ((with_reducible refine fr_bad ?_); grind)
  | ((with_reducible refine (itr_n ?_).symm); grind)
  | (subst_vars; with_reducible exact (an_row_ok (by assumption) (by assumption) (by omega)).symm)
  | (subst_vars; with_reducible exact (an_row_neg (by assumption) (by assumption) (by assumption) (by assumption)).symm)
  | (unfold an_row; rw [if_pos (by grind)])
  | (unfold an_row; grind)
  | (unfold sr_l; rw [if_neg (by grind)])
  | (unfold sr_n; rw [if_neg (by grind)])
  | (subst_vars; rw [sr_l_ok (by assumption) (by assumption) (by omega)]; with_reducible exact abl_up (by omega))
  | (subst_vars; rw [sr_n_ok (by assumption) (by assumption) (by omega)]; with_reducible exact abn_up (by omega) (by assumption))
theorem lf_X7_row_8 {fe : Nat → Int32} {y0 : Nat} {y1 : Nat} {y2 : Nat} {y3 : Nat} {y4 : Nat} {y5 : Nat} {y6 : Nat} {y7 : Nat} {f0 : Nat → Int32} {f1 : Nat → Int32} {f2 : Nat → Int32} {f3 : Nat → Int32} {f4 : Nat → Int32} {f5 : Nat → Int32} {f6 : Nat → Int32} {f7 : Nat → Int32} {fi : Nat → Option Nat} {k1 : Int32} {k2 : Int32} {j_1 : Nat} (hfi : fi 0 = some y0 ∧ fi 1 = some y1 ∧ fi 2 = some y2 ∧ fi 3 = some y3 ∧ fi 4 = some y4 ∧ fi 5 = some y5 ∧ fi 6 = some y6 ∧ fi 7 = some y7) (hfe : ∀ jq : Nat, jq < 8 → ∃ q : Nat, q ≤ 40 ∧ fe jq = nI q) (hj_1 : j_1 < 8) (f_5_0_0 : (k1 < 0 ∨ 2 < k1)) : (itX f0 f1 f2 f3 f4 f5 f6 f7) = n_itr (itX f0 f1 f2 f3 f4 f5 f6 f7) (nI j_1) k1 k2 := by
  first
  | (rw [itr_y (by assumption) (by assumption) (by omega)]; assumption)
  | with_reducible exact fr_ok (by assumption) (by assumption) (by omega) (by assumption)
  | with_reducible exact fr_neg (by assumption) (by assumption) (by assumption) (by assumption) (by assumption)
  | ((with_reducible refine fr_bad ?_); grind)
  | ((with_reducible refine (itr_n ?_).symm); grind)
  | (subst_vars; with_reducible exact (an_row_ok (by assumption) (by assumption) (by omega)).symm)
  | (subst_vars; with_reducible exact (an_row_neg (by assumption) (by assumption) (by assumption) (by assumption)).symm)
  | (unfold an_row; rw [if_pos (by grind)])
  | (unfold an_row; grind)
  | (unfold sr_l; rw [if_neg (by grind)])
  | (unfold sr_n; rw [if_neg (by grind)])
  | (subst_vars; rw [sr_l_ok (by assumption) (by assumption) (by omega)]; with_reducible exact abl_up (by omega))
  | (subst_vars; rw [sr_n_ok (by assumption) (by assumption) (by omega)]; with_reducible exact abn_up (by omega) (by assumption))
theorem lf_X7_row_9 {xg : Int32} {fe : Nat → Int32} {y0 : Nat} {y1 : Nat} {y2 : Nat} {y3 : Nat} {y4 : Nat} {y5 : Nat} {y6 : Nat} {y7 : Nat} {fi : Nat → Option Nat} {k1 : Int32} {k2 : Int32} {j_1 : Nat} (hfi : fi 0 = some y0 ∧ fi 1 = some y1 ∧ fi 2 = some y2 ∧ fi 3 = some y3 ∧ fi 4 = some y4 ∧ fi 5 = some y5 ∧ fi 6 = some y6 ∧ fi 7 = some y7) (hfe : ∀ jq : Nat, jq < 8 → ∃ q : Nat, q ≤ 40 ∧ fe jq = nI q) (hj_1 : j_1 < 8) (f_5_0_0 : (k1 < 0 ∨ 2 < k1)) : xg = f_row (nI j_1) k1 k2 xg := by
  first
  | (rw [itr_y (by assumption) (by assumption) (by omega)]; assumption)
  | with_reducible exact fr_ok (by assumption) (by assumption) (by omega) (by assumption)
  | with_reducible exact fr_neg (by assumption) (by assumption) (by assumption) (by assumption) (by assumption)
  | ((with_reducible refine fr_bad ?_); grind)
  | ((with_reducible refine (itr_n ?_).symm); grind)
  | (subst_vars; with_reducible exact (an_row_ok (by assumption) (by assumption) (by omega)).symm)
  | (subst_vars; with_reducible exact (an_row_neg (by assumption) (by assumption) (by assumption) (by assumption)).symm)
  | (unfold an_row; rw [if_pos (by grind)])
  | (unfold an_row; grind)
  | (unfold sr_l; rw [if_neg (by grind)])
  | (unfold sr_n; rw [if_neg (by grind)])
  | (subst_vars; rw [sr_l_ok (by assumption) (by assumption) (by omega)]; with_reducible exact abl_up (by omega))
  | (subst_vars; rw [sr_n_ok (by assumption) (by assumption) (by omega)]; with_reducible exact abn_up (by omega) (by assumption))
theorem lf_X7_row_10 {fe : Nat → Int32} {y0 : Nat} {y1 : Nat} {y2 : Nat} {y3 : Nat} {y4 : Nat} {y5 : Nat} {y6 : Nat} {y7 : Nat} {fi : Nat → Option Nat} {k1 : Int32} {k2 : Int32} {j_1 : Nat} (hfi : fi 0 = some y0 ∧ fi 1 = some y1 ∧ fi 2 = some y2 ∧ fi 3 = some y3 ∧ fi 4 = some y4 ∧ fi 5 = some y5 ∧ fi 6 = some y6 ∧ fi 7 = some y7) (hfe : ∀ jq : Nat, jq < 8 → ∃ q : Nat, q ≤ 40 ∧ fe jq = nI q) (hj_1 : j_1 < 8) (f_5_0_0 : (k1 < 0 ∨ 2 < k1)) : (-1000001) = (an_row (nI j_1) k1 k2) := by
  first
  | (rw [itr_y (by assumption) (by assumption) (by omega)]; assumption)
  | with_reducible exact fr_ok (by assumption) (by assumption) (by omega) (by assumption)
  | with_reducible exact fr_neg (by assumption) (by assumption) (by assumption) (by assumption) (by assumption)
  | ((with_reducible refine fr_bad ?_); grind)
  | ((with_reducible refine (itr_n ?_).symm); grind)
  | (subst_vars; with_reducible exact (an_row_ok (by assumption) (by assumption) (by omega)).symm)
  | (subst_vars; with_reducible exact (an_row_neg (by assumption) (by assumption) (by assumption) (by assumption)).symm)
  | (unfold an_row; rw [if_pos (by grind)])
  | (unfold an_row; grind)
  | (unfold sr_l; rw [if_neg (by grind)])
  | (unfold sr_n; rw [if_neg (by grind)])
  | (subst_vars; rw [sr_l_ok (by assumption) (by assumption) (by omega)]; with_reducible exact abl_up (by omega))
  | (subst_vars; rw [sr_n_ok (by assumption) (by assumption) (by omega)]; with_reducible exact abn_up (by omega) (by assumption))
theorem lf_X7_row_11 {fl : Nat → Int32} {fe : Nat → Int32} {y0 : Nat} {y1 : Nat} {y2 : Nat} {y3 : Nat} {y4 : Nat} {y5 : Nat} {y6 : Nat} {y7 : Nat} {f0 : Nat → Int32} {f1 : Nat → Int32} {f2 : Nat → Int32} {f3 : Nat → Int32} {f4 : Nat → Int32} {f5 : Nat → Int32} {f6 : Nat → Int32} {f7 : Nat → Int32} {fi : Nat → Option Nat} {k1 : Int32} {j_1 : Nat} {j_10 : Nat} {fln_11 : Nat → Int32} {fen_11 : Nat → Int32} {f0n_11 : Nat → Int32} {f1n_11 : Nat → Int32} {f2n_11 : Nat → Int32} {f3n_11 : Nat → Int32} {f4n_11 : Nat → Int32} {f5n_11 : Nat → Int32} {f6n_11 : Nat → Int32} {f7n_11 : Nat → Int32} {xgn_12 : Int32} {r_12 : Int32} (hfi : fi 0 = some y0 ∧ fi 1 = some y1 ∧ fi 2 = some y2 ∧ fi 3 = some y3 ∧ fi 4 = some y4 ∧ fi 5 = some y5 ∧ fi 6 = some y6 ∧ fi 7 = some y7) (hfe : ∀ jq : Nat, jq < 8 → ∃ q : Nat, q ≤ 40 ∧ fe jq = nI q) (hj_1 : j_1 < 8) (f_5_1_0 : (¬ (k1 < 0 ∨ 2 < k1))) (c_8 : (nI j_10) ≤ 40) (c_9 : 0 ≤ (nI j_10)) (hj_10 : j_10 ≤ 40) (hF_11_0 : (∀ jq : Nat, jq < 8 → ∃ q : Nat, q ≤ 40 ∧ fen_11 jq = nI q)) (hF_11_1 : fln_11 = upd fl j_1 k1) (hF_11_2 : fen_11 = upd fe j_1 (nI j_10)) (hF_11_3 : (itX f0n_11 f1n_11 f2n_11 f3n_11 f4n_11 f5n_11 f6n_11 f7n_11) = upI (itX f0 f1 f2 f3 f4 f5 f6 f7) j_1 (fun _ => 0)) (hF_12_0 : (xgn_12 : Int32) = 0) (h_12 : r_12 = (nI j_10)) : abl fln_11 = sr_l (abl fl) (nI j_1) k1 (nI j_10) := by
  first
  | (rw [itr_y (by assumption) (by assumption) (by omega)]; assumption)
  | with_reducible exact fr_ok (by assumption) (by assumption) (by omega) (by assumption)
  | with_reducible exact fr_neg (by assumption) (by assumption) (by assumption) (by assumption) (by assumption)
  | ((with_reducible refine fr_bad ?_); grind)
  | ((with_reducible refine (itr_n ?_).symm); grind)
  | (subst_vars; with_reducible exact (an_row_ok (by assumption) (by assumption) (by omega)).symm)
  | (subst_vars; with_reducible exact (an_row_neg (by assumption) (by assumption) (by assumption) (by assumption)).symm)
  | (unfold an_row; rw [if_pos (by grind)])
  | (unfold an_row; grind)
  | (unfold sr_l; rw [if_neg (by grind)])
  | (unfold sr_n; rw [if_neg (by grind)])
  | (subst_vars; rw [sr_l_ok (by assumption) (by assumption) (by omega)]; with_reducible exact abl_up (by omega))
  | (subst_vars; rw [sr_n_ok (by assumption) (by assumption) (by omega)]; with_reducible exact abn_up (by omega) (by assumption))
theorem lf_X7_row_12 {fl : Nat → Int32} {fe : Nat → Int32} {y0 : Nat} {y1 : Nat} {y2 : Nat} {y3 : Nat} {y4 : Nat} {y5 : Nat} {y6 : Nat} {y7 : Nat} {f0 : Nat → Int32} {f1 : Nat → Int32} {f2 : Nat → Int32} {f3 : Nat → Int32} {f4 : Nat → Int32} {f5 : Nat → Int32} {f6 : Nat → Int32} {f7 : Nat → Int32} {fi : Nat → Option Nat} {k1 : Int32} {j_1 : Nat} {j_10 : Nat} {fln_11 : Nat → Int32} {fen_11 : Nat → Int32} {f0n_11 : Nat → Int32} {f1n_11 : Nat → Int32} {f2n_11 : Nat → Int32} {f3n_11 : Nat → Int32} {f4n_11 : Nat → Int32} {f5n_11 : Nat → Int32} {f6n_11 : Nat → Int32} {f7n_11 : Nat → Int32} {xgn_12 : Int32} {r_12 : Int32} (hfi : fi 0 = some y0 ∧ fi 1 = some y1 ∧ fi 2 = some y2 ∧ fi 3 = some y3 ∧ fi 4 = some y4 ∧ fi 5 = some y5 ∧ fi 6 = some y6 ∧ fi 7 = some y7) (hfe : ∀ jq : Nat, jq < 8 → ∃ q : Nat, q ≤ 40 ∧ fe jq = nI q) (hj_1 : j_1 < 8) (f_5_1_0 : (¬ (k1 < 0 ∨ 2 < k1))) (c_8 : (nI j_10) ≤ 40) (c_9 : 0 ≤ (nI j_10)) (hj_10 : j_10 ≤ 40) (hF_11_0 : (∀ jq : Nat, jq < 8 → ∃ q : Nat, q ≤ 40 ∧ fen_11 jq = nI q)) (hF_11_1 : fln_11 = upd fl j_1 k1) (hF_11_2 : fen_11 = upd fe j_1 (nI j_10)) (hF_11_3 : (itX f0n_11 f1n_11 f2n_11 f3n_11 f4n_11 f5n_11 f6n_11 f7n_11) = upI (itX f0 f1 f2 f3 f4 f5 f6 f7) j_1 (fun _ => 0)) (hF_12_0 : (xgn_12 : Int32) = 0) (h_12 : r_12 = (nI j_10)) : abn fln_11 fen_11 = sr_n (abn fl fe) (nI j_1) k1 (nI j_10) := by
  first
  | (rw [itr_y (by assumption) (by assumption) (by omega)]; assumption)
  | with_reducible exact fr_ok (by assumption) (by assumption) (by omega) (by assumption)
  | with_reducible exact fr_neg (by assumption) (by assumption) (by assumption) (by assumption) (by assumption)
  | ((with_reducible refine fr_bad ?_); grind)
  | ((with_reducible refine (itr_n ?_).symm); grind)
  | (subst_vars; with_reducible exact (an_row_ok (by assumption) (by assumption) (by omega)).symm)
  | (subst_vars; with_reducible exact (an_row_neg (by assumption) (by assumption) (by assumption) (by assumption)).symm)
  | (unfold an_row; rw [if_pos (by grind)])
  | (unfold an_row; grind)
  | (unfold sr_l; rw [if_neg (by grind)])
  | (unfold sr_n; rw [if_neg (by grind)])
  | (subst_vars; rw [sr_l_ok (by assumption) (by assumption) (by omega)]; with_reducible exact abl_up (by omega))
  | (subst_vars; rw [sr_n_ok (by assumption) (by assumption) (by omega)]; with_reducible exact abn_up (by omega) (by assumption))
theorem lf_X7_row_13 {fl : Nat → Int32} {fe : Nat → Int32} {y0 : Nat} {y1 : Nat} {y2 : Nat} {y3 : Nat} {y4 : Nat} {y5 : Nat} {y6 : Nat} {y7 : Nat} {f0 : Nat → Int32} {f1 : Nat → Int32} {f2 : Nat → Int32} {f3 : Nat → Int32} {f4 : Nat → Int32} {f5 : Nat → Int32} {f6 : Nat → Int32} {f7 : Nat → Int32} {fi : Nat → Option Nat} {k1 : Int32} {j_1 : Nat} {j_10 : Nat} {fln_11 : Nat → Int32} {fen_11 : Nat → Int32} {f0n_11 : Nat → Int32} {f1n_11 : Nat → Int32} {f2n_11 : Nat → Int32} {f3n_11 : Nat → Int32} {f4n_11 : Nat → Int32} {f5n_11 : Nat → Int32} {f6n_11 : Nat → Int32} {f7n_11 : Nat → Int32} {xgn_12 : Int32} {r_12 : Int32} (hfi : fi 0 = some y0 ∧ fi 1 = some y1 ∧ fi 2 = some y2 ∧ fi 3 = some y3 ∧ fi 4 = some y4 ∧ fi 5 = some y5 ∧ fi 6 = some y6 ∧ fi 7 = some y7) (hfe : ∀ jq : Nat, jq < 8 → ∃ q : Nat, q ≤ 40 ∧ fe jq = nI q) (hj_1 : j_1 < 8) (f_5_1_0 : (¬ (k1 < 0 ∨ 2 < k1))) (c_8 : (nI j_10) ≤ 40) (c_9 : 0 ≤ (nI j_10)) (hj_10 : j_10 ≤ 40) (hF_11_0 : (∀ jq : Nat, jq < 8 → ∃ q : Nat, q ≤ 40 ∧ fen_11 jq = nI q)) (hF_11_1 : fln_11 = upd fl j_1 k1) (hF_11_2 : fen_11 = upd fe j_1 (nI j_10)) (hF_11_3 : (itX f0n_11 f1n_11 f2n_11 f3n_11 f4n_11 f5n_11 f6n_11 f7n_11) = upI (itX f0 f1 f2 f3 f4 f5 f6 f7) j_1 (fun _ => 0)) (hF_12_0 : (xgn_12 : Int32) = 0) (h_12 : r_12 = (nI j_10)) : (itX f0n_11 f1n_11 f2n_11 f3n_11 f4n_11 f5n_11 f6n_11 f7n_11) = n_itr (itX f0 f1 f2 f3 f4 f5 f6 f7) (nI j_1) k1 (nI j_10) := by
  first
  | (rw [itr_y (by assumption) (by assumption) (by omega)]; assumption)
  | with_reducible exact fr_ok (by assumption) (by assumption) (by omega) (by assumption)
  | with_reducible exact fr_neg (by assumption) (by assumption) (by assumption) (by assumption) (by assumption)
  | ((with_reducible refine fr_bad ?_); grind)
  | ((with_reducible refine (itr_n ?_).symm); grind)
  | (subst_vars; with_reducible exact (an_row_ok (by assumption) (by assumption) (by omega)).symm)
  | (subst_vars; with_reducible exact (an_row_neg (by assumption) (by assumption) (by assumption) (by assumption)).symm)
  | (unfold an_row; rw [if_pos (by grind)])
  | (unfold an_row; grind)
  | (unfold sr_l; rw [if_neg (by grind)])
  | (unfold sr_n; rw [if_neg (by grind)])
  | (subst_vars; rw [sr_l_ok (by assumption) (by assumption) (by omega)]; with_reducible exact abl_up (by omega))
  | (subst_vars; rw [sr_n_ok (by assumption) (by assumption) (by omega)]; with_reducible exact abn_up (by omega) (by assumption))
theorem lf_X7_row_14 {xg : Int32} {fl : Nat → Int32} {fe : Nat → Int32} {y0 : Nat} {y1 : Nat} {y2 : Nat} {y3 : Nat} {y4 : Nat} {y5 : Nat} {y6 : Nat} {y7 : Nat} {f0 : Nat → Int32} {f1 : Nat → Int32} {f2 : Nat → Int32} {f3 : Nat → Int32} {f4 : Nat → Int32} {f5 : Nat → Int32} {f6 : Nat → Int32} {f7 : Nat → Int32} {fi : Nat → Option Nat} {k1 : Int32} {j_1 : Nat} {j_10 : Nat} {fln_11 : Nat → Int32} {fen_11 : Nat → Int32} {f0n_11 : Nat → Int32} {f1n_11 : Nat → Int32} {f2n_11 : Nat → Int32} {f3n_11 : Nat → Int32} {f4n_11 : Nat → Int32} {f5n_11 : Nat → Int32} {f6n_11 : Nat → Int32} {f7n_11 : Nat → Int32} {xgn_12 : Int32} {r_12 : Int32} (hfi : fi 0 = some y0 ∧ fi 1 = some y1 ∧ fi 2 = some y2 ∧ fi 3 = some y3 ∧ fi 4 = some y4 ∧ fi 5 = some y5 ∧ fi 6 = some y6 ∧ fi 7 = some y7) (hfe : ∀ jq : Nat, jq < 8 → ∃ q : Nat, q ≤ 40 ∧ fe jq = nI q) (hj_1 : j_1 < 8) (f_5_1_0 : (¬ (k1 < 0 ∨ 2 < k1))) (c_8 : (nI j_10) ≤ 40) (c_9 : 0 ≤ (nI j_10)) (hj_10 : j_10 ≤ 40) (hF_11_0 : (∀ jq : Nat, jq < 8 → ∃ q : Nat, q ≤ 40 ∧ fen_11 jq = nI q)) (hF_11_1 : fln_11 = upd fl j_1 k1) (hF_11_2 : fen_11 = upd fe j_1 (nI j_10)) (hF_11_3 : (itX f0n_11 f1n_11 f2n_11 f3n_11 f4n_11 f5n_11 f6n_11 f7n_11) = upI (itX f0 f1 f2 f3 f4 f5 f6 f7) j_1 (fun _ => 0)) (hF_12_0 : (xgn_12 : Int32) = 0) (h_12 : r_12 = (nI j_10)) : xgn_12 = f_row (nI j_1) k1 (nI j_10) xg := by
  first
  | (rw [itr_y (by assumption) (by assumption) (by omega)]; assumption)
  | with_reducible exact fr_ok (by assumption) (by assumption) (by omega) (by assumption)
  | with_reducible exact fr_neg (by assumption) (by assumption) (by assumption) (by assumption) (by assumption)
  | ((with_reducible refine fr_bad ?_); grind)
  | ((with_reducible refine (itr_n ?_).symm); grind)
  | (subst_vars; with_reducible exact (an_row_ok (by assumption) (by assumption) (by omega)).symm)
  | (subst_vars; with_reducible exact (an_row_neg (by assumption) (by assumption) (by assumption) (by assumption)).symm)
  | (unfold an_row; rw [if_pos (by grind)])
  | (unfold an_row; grind)
  | (unfold sr_l; rw [if_neg (by grind)])
  | (unfold sr_n; rw [if_neg (by grind)])
  | (subst_vars; rw [sr_l_ok (by assumption) (by assumption) (by omega)]; with_reducible exact abl_up (by omega))
  | (subst_vars; rw [sr_n_ok (by assumption) (by assumption) (by omega)]; with_reducible exact abn_up (by omega) (by assumption))
theorem lf_X7_row_15 {fl : Nat → Int32} {fe : Nat → Int32} {y0 : Nat} {y1 : Nat} {y2 : Nat} {y3 : Nat} {y4 : Nat} {y5 : Nat} {y6 : Nat} {y7 : Nat} {f0 : Nat → Int32} {f1 : Nat → Int32} {f2 : Nat → Int32} {f3 : Nat → Int32} {f4 : Nat → Int32} {f5 : Nat → Int32} {f6 : Nat → Int32} {f7 : Nat → Int32} {fi : Nat → Option Nat} {k1 : Int32} {j_1 : Nat} {j_10 : Nat} {fln_11 : Nat → Int32} {fen_11 : Nat → Int32} {f0n_11 : Nat → Int32} {f1n_11 : Nat → Int32} {f2n_11 : Nat → Int32} {f3n_11 : Nat → Int32} {f4n_11 : Nat → Int32} {f5n_11 : Nat → Int32} {f6n_11 : Nat → Int32} {f7n_11 : Nat → Int32} {xgn_12 : Int32} {r_12 : Int32} (hfi : fi 0 = some y0 ∧ fi 1 = some y1 ∧ fi 2 = some y2 ∧ fi 3 = some y3 ∧ fi 4 = some y4 ∧ fi 5 = some y5 ∧ fi 6 = some y6 ∧ fi 7 = some y7) (hfe : ∀ jq : Nat, jq < 8 → ∃ q : Nat, q ≤ 40 ∧ fe jq = nI q) (hj_1 : j_1 < 8) (f_5_1_0 : (¬ (k1 < 0 ∨ 2 < k1))) (c_8 : (nI j_10) ≤ 40) (c_9 : 0 ≤ (nI j_10)) (hj_10 : j_10 ≤ 40) (hF_11_0 : (∀ jq : Nat, jq < 8 → ∃ q : Nat, q ≤ 40 ∧ fen_11 jq = nI q)) (hF_11_1 : fln_11 = upd fl j_1 k1) (hF_11_2 : fen_11 = upd fe j_1 (nI j_10)) (hF_11_3 : (itX f0n_11 f1n_11 f2n_11 f3n_11 f4n_11 f5n_11 f6n_11 f7n_11) = upI (itX f0 f1 f2 f3 f4 f5 f6 f7) j_1 (fun _ => 0)) (hF_12_0 : (xgn_12 : Int32) = 0) (h_12 : r_12 = (nI j_10)) : r_12 = (an_row (nI j_1) k1 (nI j_10)) := by
  first
  | (rw [itr_y (by assumption) (by assumption) (by omega)]; assumption)
  | with_reducible exact fr_ok (by assumption) (by assumption) (by omega) (by assumption)
  | with_reducible exact fr_neg (by assumption) (by assumption) (by assumption) (by assumption) (by assumption)
  | ((with_reducible refine fr_bad ?_); grind)
  | ((with_reducible refine (itr_n ?_).symm); grind)
  | (subst_vars; with_reducible exact (an_row_ok (by assumption) (by assumption) (by omega)).symm)
  | (subst_vars; with_reducible exact (an_row_neg (by assumption) (by assumption) (by assumption) (by assumption)).symm)
  | (unfold an_row; rw [if_pos (by grind)])
  | (unfold an_row; grind)
  | (unfold sr_l; rw [if_neg (by grind)])
  | (unfold sr_n; rw [if_neg (by grind)])
  | (subst_vars; rw [sr_l_ok (by assumption) (by assumption) (by omega)]; with_reducible exact abl_up (by omega))
  | (subst_vars; rw [sr_n_ok (by assumption) (by assumption) (by omega)]; with_reducible exact abn_up (by omega) (by assumption))
theorem lf_X7_row_16 {fl : Nat → Int32} {fe : Nat → Int32} {y0 : Nat} {y1 : Nat} {y2 : Nat} {y3 : Nat} {y4 : Nat} {y5 : Nat} {y6 : Nat} {y7 : Nat} {fi : Nat → Option Nat} {k1 : Int32} {k2 : Int32} {j_1 : Nat} {xgn_13 : Int32} {r_13 : Int32} (hfi : fi 0 = some y0 ∧ fi 1 = some y1 ∧ fi 2 = some y2 ∧ fi 3 = some y3 ∧ fi 4 = some y4 ∧ fi 5 = some y5 ∧ fi 6 = some y6 ∧ fi 7 = some y7) (hfe : ∀ jq : Nat, jq < 8 → ∃ q : Nat, q ≤ 40 ∧ fe jq = nI q) (hj_1 : j_1 < 8) (f_5_1_0 : (¬ (k1 < 0 ∨ 2 < k1))) (c_8 : k2 ≤ 40) (c_9 : ¬ (0 ≤ k2)) (hF_13_0 : (xgn_13 : Int32) = 4) (h_13 : r_13 = (-1000010 - 4)) : abl fl = sr_l (abl fl) (nI j_1) k1 k2 := by
  first
  | (rw [itr_y (by assumption) (by assumption) (by omega)]; assumption)
  | with_reducible exact fr_ok (by assumption) (by assumption) (by omega) (by assumption)
  | with_reducible exact fr_neg (by assumption) (by assumption) (by assumption) (by assumption) (by assumption)
  | ((with_reducible refine fr_bad ?_); grind)
  | ((with_reducible refine (itr_n ?_).symm); grind)
  | (subst_vars; with_reducible exact (an_row_ok (by assumption) (by assumption) (by omega)).symm)
  | (subst_vars; with_reducible exact (an_row_neg (by assumption) (by assumption) (by assumption) (by assumption)).symm)
  | (unfold an_row; rw [if_pos (by grind)])
  | (unfold an_row; grind)
  | (unfold sr_l; rw [if_neg (by grind)])
  | (unfold sr_n; rw [if_neg (by grind)])
  | (subst_vars; rw [sr_l_ok (by assumption) (by assumption) (by omega)]; with_reducible exact abl_up (by omega))
  | (subst_vars; rw [sr_n_ok (by assumption) (by assumption) (by omega)]; with_reducible exact abn_up (by omega) (by assumption))
theorem lf_X7_row_17 {fl : Nat → Int32} {fe : Nat → Int32} {y0 : Nat} {y1 : Nat} {y2 : Nat} {y3 : Nat} {y4 : Nat} {y5 : Nat} {y6 : Nat} {y7 : Nat} {fi : Nat → Option Nat} {k1 : Int32} {k2 : Int32} {j_1 : Nat} {xgn_13 : Int32} {r_13 : Int32} (hfi : fi 0 = some y0 ∧ fi 1 = some y1 ∧ fi 2 = some y2 ∧ fi 3 = some y3 ∧ fi 4 = some y4 ∧ fi 5 = some y5 ∧ fi 6 = some y6 ∧ fi 7 = some y7) (hfe : ∀ jq : Nat, jq < 8 → ∃ q : Nat, q ≤ 40 ∧ fe jq = nI q) (hj_1 : j_1 < 8) (f_5_1_0 : (¬ (k1 < 0 ∨ 2 < k1))) (c_8 : k2 ≤ 40) (c_9 : ¬ (0 ≤ k2)) (hF_13_0 : (xgn_13 : Int32) = 4) (h_13 : r_13 = (-1000010 - 4)) : abn fl fe = sr_n (abn fl fe) (nI j_1) k1 k2 := by
  first
  | (rw [itr_y (by assumption) (by assumption) (by omega)]; assumption)
  | with_reducible exact fr_ok (by assumption) (by assumption) (by omega) (by assumption)
  | with_reducible exact fr_neg (by assumption) (by assumption) (by assumption) (by assumption) (by assumption)
  | ((with_reducible refine fr_bad ?_); grind)
  | ((with_reducible refine (itr_n ?_).symm); grind)
  | (subst_vars; with_reducible exact (an_row_ok (by assumption) (by assumption) (by omega)).symm)
  | (subst_vars; with_reducible exact (an_row_neg (by assumption) (by assumption) (by assumption) (by assumption)).symm)
  | (unfold an_row; rw [if_pos (by grind)])
  | (unfold an_row; grind)
  | (unfold sr_l; rw [if_neg (by grind)])
  | (unfold sr_n; rw [if_neg (by grind)])
  | (subst_vars; rw [sr_l_ok (by assumption) (by assumption) (by omega)]; with_reducible exact abl_up (by omega))
  | (subst_vars; rw [sr_n_ok (by assumption) (by assumption) (by omega)]; with_reducible exact abn_up (by omega) (by assumption))
theorem lf_X7_row_18 {fe : Nat → Int32} {y0 : Nat} {y1 : Nat} {y2 : Nat} {y3 : Nat} {y4 : Nat} {y5 : Nat} {y6 : Nat} {y7 : Nat} {f0 : Nat → Int32} {f1 : Nat → Int32} {f2 : Nat → Int32} {f3 : Nat → Int32} {f4 : Nat → Int32} {f5 : Nat → Int32} {f6 : Nat → Int32} {f7 : Nat → Int32} {fi : Nat → Option Nat} {k1 : Int32} {k2 : Int32} {j_1 : Nat} {xgn_13 : Int32} {r_13 : Int32} (hfi : fi 0 = some y0 ∧ fi 1 = some y1 ∧ fi 2 = some y2 ∧ fi 3 = some y3 ∧ fi 4 = some y4 ∧ fi 5 = some y5 ∧ fi 6 = some y6 ∧ fi 7 = some y7) (hfe : ∀ jq : Nat, jq < 8 → ∃ q : Nat, q ≤ 40 ∧ fe jq = nI q) (hj_1 : j_1 < 8) (f_5_1_0 : (¬ (k1 < 0 ∨ 2 < k1))) (c_8 : k2 ≤ 40) (c_9 : ¬ (0 ≤ k2)) (hF_13_0 : (xgn_13 : Int32) = 4) (h_13 : r_13 = (-1000010 - 4)) : (itX f0 f1 f2 f3 f4 f5 f6 f7) = n_itr (itX f0 f1 f2 f3 f4 f5 f6 f7) (nI j_1) k1 k2 := by
  first
  | (rw [itr_y (by assumption) (by assumption) (by omega)]; assumption)
  | with_reducible exact fr_ok (by assumption) (by assumption) (by omega) (by assumption)
  | with_reducible exact fr_neg (by assumption) (by assumption) (by assumption) (by assumption) (by assumption)
  | ((with_reducible refine fr_bad ?_); grind)
  | ((with_reducible refine (itr_n ?_).symm); grind)
  | (subst_vars; with_reducible exact (an_row_ok (by assumption) (by assumption) (by omega)).symm)
  | (subst_vars; with_reducible exact (an_row_neg (by assumption) (by assumption) (by assumption) (by assumption)).symm)
  | (unfold an_row; rw [if_pos (by grind)])
  | (unfold an_row; grind)
  | (unfold sr_l; rw [if_neg (by grind)])
  | (unfold sr_n; rw [if_neg (by grind)])
  | (subst_vars; rw [sr_l_ok (by assumption) (by assumption) (by omega)]; with_reducible exact abl_up (by omega))
  | (subst_vars; rw [sr_n_ok (by assumption) (by assumption) (by omega)]; with_reducible exact abn_up (by omega) (by assumption))
theorem lf_X7_row_19 {xg : Int32} {fe : Nat → Int32} {y0 : Nat} {y1 : Nat} {y2 : Nat} {y3 : Nat} {y4 : Nat} {y5 : Nat} {y6 : Nat} {y7 : Nat} {fi : Nat → Option Nat} {k1 : Int32} {k2 : Int32} {j_1 : Nat} {xgn_13 : Int32} {r_13 : Int32} (hfi : fi 0 = some y0 ∧ fi 1 = some y1 ∧ fi 2 = some y2 ∧ fi 3 = some y3 ∧ fi 4 = some y4 ∧ fi 5 = some y5 ∧ fi 6 = some y6 ∧ fi 7 = some y7) (hfe : ∀ jq : Nat, jq < 8 → ∃ q : Nat, q ≤ 40 ∧ fe jq = nI q) (hj_1 : j_1 < 8) (f_5_1_0 : (¬ (k1 < 0 ∨ 2 < k1))) (c_8 : k2 ≤ 40) (c_9 : ¬ (0 ≤ k2)) (hF_13_0 : (xgn_13 : Int32) = 4) (h_13 : r_13 = (-1000010 - 4)) : xgn_13 = f_row (nI j_1) k1 k2 xg := by
  first
  | (rw [itr_y (by assumption) (by assumption) (by omega)]; assumption)
  | with_reducible exact fr_ok (by assumption) (by assumption) (by omega) (by assumption)
  | with_reducible exact fr_neg (by assumption) (by assumption) (by assumption) (by assumption) (by assumption)
  | ((with_reducible refine fr_bad ?_); grind)
  | ((with_reducible refine (itr_n ?_).symm); grind)
  | (subst_vars; with_reducible exact (an_row_ok (by assumption) (by assumption) (by omega)).symm)
  | (subst_vars; with_reducible exact (an_row_neg (by assumption) (by assumption) (by assumption) (by assumption)).symm)
  | (unfold an_row; rw [if_pos (by grind)])
  | (unfold an_row; grind)
  | (unfold sr_l; rw [if_neg (by grind)])
  | (unfold sr_n; rw [if_neg (by grind)])
  | (subst_vars; rw [sr_l_ok (by assumption) (by assumption) (by omega)]; with_reducible exact abl_up (by omega))
  | (subst_vars; rw [sr_n_ok (by assumption) (by assumption) (by omega)]; with_reducible exact abn_up (by omega) (by assumption))
theorem lf_X7_row_20 {fe : Nat → Int32} {y0 : Nat} {y1 : Nat} {y2 : Nat} {y3 : Nat} {y4 : Nat} {y5 : Nat} {y6 : Nat} {y7 : Nat} {fi : Nat → Option Nat} {k1 : Int32} {k2 : Int32} {j_1 : Nat} {xgn_13 : Int32} {r_13 : Int32} (hfi : fi 0 = some y0 ∧ fi 1 = some y1 ∧ fi 2 = some y2 ∧ fi 3 = some y3 ∧ fi 4 = some y4 ∧ fi 5 = some y5 ∧ fi 6 = some y6 ∧ fi 7 = some y7) (hfe : ∀ jq : Nat, jq < 8 → ∃ q : Nat, q ≤ 40 ∧ fe jq = nI q) (hj_1 : j_1 < 8) (f_5_1_0 : (¬ (k1 < 0 ∨ 2 < k1))) (c_8 : k2 ≤ 40) (c_9 : ¬ (0 ≤ k2)) (hF_13_0 : (xgn_13 : Int32) = 4) (h_13 : r_13 = (-1000010 - 4)) : r_13 = (an_row (nI j_1) k1 k2) := by
  first
  | (rw [itr_y (by assumption) (by assumption) (by omega)]; assumption)
  | with_reducible exact fr_ok (by assumption) (by assumption) (by omega) (by assumption)
  | with_reducible exact fr_neg (by assumption) (by assumption) (by assumption) (by assumption) (by assumption)
  | ((with_reducible refine fr_bad ?_); grind)
  | ((with_reducible refine (itr_n ?_).symm); grind)
  | (subst_vars; with_reducible exact (an_row_ok (by assumption) (by assumption) (by omega)).symm)
  | (subst_vars; with_reducible exact (an_row_neg (by assumption) (by assumption) (by assumption) (by assumption)).symm)
  | (unfold an_row; rw [if_pos (by grind)])
  | (unfold an_row; grind)
  | (unfold sr_l; rw [if_neg (by grind)])
  | (unfold sr_n; rw [if_neg (by grind)])
  | (subst_vars; rw [sr_l_ok (by assumption) (by assumption) (by omega)]; with_reducible exact abl_up (by omega))
  | (subst_vars; rw [sr_n_ok (by assumption) (by assumption) (by omega)]; with_reducible exact abn_up (by omega) (by assumption))
theorem lf_X7_row_21 {fl : Nat → Int32} {fe : Nat → Int32} {y0 : Nat} {y1 : Nat} {y2 : Nat} {y3 : Nat} {y4 : Nat} {y5 : Nat} {y6 : Nat} {y7 : Nat} {fi : Nat → Option Nat} {k1 : Int32} {k2 : Int32} {j_1 : Nat} (hfi : fi 0 = some y0 ∧ fi 1 = some y1 ∧ fi 2 = some y2 ∧ fi 3 = some y3 ∧ fi 4 = some y4 ∧ fi 5 = some y5 ∧ fi 6 = some y6 ∧ fi 7 = some y7) (hfe : ∀ jq : Nat, jq < 8 → ∃ q : Nat, q ≤ 40 ∧ fe jq = nI q) (hj_1 : j_1 < 8) (f_5_1_0 : (¬ (k1 < 0 ∨ 2 < k1))) (c_8 : ¬ (k2 ≤ 40)) : abl fl = sr_l (abl fl) (nI j_1) k1 k2 := by
  first
  | (rw [itr_y (by assumption) (by assumption) (by omega)]; assumption)
  | with_reducible exact fr_ok (by assumption) (by assumption) (by omega) (by assumption)
  | with_reducible exact fr_neg (by assumption) (by assumption) (by assumption) (by assumption) (by assumption)
  | ((with_reducible refine fr_bad ?_); grind)
  | ((with_reducible refine (itr_n ?_).symm); grind)
  | (subst_vars; with_reducible exact (an_row_ok (by assumption) (by assumption) (by omega)).symm)
  | (subst_vars; with_reducible exact (an_row_neg (by assumption) (by assumption) (by assumption) (by assumption)).symm)
  | (unfold an_row; rw [if_pos (by grind)])
  | (unfold an_row; grind)
  | (unfold sr_l; rw [if_neg (by grind)])
  | (unfold sr_n; rw [if_neg (by grind)])
  | (subst_vars; rw [sr_l_ok (by assumption) (by assumption) (by omega)]; with_reducible exact abl_up (by omega))
  | (subst_vars; rw [sr_n_ok (by assumption) (by assumption) (by omega)]; with_reducible exact abn_up (by omega) (by assumption))
theorem lf_X7_row_22 {fl : Nat → Int32} {fe : Nat → Int32} {y0 : Nat} {y1 : Nat} {y2 : Nat} {y3 : Nat} {y4 : Nat} {y5 : Nat} {y6 : Nat} {y7 : Nat} {fi : Nat → Option Nat} {k1 : Int32} {k2 : Int32} {j_1 : Nat} (hfi : fi 0 = some y0 ∧ fi 1 = some y1 ∧ fi 2 = some y2 ∧ fi 3 = some y3 ∧ fi 4 = some y4 ∧ fi 5 = some y5 ∧ fi 6 = some y6 ∧ fi 7 = some y7) (hfe : ∀ jq : Nat, jq < 8 → ∃ q : Nat, q ≤ 40 ∧ fe jq = nI q) (hj_1 : j_1 < 8) (f_5_1_0 : (¬ (k1 < 0 ∨ 2 < k1))) (c_8 : ¬ (k2 ≤ 40)) : abn fl fe = sr_n (abn fl fe) (nI j_1) k1 k2 := by
  first
  | (rw [itr_y (by assumption) (by assumption) (by omega)]; assumption)
  | with_reducible exact fr_ok (by assumption) (by assumption) (by omega) (by assumption)
  | with_reducible exact fr_neg (by assumption) (by assumption) (by assumption) (by assumption) (by assumption)
  | ((with_reducible refine fr_bad ?_); grind)
  | ((with_reducible refine (itr_n ?_).symm); grind)
  | (subst_vars; with_reducible exact (an_row_ok (by assumption) (by assumption) (by omega)).symm)
  | (subst_vars; with_reducible exact (an_row_neg (by assumption) (by assumption) (by assumption) (by assumption)).symm)
  | (unfold an_row; rw [if_pos (by grind)])
  | (unfold an_row; grind)
  | (unfold sr_l; rw [if_neg (by grind)])
  | (unfold sr_n; rw [if_neg (by grind)])
  | (subst_vars; rw [sr_l_ok (by assumption) (by assumption) (by omega)]; with_reducible exact abl_up (by omega))
  | (subst_vars; rw [sr_n_ok (by assumption) (by assumption) (by omega)]; with_reducible exact abn_up (by omega) (by assumption))
theorem lf_X7_row_23 {fe : Nat → Int32} {y0 : Nat} {y1 : Nat} {y2 : Nat} {y3 : Nat} {y4 : Nat} {y5 : Nat} {y6 : Nat} {y7 : Nat} {f0 : Nat → Int32} {f1 : Nat → Int32} {f2 : Nat → Int32} {f3 : Nat → Int32} {f4 : Nat → Int32} {f5 : Nat → Int32} {f6 : Nat → Int32} {f7 : Nat → Int32} {fi : Nat → Option Nat} {k1 : Int32} {k2 : Int32} {j_1 : Nat} (hfi : fi 0 = some y0 ∧ fi 1 = some y1 ∧ fi 2 = some y2 ∧ fi 3 = some y3 ∧ fi 4 = some y4 ∧ fi 5 = some y5 ∧ fi 6 = some y6 ∧ fi 7 = some y7) (hfe : ∀ jq : Nat, jq < 8 → ∃ q : Nat, q ≤ 40 ∧ fe jq = nI q) (hj_1 : j_1 < 8) (f_5_1_0 : (¬ (k1 < 0 ∨ 2 < k1))) (c_8 : ¬ (k2 ≤ 40)) : (itX f0 f1 f2 f3 f4 f5 f6 f7) = n_itr (itX f0 f1 f2 f3 f4 f5 f6 f7) (nI j_1) k1 k2 := by
  first
  | (rw [itr_y (by assumption) (by assumption) (by omega)]; assumption)
  | with_reducible exact fr_ok (by assumption) (by assumption) (by omega) (by assumption)
  | with_reducible exact fr_neg (by assumption) (by assumption) (by assumption) (by assumption) (by assumption)
  | ((with_reducible refine fr_bad ?_); grind)
  | ((with_reducible refine (itr_n ?_).symm); grind)
  | (subst_vars; with_reducible exact (an_row_ok (by assumption) (by assumption) (by omega)).symm)
  | (subst_vars; with_reducible exact (an_row_neg (by assumption) (by assumption) (by assumption) (by assumption)).symm)
  | (unfold an_row; rw [if_pos (by grind)])
  | (unfold an_row; grind)
  | (unfold sr_l; rw [if_neg (by grind)])
  | (unfold sr_n; rw [if_neg (by grind)])
  | (subst_vars; rw [sr_l_ok (by assumption) (by assumption) (by omega)]; with_reducible exact abl_up (by omega))
  | (subst_vars; rw [sr_n_ok (by assumption) (by assumption) (by omega)]; with_reducible exact abn_up (by omega) (by assumption))
theorem lf_X7_row_24 {xg : Int32} {fe : Nat → Int32} {y0 : Nat} {y1 : Nat} {y2 : Nat} {y3 : Nat} {y4 : Nat} {y5 : Nat} {y6 : Nat} {y7 : Nat} {fi : Nat → Option Nat} {k1 : Int32} {k2 : Int32} {j_1 : Nat} (hfi : fi 0 = some y0 ∧ fi 1 = some y1 ∧ fi 2 = some y2 ∧ fi 3 = some y3 ∧ fi 4 = some y4 ∧ fi 5 = some y5 ∧ fi 6 = some y6 ∧ fi 7 = some y7) (hfe : ∀ jq : Nat, jq < 8 → ∃ q : Nat, q ≤ 40 ∧ fe jq = nI q) (hj_1 : j_1 < 8) (f_5_1_0 : (¬ (k1 < 0 ∨ 2 < k1))) (c_8 : ¬ (k2 ≤ 40)) : xg = f_row (nI j_1) k1 k2 xg := by
  first
  | (rw [itr_y (by assumption) (by assumption) (by omega)]; assumption)
  | with_reducible exact fr_ok (by assumption) (by assumption) (by omega) (by assumption)
  | with_reducible exact fr_neg (by assumption) (by assumption) (by assumption) (by assumption) (by assumption)
  | ((with_reducible refine fr_bad ?_); grind)
  | ((with_reducible refine (itr_n ?_).symm); grind)
  | (subst_vars; with_reducible exact (an_row_ok (by assumption) (by assumption) (by omega)).symm)
  | (subst_vars; with_reducible exact (an_row_neg (by assumption) (by assumption) (by assumption) (by assumption)).symm)
  | (unfold an_row; rw [if_pos (by grind)])
  | (unfold an_row; grind)
  | (unfold sr_l; rw [if_neg (by grind)])
  | (unfold sr_n; rw [if_neg (by grind)])
  | (subst_vars; rw [sr_l_ok (by assumption) (by assumption) (by omega)]; with_reducible exact abl_up (by omega))
  | (subst_vars; rw [sr_n_ok (by assumption) (by assumption) (by omega)]; with_reducible exact abn_up (by omega) (by assumption))
theorem lf_X7_row_25 {fe : Nat → Int32} {y0 : Nat} {y1 : Nat} {y2 : Nat} {y3 : Nat} {y4 : Nat} {y5 : Nat} {y6 : Nat} {y7 : Nat} {fi : Nat → Option Nat} {k1 : Int32} {k2 : Int32} {j_1 : Nat} (hfi : fi 0 = some y0 ∧ fi 1 = some y1 ∧ fi 2 = some y2 ∧ fi 3 = some y3 ∧ fi 4 = some y4 ∧ fi 5 = some y5 ∧ fi 6 = some y6 ∧ fi 7 = some y7) (hfe : ∀ jq : Nat, jq < 8 → ∃ q : Nat, q ≤ 40 ∧ fe jq = nI q) (hj_1 : j_1 < 8) (f_5_1_0 : (¬ (k1 < 0 ∨ 2 < k1))) (c_8 : ¬ (k2 ≤ 40)) : (-1000001) = (an_row (nI j_1) k1 k2) := by
  first
  | (rw [itr_y (by assumption) (by assumption) (by omega)]; assumption)
  | with_reducible exact fr_ok (by assumption) (by assumption) (by omega) (by assumption)
  | with_reducible exact fr_neg (by assumption) (by assumption) (by assumption) (by assumption) (by assumption)
  | ((with_reducible refine fr_bad ?_); grind)
  | ((with_reducible refine (itr_n ?_).symm); grind)
  | (subst_vars; with_reducible exact (an_row_ok (by assumption) (by assumption) (by omega)).symm)
  | (subst_vars; with_reducible exact (an_row_neg (by assumption) (by assumption) (by assumption) (by assumption)).symm)
  | (unfold an_row; rw [if_pos (by grind)])
  | (unfold an_row; grind)
  | (unfold sr_l; rw [if_neg (by grind)])
  | (unfold sr_n; rw [if_neg (by grind)])
  | (subst_vars; rw [sr_l_ok (by assumption) (by assumption) (by omega)]; with_reducible exact abl_up (by omega))
  | (subst_vars; rw [sr_n_ok (by assumption) (by assumption) (by omega)]; with_reducible exact abn_up (by omega) (by assumption))
set_option maxHeartbeats 4000000 in
set_option maxRecDepth 100000 in
theorem r_X7_row (l : Launch) (dC : Nat → ClassId) (dI : Nat → Nat → Nat) (cI cZ cL cJ : ClassId) (sz : Nat) (x : Nat) (ro : Nat) (ta : Nat) (no : Nat) (ac : Nat) (im : Nat) (tr : Nat) (pl : Nat) (cs : Nat) (ak : Nat) (xf : Int32) (xg : Int32) (it : Nat) (la : Nat) (le : Nat) (fl : Nat → Int32) (fe : Nat → Int32) (y0 : Nat) (y1 : Nat) (y2 : Nat) (y3 : Nat) (y4 : Nat) (y5 : Nat) (y6 : Nat) (y7 : Nat) (f0 : Nat → Int32) (f1 : Nat → Int32) (f2 : Nat → Int32) (f3 : Nat → Int32) (f4 : Nat → Int32) (f5 : Nat → Int32) (f6 : Nat → Int32) (f7 : Nat → Int32) (fi : Nat → Option Nat) (k0 : Int32) (k1 : Int32) (k2 : Int32) (hfi : fi 0 = some y0 ∧ fi 1 = some y1 ∧ fi 2 = some y2 ∧ fi 3 = some y3 ∧ fi 4 = some y4 ∧ fi 5 = some y5 ∧ fi 6 = some y6 ∧ fi 7 = some y7) (hfe : ∀ jq : Nat, jq < 8 → ∃ q : Nat, q ≤ 40 ∧ fe jq = nI q) : Met l yX7_row wsX7_row ({ frames := 2, cells := 0, slots := 0, locals := 46 }) (va_Pc [.ref x, .int k0, .int k1, .int k2] (fun U => U.heap.size = sz ∧ va_P (dC, dI) vwCl [(xo_7_rrrrrrrrrii x ro ta no ac im tr pl cs ak xf xg), (xo_5_rrr ro it la le), (xI la cI 8 fl), (xI le cI 8 fe), (xJ it cJ 8 fi), (xI y0 cI 40 f0), (xI y1 cI 40 f1), (xI y2 cI 40 f2), (xI y3 cI 40 f3), (xI y4 cI 40 f4), (xI y5 cI 40 f5), (xI y6 cI 40 f6), (xI y7 cI 40 f7)] U.heap ∧ va_K (dC, dI) vwCl [(cI, .int), (cZ, .boolean), (cL, .object RX3), (cJ, .array .int)] U ∧ va_D (fun _ => True) [(xo_7_rrrrrrrrrii x ro ta no ac im tr pl cs ak xf xg), (xo_5_rrr ro it la le), (xI la cI 8 fl), (xI le cI 8 fe), (xJ it cJ 8 fi), (xI y0 cI 40 f0), (xI y1 cI 40 f1), (xI y2 cI 40 f2), (xI y3 cI 40 f3), (xI y4 cI 40 f4), (xI y5 cI 40 f5), (xI y6 cI 40 f6), (xI y7 cI 40 f7)])) (va_Qi (fun r (_ : Unit) => r = (an_row k0 k1 k2)) (fun (_ : Unit) t => ∃ (fln : Nat → Int32) (fen : Nat → Int32) (f0n : Nat → Int32) (f1n : Nat → Int32) (f2n : Nat → Int32) (f3n : Nat → Int32) (f4n : Nat → Int32) (f5n : Nat → Int32) (f6n : Nat → Int32) (f7n : Nat → Int32) (xgn : Int32), va_P (dC, dI) vwCl [(xo_7_rrrrrrrrrii x ro ta no ac im tr pl cs ak xf xgn), (xo_5_rrr ro it la le), (xI la cI 8 fln), (xI le cI 8 fen), (xJ it cJ 8 fi), (xI y0 cI 40 f0n), (xI y1 cI 40 f1n), (xI y2 cI 40 f2n), (xI y3 cI 40 f3n), (xI y4 cI 40 f4n), (xI y5 cI 40 f5n), (xI y6 cI 40 f6n), (xI y7 cI 40 f7n)] t.heap ∧ va_D (va_A [(xo_7_rrrrrrrrrii x ro ta no ac im tr pl cs ak xf xg), (xo_5_rrr ro it la le), (xI la cI 8 fl), (xI le cI 8 fe), (xJ it cJ 8 fi), (xI y0 cI 40 f0), (xI y1 cI 40 f1), (xI y2 cI 40 f2), (xI y3 cI 40 f3), (xI y4 cI 40 f4), (xI y5 cI 40 f5), (xI y6 cI 40 f6), (xI y7 cI 40 f7)] sz) [(xo_7_rrrrrrrrrii x ro ta no ac im tr pl cs ak xf xgn), (xo_5_rrr ro it la le), (xI la cI 8 fln), (xI le cI 8 fen), (xJ it cJ 8 fi), (xI y0 cI 40 f0n), (xI y1 cI 40 f1n), (xI y2 cI 40 f2n), (xI y3 cI 40 f3n), (xI y4 cI 40 f4n), (xI y5 cI 40 f5n), (xI y6 cI 40 f6n), (xI y7 cI 40 f7n)] ∧ (∀ jq : Nat, jq < 8 → ∃ q : Nat, q ≤ 40 ∧ fen jq = nI q) ∧ abl fln = sr_l (abl fl) k0 k1 k2 ∧ abn fln fen = sr_n (abn fl fe) k0 k1 k2 ∧ (itX f0n f1n f2n f3n f4n f5n f6n f7n) = n_itr (itX f0 f1 f2 f3 f4 f5 f6 f7) k0 k1 k2 ∧ xgn = f_row k0 k1 k2 xg) (va_A [(xo_7_rrrrrrrrrii x ro ta no ac im tr pl cs ak xf xg), (xo_5_rrr ro it la le), (xI la cI 8 fl), (xI le cI 8 fe), (xJ it cJ 8 fi), (xI y0 cI 40 f0), (xI y1 cI 40 f1), (xI y2 cI 40 f2), (xI y3 cI 40 f3), (xI y4 cI 40 f4), (xI y5 cI 40 f5), (xI y6 cI 40 f6), (xI y7 cI 40 f7)] sz)) 0 0 (va_A [(xo_7_rrrrrrrrrii x ro ta no ac im tr pl cs ak xf xg), (xo_5_rrr ro it la le), (xI la cI 8 fl), (xI le cI 8 fe), (xJ it cJ 8 fi), (xI y0 cI 40 f0), (xI y1 cI 40 f1), (xI y2 cI 40 f2), (xI y3 cI 40 f3), (xI y4 cI 40 f4), (xI y5 cI 40 f5), (xI y6 cI 40 f6), (xI y7 cI 40 f7)] sz) := by
  refine Met.ofW (cc := cX7_row) (maxL := 4) (ret := (some .int)) (by decide) rfl ?_
  intro p e s m args below meth c s₁ B hml hv
  obtain ⟨rfl, hsz, hP, hK, hD0⟩ := hv
  have hx := B.exec
  have hb := B.bytes
  have hr := B.returns
  have hts := atoms_spec (ws := wsX7_row) B.pre
  have hown : s.vm.findClass RX7 = some m.cls := findClass_of_methodNamed B.named
  have hlocks := B.notSynchronized
  subst hsz
  have hD := hD0.self (sz := s.heap.size)
  generalize hAe : va_A [(xo_7_rrrrrrrrrii x ro ta no ac im tr pl cs ak xf xg), (xo_5_rrr ro it la le), (xI la cI 8 fl), (xI le cI 8 fe), (xJ it cJ 8 fi), (xI y0 cI 40 f0), (xI y1 cI 40 f1), (xI y2 cI 40 f2), (xI y3 cI 40 f3), (xI y4 cI 40 f4), (xI y5 cI 40 f5), (xI y6 cI 40 f6), (xI y7 cI 40 f7)] s.heap.size = A at hD ⊢
  have hA : ∀ q : Nat, s.heap.size ≤ q → A q := fun q h => by rw [← hAe]; exact Or.inr h
  have hS : va_S A s.heap s.heap [] := va_S.rf
  have hP : va_P (dC, dI) vwCl [(xo_7_rrrrrrrrrii x ro ta no ac im tr pl cs ak xf xg), (xo_5_rrr ro it la le), (xI la cI 8 fl), (xI le cI 8 fe), (xJ it cJ 8 fi), (xI y0 cI 40 f0), (xI y1 cI 40 f1), (xI y2 cI 40 f2), (xI y3 cI 40 f3), (xI y4 cI 40 f4), (xI y5 cI 40 f5), (xI y6 cI 40 f6), (xI y7 cI 40 f7)] s.heap := hP
  have hl := lv_entry ([.ref x, .int k0, .int k1, .int k2]) (n := 4) (Nat.le_of_ble_eq_true rfl)
  rw [lg_entry_eq]
  generalize (lg_sl ([.ref x, .int k0, .int k1, .int k2]) ++ List.replicate (4 - (lg_sl ([.ref x, .int k0, .int k1, .int k2])).length) Slot.unset).toArray = ls at hl ⊢
  have hl : lv_has ls 4 [(0, .ref x), (1, .int k0), (2, .int k1), (3, .int k2)] := hl
  refine lv_iload_n hx hb dX7_row_0 rfl (lv_at hl 1 rfl) ?_
  have hPc_1 := hP.sub (ws' := []) [] rfl
  refine vp_callSi (W.runS (As := [.int k0]) (rest := []) ⟨hx, hb, hml, hown, hts⟩ (r_X5_isRow l dC dI cI cZ cL cJ k0 ) (va_cwS 1 hts gX7_row_X5_isRow rfl rfl rfl (by decide +kernel) ⟨Nat.le_of_ble_eq_true rfl, Nat.le_of_ble_eq_true rfl⟩) (psP hK hPc_1) rfl rfl hl.1 rfl (lv_room (Nat.le_of_ble_eq_true rfl)) dX7_row_1 ⟨Nat.le_of_ble_eq_true rfl, Nat.le_of_ble_eq_true rfl⟩) (fun r_1 h_1 => ?_)
  rcases h_1 with ⟨h_1, f_1_0_0⟩ | ⟨h_1, f_1_1_0⟩
  · subst h_1
    refine lv_if_eq (tgt := 20) hx hb dX7_row_4 (by decide) (fun _ => ?_) (fun c_ => absurd (by decide) c_)
    refine lv_ldc (own := RX7) (v := (-1000001)) hx hb hown (hts _ mx_X7_row_1) dX7_row_20 ?_
    have hX9 := cut2 (wc := [(xo_7_rrrrrrrrrii x ro ta no ac im tr pl cs ak xf xg), (xo_5_rrr ro it la le), (xI la cI 8 fl), (xI le cI 8 fe), (xJ it cJ 8 fi), (xI y0 cI 40 f0), (xI y1 cI 40 f1), (xI y2 cI 40 f2), (xI y3 cI 40 f3), (xI y4 cI 40 f4), (xI y5 cI 40 f5), (xI y6 cI 40 f6), (xI y7 cI 40 f7)]) hP hD [0, 1, 2, 3, 4, 5, 6, 7, 8, 9, 10, 11, 12] (by decide +kernel) rfl
    exact W.iret (v := (-1000001)) hx hb hr (fun t ht hW => ⟨⟨(-1000001), (), rfl, (lf_X7_row_5 hfi hfe f_1_0_0), ⟨fl, fe, f0, f1, f2, f3, f4, f5, f6, f7, xg, va_Ht ht hX9.1, hX9.2, hfe, (lf_X7_row_1 hfi hfe f_1_0_0), (lf_X7_row_2 hfi hfe f_1_0_0), (lf_X7_row_3 hfi hfe f_1_0_0), (lf_X7_row_4 hfi hfe f_1_0_0)⟩⟩, hS.F ht⟩) hS.2.2 dX7_row_22
  · subst h_1
    obtain ⟨j_1, hj_1, rfl⟩ := vp_in_of f_1_1_0 (by omega)
    refine lv_if_eq (tgt := 20) hx hb dX7_row_4 (by decide) (fun c_ => absurd c_ (by decide)) (fun _ => ?_)
    refine lv_iload_n hx hb dX7_row_7 rfl (lv_at hl 2 rfl) ?_
    have hPc_5 := hP.sub (ws' := []) [] rfl
    refine vp_callSi (W.runS (As := [.int k1]) (rest := []) ⟨hx, hb, hml, hown, hts⟩ (r_X5_isLane l dC dI cI cZ cL cJ k1 ) (va_cwS 1 hts gX7_row_X5_isLane rfl rfl rfl (by decide +kernel) ⟨Nat.le_of_ble_eq_true rfl, Nat.le_of_ble_eq_true rfl⟩) (psP hK hPc_5) rfl rfl hl.1 rfl (lv_room (Nat.le_of_ble_eq_true rfl)) dX7_row_8 ⟨Nat.le_of_ble_eq_true rfl, Nat.le_of_ble_eq_true rfl⟩) (fun r_5 h_5 => ?_)
    rcases h_5 with ⟨h_5, f_5_0_0⟩ | ⟨h_5, f_5_1_0⟩
    · subst h_5
      refine lv_if_eq (tgt := 20) hx hb dX7_row_11 (by decide) (fun _ => ?_) (fun c_ => absurd (by decide) c_)
      refine lv_ldc (own := RX7) (v := (-1000001)) hx hb hown (hts _ mx_X7_row_1) dX7_row_20 ?_
      have hX9 := cut2 (wc := [(xo_7_rrrrrrrrrii x ro ta no ac im tr pl cs ak xf xg), (xo_5_rrr ro it la le), (xI la cI 8 fl), (xI le cI 8 fe), (xJ it cJ 8 fi), (xI y0 cI 40 f0), (xI y1 cI 40 f1), (xI y2 cI 40 f2), (xI y3 cI 40 f3), (xI y4 cI 40 f4), (xI y5 cI 40 f5), (xI y6 cI 40 f6), (xI y7 cI 40 f7)]) hP hD [0, 1, 2, 3, 4, 5, 6, 7, 8, 9, 10, 11, 12] (by decide +kernel) rfl
      exact W.iret (v := (-1000001)) hx hb hr (fun t ht hW => ⟨⟨(-1000001), (), rfl, (lf_X7_row_10 hfi hfe hj_1 f_5_0_0), ⟨fl, fe, f0, f1, f2, f3, f4, f5, f6, f7, xg, va_Ht ht hX9.1, hX9.2, hfe, (lf_X7_row_6 hfi hfe hj_1 f_5_0_0), (lf_X7_row_7 hfi hfe hj_1 f_5_0_0), (lf_X7_row_8 hfi hfe hj_1 f_5_0_0), (lf_X7_row_9 hfi hfe hj_1 f_5_0_0)⟩⟩, hS.F ht⟩) hS.2.2 dX7_row_22
    · subst h_5
      refine lv_if_eq (tgt := 20) hx hb dX7_row_11 (by decide) (fun c_ => absurd c_ (by decide)) (fun _ => ?_)
      refine lv_iload_n hx hb dX7_row_14 rfl (lv_at hl 3 rfl) ?_
      refine lv_bipush (v := 40) hx hb dX7_row_15 (by decide) ?_
      refine lv_icmp_le (tgt := 23) hx hb dX7_row_17 (by decide) (fun c_8 => ?_) (fun c_8 => ?_)
      · skip
        refine lv_iload_n hx hb dX7_row_23 rfl (lv_at hl 3 rfl) ?_
        refine lv_if_ge (tgt := 33) hx hb dX7_row_24 (by decide) (fun c_9 => ?_) (fun c_9 => ?_)
        · skip
          obtain ⟨j_10, hj_10, rfl⟩ := nat_le (n := 40) (i_nlt.mpr c_9) rfl c_8 (by decide)
          refine lv_aload_n hx hb dX7_row_33 rfl (lv_at hl 0 rfl) ?_
          refine va_get (D := (dC, dI)) (ci := 7) (v := .ref ro) (C := RX7) (T := TX7) (N := 11) hx hb hts i_X7_row_X7 hown hK hP 0 rfl rfl 0 (by decide) (hts _ mx_X7_row_2) (fun _ h9 => h9) rfl dX7_row_34 ?_
          refine lv_iload_n hx hb dX7_row_37 rfl (lv_at hl 1 rfl) ?_
          refine lv_iload_n hx hb dX7_row_38 rfl (lv_at hl 2 rfl) ?_
          refine lv_iload_n hx hb dX7_row_39 rfl (lv_at hl 3 rfl) ?_
          have hc_11 := cutW (wc := [(xo_5_rrr ro it la le), (xI la cI 8 fl), (xI le cI 8 fe), (xJ it cJ 8 fi), (xI y0 cI 40 f0), (xI y1 cI 40 f1), (xI y2 cI 40 f2), (xI y3 cI 40 f3), (xI y4 cI 40 f4), (xI y5 cI 40 f5), (xI y6 cI 40 f6), (xI y7 cI 40 f7)]) hP hD hS hA [1, 2, 3, 4, 5, 6, 7, 8, 9, 10, 11, 12] (by decide +kernel) rfl
          refine va_callv (va_runV (As := [.int (nI j_1), .int k1, .int (nI j_10)]) (rest := []) ⟨hx, hb, hml, hown, hts⟩ (r_X5_make l dC dI cI cZ cL cJ s.heap.size ro it la le fl fe y0 y1 y2 y3 y4 y5 y6 y7 f0 f1 f2 f3 f4 f5 f6 f7 fi j_1 j_10 k1 (hfi) (by omega) (hfe) (by omega)) (cwV 3 hts gX7_row_X5_make rfl rfl rfl (by decide +kernel) ⟨Nat.le_of_ble_eq_true rfl, Nat.le_of_ble_eq_true rfl⟩) (pvW 5 1 hK hP rfl rfl hc_11) rfl rfl hl.1 rfl (lv_room (Nat.le_of_ble_eq_true rfl)) dX7_row_40 ⟨Nat.le_of_ble_eq_true rfl, Nat.le_of_ble_eq_true rfl⟩) hS (fun q _ h => hc_11.2.2 q h) hc_11.2.2 (fun u_11 t_11 H1 locs ht hvm h_11 hB hz1 hk1 hS => ?_)
          refine xl_10_6 hB (fun fln_11 fen_11 f0n_11 f1n_11 f2n_11 f3n_11 f4n_11 f5n_11 f6n_11 f7n_11 hP1 hD1 hF_11_0 hF_11_1 hF_11_2 hF_11_3 => ?_)
          clear hB
          rw [ht] at hP1
          obtain ⟨hP, hD⟩ := va_join (wr := [(xo_7_rrrrrrrrrii x ro ta no ac im tr pl cs ak xf xg)]) (w1 := [(xo_5_rrr ro it la le), (xI la cI 8 fln_11), (xI le cI 8 fen_11), (xJ it cJ 8 fi), (xI y0 cI 40 f0n_11), (xI y1 cI 40 f1n_11), (xI y2 cI 40 f2n_11), (xI y3 cI 40 f3n_11), (xI y4 cI 40 f4n_11), (xI y5 cI 40 f5n_11), (xI y6 cI 40 f6n_11), (xI y7 cI 40 f7n_11)]) hP hD [1, 2, 3, 4, 5, 6, 7, 8, 9, 10, 11, 12] [0] rfl rfl (by decide +kernel) (by decide +kernel) hk1 hc_11.2.2 hP1 hD1
          generalize H1 = H at hP hS ⊢
          have hP : va_P (dC, dI) vwCl [(xo_7_rrrrrrrrrii x ro ta no ac im tr pl cs ak xf xg), (xo_5_rrr ro it la le), (xI la cI 8 fln_11), (xI le cI 8 fen_11), (xJ it cJ 8 fi), (xI y0 cI 40 f0n_11), (xI y1 cI 40 f1n_11), (xI y2 cI 40 f2n_11), (xI y3 cI 40 f3n_11), (xI y4 cI 40 f4n_11), (xI y5 cI 40 f5n_11), (xI y6 cI 40 f6n_11), (xI y7 cI 40 f7n_11)] H := hP
          have hD := dto hP hD
          refine lv_aload_n hx hb dX7_row_43 rfl (lv_at hl 0 rfl) ?_
          refine lv_iload_n hx hb dX7_row_44 rfl (lv_at hl 3 rfl) ?_
          have hc_12 := cutW (wc := [(xo_7_rrrrrrrrrii x ro ta no ac im tr pl cs ak xf xg)]) hP hD hS hA [0] (by decide +kernel) rfl
          refine va_calli (va_runV (As := [.int (nI j_10)]) (rest := []) ⟨hx, hb, hml, hown, hts⟩ (r_X7_foundNothing l dC dI cI cZ cL cJ H.size x ro ta no ac im tr pl cs ak xf xg (nI j_10) ) (cwV 1 hts gX7_row_X7_foundNothing rfl rfl rfl (by decide +kernel) ⟨Nat.le_of_ble_eq_true rfl, Nat.le_of_ble_eq_true rfl⟩) (pvW 7 0 hK hP rfl rfl hc_12) rfl rfl hl.1 rfl (lv_room (Nat.le_of_ble_eq_true rfl)) dX7_row_45 ⟨Nat.le_of_ble_eq_true rfl, Nat.le_of_ble_eq_true rfl⟩) hS (fun q _ h => hc_12.2.2 q h) hc_12.2.2 (fun r_12 u_12 t_12 H1 locs ht hvm h_12 hB hz1 hk1 hS => ?_)
          refine xl_1_3 hB (fun xgn_12 hP1 hD1 hF_12_0 => ?_)
          clear hB
          rw [ht] at hP1
          obtain ⟨hP, hD⟩ := va_join (wr := [(xo_5_rrr ro it la le), (xI la cI 8 fln_11), (xI le cI 8 fen_11), (xJ it cJ 8 fi), (xI y0 cI 40 f0n_11), (xI y1 cI 40 f1n_11), (xI y2 cI 40 f2n_11), (xI y3 cI 40 f3n_11), (xI y4 cI 40 f4n_11), (xI y5 cI 40 f5n_11), (xI y6 cI 40 f6n_11), (xI y7 cI 40 f7n_11)]) (w1 := [(xo_7_rrrrrrrrrii x ro ta no ac im tr pl cs ak xf xgn_12)]) hP hD [0] [1, 2, 3, 4, 5, 6, 7, 8, 9, 10, 11, 12] rfl rfl (by decide +kernel) (by decide +kernel) hk1 hc_12.2.2 hP1 hD1
          generalize H1 = H at hP hS ⊢
          have hP : va_P (dC, dI) vwCl [(xo_5_rrr ro it la le), (xI la cI 8 fln_11), (xI le cI 8 fen_11), (xJ it cJ 8 fi), (xI y0 cI 40 f0n_11), (xI y1 cI 40 f1n_11), (xI y2 cI 40 f2n_11), (xI y3 cI 40 f3n_11), (xI y4 cI 40 f4n_11), (xI y5 cI 40 f5n_11), (xI y6 cI 40 f6n_11), (xI y7 cI 40 f7n_11), (xo_7_rrrrrrrrrii x ro ta no ac im tr pl cs ak xf xgn_12)] H := hP
          have hD := dto hP hD
          have hX9 := cut2 (wc := [(xo_7_rrrrrrrrrii x ro ta no ac im tr pl cs ak xf xgn_12), (xo_5_rrr ro it la le), (xI la cI 8 fln_11), (xI le cI 8 fen_11), (xJ it cJ 8 fi), (xI y0 cI 40 f0n_11), (xI y1 cI 40 f1n_11), (xI y2 cI 40 f2n_11), (xI y3 cI 40 f3n_11), (xI y4 cI 40 f4n_11), (xI y5 cI 40 f5n_11), (xI y6 cI 40 f6n_11), (xI y7 cI 40 f7n_11)]) hP hD [12, 0, 1, 2, 3, 4, 5, 6, 7, 8, 9, 10, 11] (by decide +kernel) rfl
          exact W.iret (v := r_12) hx hb hr (fun t ht hW => ⟨⟨r_12, (), rfl, (lf_X7_row_15 hfi hfe hj_1 f_5_1_0 c_8 c_9 hj_10 hF_11_0 hF_11_1 hF_11_2 hF_11_3 hF_12_0 h_12), ⟨fln_11, fen_11, f0n_11, f1n_11, f2n_11, f3n_11, f4n_11, f5n_11, f6n_11, f7n_11, xgn_12, va_Ht ht hX9.1, hX9.2, hF_11_0, (lf_X7_row_11 hfi hfe hj_1 f_5_1_0 c_8 c_9 hj_10 hF_11_0 hF_11_1 hF_11_2 hF_11_3 hF_12_0 h_12), (lf_X7_row_12 hfi hfe hj_1 f_5_1_0 c_8 c_9 hj_10 hF_11_0 hF_11_1 hF_11_2 hF_11_3 hF_12_0 h_12), (lf_X7_row_13 hfi hfe hj_1 f_5_1_0 c_8 c_9 hj_10 hF_11_0 hF_11_1 hF_11_2 hF_11_3 hF_12_0 h_12), (lf_X7_row_14 hfi hfe hj_1 f_5_1_0 c_8 c_9 hj_10 hF_11_0 hF_11_1 hF_11_2 hF_11_3 hF_12_0 h_12)⟩⟩, hS.F ht⟩) hS.2.2 dX7_row_48
        · skip
          refine lv_aload_n hx hb dX7_row_27 rfl (lv_at hl 0 rfl) ?_
          refine lv_iconst (v := 4) hx hb dX7_row_28 (by decide) ?_
          have hc_13 := cutW (wc := [(xo_7_rrrrrrrrrii x ro ta no ac im tr pl cs ak xf xg)]) hP hD hS hA [0] (by decide +kernel) rfl
          refine va_calli (va_runV (As := [.int 4]) (rest := []) ⟨hx, hb, hml, hown, hts⟩ (r_X7_found l dC dI cI cZ cL cJ s.heap.size x ro ta no ac im tr pl cs ak xf xg 4 ) (cwV 1 hts gX7_row_X7_found rfl rfl rfl (by decide +kernel) ⟨Nat.le_of_ble_eq_true rfl, Nat.le_of_ble_eq_true rfl⟩) (pvW 7 0 hK hP rfl rfl hc_13) rfl rfl hl.1 rfl (lv_room (Nat.le_of_ble_eq_true rfl)) dX7_row_29 ⟨Nat.le_of_ble_eq_true rfl, Nat.le_of_ble_eq_true rfl⟩) hS (fun q _ h => hc_13.2.2 q h) hc_13.2.2 (fun r_13 u_13 t_13 H1 locs ht hvm h_13 hB hz1 hk1 hS => ?_)
          refine xl_1_3 hB (fun xgn_13 hP1 hD1 hF_13_0 => ?_)
          clear hB
          rw [ht] at hP1
          obtain ⟨hP, hD⟩ := va_join (wr := [(xo_5_rrr ro it la le), (xI la cI 8 fl), (xI le cI 8 fe), (xJ it cJ 8 fi), (xI y0 cI 40 f0), (xI y1 cI 40 f1), (xI y2 cI 40 f2), (xI y3 cI 40 f3), (xI y4 cI 40 f4), (xI y5 cI 40 f5), (xI y6 cI 40 f6), (xI y7 cI 40 f7)]) (w1 := [(xo_7_rrrrrrrrrii x ro ta no ac im tr pl cs ak xf xgn_13)]) hP hD [0] [1, 2, 3, 4, 5, 6, 7, 8, 9, 10, 11, 12] rfl rfl (by decide +kernel) (by decide +kernel) hk1 hc_13.2.2 hP1 hD1
          generalize H1 = H at hP hS ⊢
          have hP : va_P (dC, dI) vwCl [(xo_5_rrr ro it la le), (xI la cI 8 fl), (xI le cI 8 fe), (xJ it cJ 8 fi), (xI y0 cI 40 f0), (xI y1 cI 40 f1), (xI y2 cI 40 f2), (xI y3 cI 40 f3), (xI y4 cI 40 f4), (xI y5 cI 40 f5), (xI y6 cI 40 f6), (xI y7 cI 40 f7), (xo_7_rrrrrrrrrii x ro ta no ac im tr pl cs ak xf xgn_13)] H := hP
          have hD := dto hP hD
          have hX9 := cut2 (wc := [(xo_7_rrrrrrrrrii x ro ta no ac im tr pl cs ak xf xgn_13), (xo_5_rrr ro it la le), (xI la cI 8 fl), (xI le cI 8 fe), (xJ it cJ 8 fi), (xI y0 cI 40 f0), (xI y1 cI 40 f1), (xI y2 cI 40 f2), (xI y3 cI 40 f3), (xI y4 cI 40 f4), (xI y5 cI 40 f5), (xI y6 cI 40 f6), (xI y7 cI 40 f7)]) hP hD [12, 0, 1, 2, 3, 4, 5, 6, 7, 8, 9, 10, 11] (by decide +kernel) rfl
          exact W.iret (v := r_13) hx hb hr (fun t ht hW => ⟨⟨r_13, (), rfl, (lf_X7_row_20 hfi hfe hj_1 f_5_1_0 c_8 c_9 hF_13_0 h_13), ⟨fl, fe, f0, f1, f2, f3, f4, f5, f6, f7, xgn_13, va_Ht ht hX9.1, hX9.2, hfe, (lf_X7_row_16 hfi hfe hj_1 f_5_1_0 c_8 c_9 hF_13_0 h_13), (lf_X7_row_17 hfi hfe hj_1 f_5_1_0 c_8 c_9 hF_13_0 h_13), (lf_X7_row_18 hfi hfe hj_1 f_5_1_0 c_8 c_9 hF_13_0 h_13), (lf_X7_row_19 hfi hfe hj_1 f_5_1_0 c_8 c_9 hF_13_0 h_13)⟩⟩, hS.F ht⟩) hS.2.2 dX7_row_32
      · skip
        refine lv_ldc (own := RX7) (v := (-1000001)) hx hb hown (hts _ mx_X7_row_1) dX7_row_20 ?_
        have hX9 := cut2 (wc := [(xo_7_rrrrrrrrrii x ro ta no ac im tr pl cs ak xf xg), (xo_5_rrr ro it la le), (xI la cI 8 fl), (xI le cI 8 fe), (xJ it cJ 8 fi), (xI y0 cI 40 f0), (xI y1 cI 40 f1), (xI y2 cI 40 f2), (xI y3 cI 40 f3), (xI y4 cI 40 f4), (xI y5 cI 40 f5), (xI y6 cI 40 f6), (xI y7 cI 40 f7)]) hP hD [0, 1, 2, 3, 4, 5, 6, 7, 8, 9, 10, 11, 12] (by decide +kernel) rfl
        exact W.iret (v := (-1000001)) hx hb hr (fun t ht hW => ⟨⟨(-1000001), (), rfl, (lf_X7_row_25 hfi hfe hj_1 f_5_1_0 c_8), ⟨fl, fe, f0, f1, f2, f3, f4, f5, f6, f7, xg, va_Ht ht hX9.1, hX9.2, hfe, (lf_X7_row_21 hfi hfe hj_1 f_5_1_0 c_8), (lf_X7_row_22 hfi hfe hj_1 f_5_1_0 c_8), (lf_X7_row_23 hfi hfe hj_1 f_5_1_0 c_8), (lf_X7_row_24 hfi hfe hj_1 f_5_1_0 c_8)⟩⟩, hS.F ht⟩) hS.2.2 dX7_row_22
theorem lf_X7_set_1 {fl : Nat → Int32} {fe : Nat → Int32} {y0 : Nat} {y1 : Nat} {y2 : Nat} {y3 : Nat} {y4 : Nat} {y5 : Nat} {y6 : Nat} {y7 : Nat} {f0 : Nat → Int32} {f1 : Nat → Int32} {f2 : Nat → Int32} {f3 : Nat → Int32} {f4 : Nat → Int32} {f5 : Nat → Int32} {f6 : Nat → Int32} {f7 : Nat → Int32} {fi : Nat → Option Nat} {k0 : Int32} {k1 : Int32} {k2 : Int32} (hfi : fi 0 = some y0 ∧ fi 1 = some y1 ∧ fi 2 = some y2 ∧ fi 3 = some y3 ∧ fi 4 = some y4 ∧ fi 5 = some y5 ∧ fi 6 = some y6 ∧ fi 7 = some y7) (hfe : ∀ jq : Nat, jq < 8 → ∃ q : Nat, q ≤ 40 ∧ fe jq = nI q) (f_1_0_0 : (k0 < 0 ∨ 8 ≤ k0)) : (itX f0 f1 f2 f3 f4 f5 f6 f7) = n_its (abl fl) (abn fl fe) (itX f0 f1 f2 f3 f4 f5 f6 f7) k0 k1 k2 := by
  first
  | with_reducible exact xs_0 (by assumption)
  | with_reducible exact xi_0 (by assumption)
  | with_reducible exact xs_1 (by assumption) (by assumption) (by assumption)
  | with_reducible exact xi_1 (by assumption) (by assumption)
  | with_reducible exact xs_2 (by assumption) (by assumption) (by assumption) (by assumption)
  | with_reducible exact xi_2 (by assumption) (by assumption) (by assumption)
  | with_reducible exact xs_3 (by assumption) (by assumption) (by assumption) (by assumption)
  | with_reducible exact xi_3 (by assumption) (by assumption) (by assumption) (by omega) (by assumption)
  | with_reducible exact (ar_set_0 (by assumption)).symm
  | (subst_vars; with_reducible exact (ar_set_1 (by assumption) (by assumption)).symm)
  | (subst_vars; with_reducible exact (ar_set_2 (by assumption) (by assumption) (by assumption)).symm)
  | (subst_vars; with_reducible exact (ar_set_3 (by assumption) (by assumption) (by assumption)).symm)
theorem lf_X7_set_2 {xg : Int32} {fl : Nat → Int32} {fe : Nat → Int32} {y0 : Nat} {y1 : Nat} {y2 : Nat} {y3 : Nat} {y4 : Nat} {y5 : Nat} {y6 : Nat} {y7 : Nat} {fi : Nat → Option Nat} {k0 : Int32} {k1 : Int32} (hfi : fi 0 = some y0 ∧ fi 1 = some y1 ∧ fi 2 = some y2 ∧ fi 3 = some y3 ∧ fi 4 = some y4 ∧ fi 5 = some y5 ∧ fi 6 = some y6 ∧ fi 7 = some y7) (hfe : ∀ jq : Nat, jq < 8 → ∃ q : Nat, q ≤ 40 ∧ fe jq = nI q) (f_1_0_0 : (k0 < 0 ∨ 8 ≤ k0)) : xg = f_set (abl fl) (abn fl fe) k0 k1 xg := by
  first
  | with_reducible exact xs_0 (by assumption)
  | with_reducible exact xi_0 (by assumption)
  | with_reducible exact xs_1 (by assumption) (by assumption) (by assumption)
  | with_reducible exact xi_1 (by assumption) (by assumption)
  | with_reducible exact xs_2 (by assumption) (by assumption) (by assumption) (by assumption)
  | with_reducible exact xi_2 (by assumption) (by assumption) (by assumption)
  | with_reducible exact xs_3 (by assumption) (by assumption) (by assumption) (by assumption)
  | with_reducible exact xi_3 (by assumption) (by assumption) (by assumption) (by omega) (by assumption)
  | with_reducible exact (ar_set_0 (by assumption)).symm
  | (subst_vars; with_reducible exact (ar_set_1 (by assumption) (by assumption)).symm)
  | (subst_vars; with_reducible exact (ar_set_2 (by assumption) (by assumption) (by assumption)).symm)
  | (subst_vars; with_reducible exact (ar_set_3 (by assumption) (by assumption) (by assumption)).symm)
theorem lf_X7_set_3 {fl : Nat → Int32} {fe : Nat → Int32} {y0 : Nat} {y1 : Nat} {y2 : Nat} {y3 : Nat} {y4 : Nat} {y5 : Nat} {y6 : Nat} {y7 : Nat} {fi : Nat → Option Nat} {k0 : Int32} {k1 : Int32} {k2 : Int32} (hfi : fi 0 = some y0 ∧ fi 1 = some y1 ∧ fi 2 = some y2 ∧ fi 3 = some y3 ∧ fi 4 = some y4 ∧ fi 5 = some y5 ∧ fi 6 = some y6 ∧ fi 7 = some y7) (hfe : ∀ jq : Nat, jq < 8 → ∃ q : Nat, q ≤ 40 ∧ fe jq = nI q) (f_1_0_0 : (k0 < 0 ∨ 8 ≤ k0)) : (-1000001) = (ar_set (abl fl) (abn fl fe) k0 k1 k2) := by
  first
  | with_reducible exact xs_0 (by assumption)
  | with_reducible exact xi_0 (by assumption)
  | with_reducible exact xs_1 (by assumption) (by assumption) (by assumption)
  | with_reducible exact xi_1 (by assumption) (by assumption)
  | with_reducible exact xs_2 (by assumption) (by assumption) (by assumption) (by assumption)
  | with_reducible exact xi_2 (by assumption) (by assumption) (by assumption)
  | with_reducible exact xs_3 (by assumption) (by assumption) (by assumption) (by assumption)
  | with_reducible exact xi_3 (by assumption) (by assumption) (by assumption) (by omega) (by assumption)
  | with_reducible exact (ar_set_0 (by assumption)).symm
  | (subst_vars; with_reducible exact (ar_set_1 (by assumption) (by assumption)).symm)
  | (subst_vars; with_reducible exact (ar_set_2 (by assumption) (by assumption) (by assumption)).symm)
  | (subst_vars; with_reducible exact (ar_set_3 (by assumption) (by assumption) (by assumption)).symm)
theorem lf_X7_set_4 {fl : Nat → Int32} {fe : Nat → Int32} {y0 : Nat} {y1 : Nat} {y2 : Nat} {y3 : Nat} {y4 : Nat} {y5 : Nat} {y6 : Nat} {y7 : Nat} {f0 : Nat → Int32} {f1 : Nat → Int32} {f2 : Nat → Int32} {f3 : Nat → Int32} {f4 : Nat → Int32} {f5 : Nat → Int32} {f6 : Nat → Int32} {f7 : Nat → Int32} {fi : Nat → Option Nat} {k1 : Int32} {k2 : Int32} {j_1 : Nat} {xgn_7 : Int32} {r_7 : Int32} (hfi : fi 0 = some y0 ∧ fi 1 = some y1 ∧ fi 2 = some y2 ∧ fi 3 = some y3 ∧ fi 4 = some y4 ∧ fi 5 = some y5 ∧ fi 6 = some y6 ∧ fi 7 = some y7) (hfe : ∀ jq : Nat, jq < 8 → ∃ q : Nat, q ≤ 40 ∧ fe jq = nI q) (hj_1 : j_1 < 8) (f_5_0_0 : fl j_1 = -1) (hF_7_0 : (xgn_7 : Int32) = 1) (h_7 : r_7 = (-1000010 - 1)) : (itX f0 f1 f2 f3 f4 f5 f6 f7) = n_its (abl fl) (abn fl fe) (itX f0 f1 f2 f3 f4 f5 f6 f7) (nI j_1) k1 k2 := by
  first
  | with_reducible exact xs_0 (by assumption)
  | with_reducible exact xi_0 (by assumption)
  | with_reducible exact xs_1 (by assumption) (by assumption) (by assumption)
  | with_reducible exact xi_1 (by assumption) (by assumption)
  | with_reducible exact xs_2 (by assumption) (by assumption) (by assumption) (by assumption)
  | with_reducible exact xi_2 (by assumption) (by assumption) (by assumption)
  | with_reducible exact xs_3 (by assumption) (by assumption) (by assumption) (by assumption)
  | with_reducible exact xi_3 (by assumption) (by assumption) (by assumption) (by omega) (by assumption)
  | with_reducible exact (ar_set_0 (by assumption)).symm
  | (subst_vars; with_reducible exact (ar_set_1 (by assumption) (by assumption)).symm)
  | (subst_vars; with_reducible exact (ar_set_2 (by assumption) (by assumption) (by assumption)).symm)
  | (subst_vars; with_reducible exact (ar_set_3 (by assumption) (by assumption) (by assumption)).symm)
theorem lf_X7_set_5 {xg : Int32} {fl : Nat → Int32} {fe : Nat → Int32} {y0 : Nat} {y1 : Nat} {y2 : Nat} {y3 : Nat} {y4 : Nat} {y5 : Nat} {y6 : Nat} {y7 : Nat} {fi : Nat → Option Nat} {k1 : Int32} {j_1 : Nat} {xgn_7 : Int32} {r_7 : Int32} (hfi : fi 0 = some y0 ∧ fi 1 = some y1 ∧ fi 2 = some y2 ∧ fi 3 = some y3 ∧ fi 4 = some y4 ∧ fi 5 = some y5 ∧ fi 6 = some y6 ∧ fi 7 = some y7) (hfe : ∀ jq : Nat, jq < 8 → ∃ q : Nat, q ≤ 40 ∧ fe jq = nI q) (hj_1 : j_1 < 8) (f_5_0_0 : fl j_1 = -1) (hF_7_0 : (xgn_7 : Int32) = 1) (h_7 : r_7 = (-1000010 - 1)) : xgn_7 = f_set (abl fl) (abn fl fe) (nI j_1) k1 xg := by
  first
  | with_reducible exact xs_0 (by assumption)
  | with_reducible exact xi_0 (by assumption)
  | with_reducible exact xs_1 (by assumption) (by assumption) (by assumption)
  | with_reducible exact xi_1 (by assumption) (by assumption)
  | with_reducible exact xs_2 (by assumption) (by assumption) (by assumption) (by assumption)
  | with_reducible exact xi_2 (by assumption) (by assumption) (by assumption)
  | with_reducible exact xs_3 (by assumption) (by assumption) (by assumption) (by assumption)
  | with_reducible exact xi_3 (by assumption) (by assumption) (by assumption) (by omega) (by assumption)
  | with_reducible exact (ar_set_0 (by assumption)).symm
  | (subst_vars; with_reducible exact (ar_set_1 (by assumption) (by assumption)).symm)
  | (subst_vars; with_reducible exact (ar_set_2 (by assumption) (by assumption) (by assumption)).symm)
  | (subst_vars; with_reducible exact (ar_set_3 (by assumption) (by assumption) (by assumption)).symm)
theorem lf_X7_set_6 {fl : Nat → Int32} {fe : Nat → Int32} {y0 : Nat} {y1 : Nat} {y2 : Nat} {y3 : Nat} {y4 : Nat} {y5 : Nat} {y6 : Nat} {y7 : Nat} {fi : Nat → Option Nat} {k1 : Int32} {k2 : Int32} {j_1 : Nat} {xgn_7 : Int32} {r_7 : Int32} (hfi : fi 0 = some y0 ∧ fi 1 = some y1 ∧ fi 2 = some y2 ∧ fi 3 = some y3 ∧ fi 4 = some y4 ∧ fi 5 = some y5 ∧ fi 6 = some y6 ∧ fi 7 = some y7) (hfe : ∀ jq : Nat, jq < 8 → ∃ q : Nat, q ≤ 40 ∧ fe jq = nI q) (hj_1 : j_1 < 8) (f_5_0_0 : fl j_1 = -1) (hF_7_0 : (xgn_7 : Int32) = 1) (h_7 : r_7 = (-1000010 - 1)) : r_7 = (ar_set (abl fl) (abn fl fe) (nI j_1) k1 k2) := by
  first
  | with_reducible exact xs_0 (by assumption)
  | with_reducible exact xi_0 (by assumption)
  | with_reducible exact xs_1 (by assumption) (by assumption) (by assumption)
  | with_reducible exact xi_1 (by assumption) (by assumption)
  | with_reducible exact xs_2 (by assumption) (by assumption) (by assumption) (by assumption)
  | with_reducible exact xi_2 (by assumption) (by assumption) (by assumption)
  | with_reducible exact xs_3 (by assumption) (by assumption) (by assumption) (by assumption)
  | with_reducible exact xi_3 (by assumption) (by assumption) (by assumption) (by omega) (by assumption)
  | with_reducible exact (ar_set_0 (by assumption)).symm
  | (subst_vars; with_reducible exact (ar_set_1 (by assumption) (by assumption)).symm)
  | (subst_vars; with_reducible exact (ar_set_2 (by assumption) (by assumption) (by assumption)).symm)
  | (subst_vars; with_reducible exact (ar_set_3 (by assumption) (by assumption) (by assumption)).symm)
theorem lf_X7_set_7 {fl : Nat → Int32} {fe : Nat → Int32} {y0 : Nat} {y1 : Nat} {y2 : Nat} {y3 : Nat} {y4 : Nat} {y5 : Nat} {y6 : Nat} {y7 : Nat} {f0 : Nat → Int32} {f1 : Nat → Int32} {f2 : Nat → Int32} {f3 : Nat → Int32} {f4 : Nat → Int32} {f5 : Nat → Int32} {f6 : Nat → Int32} {f7 : Nat → Int32} {fi : Nat → Option Nat} {k2 : Int32} {j_1 : Nat} {pa_8 : Nat} {pb_8 : Nat} {f0n_10 : Nat → Int32} {f1n_10 : Nat → Int32} {f2n_10 : Nat → Int32} {f3n_10 : Nat → Int32} {f4n_10 : Nat → Int32} {f5n_10 : Nat → Int32} {f6n_10 : Nat → Int32} {f7n_10 : Nat → Int32} {r_10 : Int32} {xgn_11 : Int32} {r_11 : Int32} (hfi : fi 0 = some y0 ∧ fi 1 = some y1 ∧ fi 2 = some y2 ∧ fi 3 = some y3 ∧ fi 4 = some y4 ∧ fi 5 = some y5 ∧ fi 6 = some y6 ∧ fi 7 = some y7) (hfe : ∀ jq : Nat, jq < 8 → ∃ q : Nat, q ≤ 40 ∧ fe jq = nI q) (hj_1 : j_1 < 8) (f_5_1_0 : ¬ fl j_1 = -1) (f_5_1_1 : plc (fe j_1) (nI pa_8) 1) (hab_8 : pa_8 + pb_8 ≤ 40) (eb_8 : 1 = pb_8) (hF_10_0 : (itX f0n_10 f1n_10 f2n_10 f3n_10 f4n_10 f5n_10 f6n_10 f7n_10) = upI (itX f0 f1 f2 f3 f4 f5 f6 f7) j_1 (upd ((itX f0 f1 f2 f3 f4 f5 f6 f7) j_1) pa_8 (laneX (fl j_1) k2))) (h_10 : r_10 = (laneX (fl j_1) k2)) (hF_11_0 : (xgn_11 : Int32) = 0) (h_11 : r_11 = r_10) : (itX f0n_10 f1n_10 f2n_10 f3n_10 f4n_10 f5n_10 f6n_10 f7n_10) = n_its (abl fl) (abn fl fe) (itX f0 f1 f2 f3 f4 f5 f6 f7) (nI j_1) (nI pa_8) k2 := by
  first
  | with_reducible exact xs_0 (by assumption)
  | with_reducible exact xi_0 (by assumption)
  | with_reducible exact xs_1 (by assumption) (by assumption) (by assumption)
  | with_reducible exact xi_1 (by assumption) (by assumption)
  | with_reducible exact xs_2 (by assumption) (by assumption) (by assumption) (by assumption)
  | with_reducible exact xi_2 (by assumption) (by assumption) (by assumption)
  | with_reducible exact xs_3 (by assumption) (by assumption) (by assumption) (by assumption)
  | with_reducible exact xi_3 (by assumption) (by assumption) (by assumption) (by omega) (by assumption)
  | with_reducible exact (ar_set_0 (by assumption)).symm
  | (subst_vars; with_reducible exact (ar_set_1 (by assumption) (by assumption)).symm)
  | (subst_vars; with_reducible exact (ar_set_2 (by assumption) (by assumption) (by assumption)).symm)
  | (subst_vars; with_reducible exact (ar_set_3 (by assumption) (by assumption) (by assumption)).symm)
theorem lf_X7_set_8 {xg : Int32} {fl : Nat → Int32} {fe : Nat → Int32} {y0 : Nat} {y1 : Nat} {y2 : Nat} {y3 : Nat} {y4 : Nat} {y5 : Nat} {y6 : Nat} {y7 : Nat} {f0 : Nat → Int32} {f1 : Nat → Int32} {f2 : Nat → Int32} {f3 : Nat → Int32} {f4 : Nat → Int32} {f5 : Nat → Int32} {f6 : Nat → Int32} {f7 : Nat → Int32} {fi : Nat → Option Nat} {k2 : Int32} {j_1 : Nat} {pa_8 : Nat} {pb_8 : Nat} {f0n_10 : Nat → Int32} {f1n_10 : Nat → Int32} {f2n_10 : Nat → Int32} {f3n_10 : Nat → Int32} {f4n_10 : Nat → Int32} {f5n_10 : Nat → Int32} {f6n_10 : Nat → Int32} {f7n_10 : Nat → Int32} {r_10 : Int32} {xgn_11 : Int32} {r_11 : Int32} (hfi : fi 0 = some y0 ∧ fi 1 = some y1 ∧ fi 2 = some y2 ∧ fi 3 = some y3 ∧ fi 4 = some y4 ∧ fi 5 = some y5 ∧ fi 6 = some y6 ∧ fi 7 = some y7) (hfe : ∀ jq : Nat, jq < 8 → ∃ q : Nat, q ≤ 40 ∧ fe jq = nI q) (hj_1 : j_1 < 8) (f_5_1_0 : ¬ fl j_1 = -1) (f_5_1_1 : plc (fe j_1) (nI pa_8) 1) (hab_8 : pa_8 + pb_8 ≤ 40) (eb_8 : 1 = pb_8) (hF_10_0 : (itX f0n_10 f1n_10 f2n_10 f3n_10 f4n_10 f5n_10 f6n_10 f7n_10) = upI (itX f0 f1 f2 f3 f4 f5 f6 f7) j_1 (upd ((itX f0 f1 f2 f3 f4 f5 f6 f7) j_1) pa_8 (laneX (fl j_1) k2))) (h_10 : r_10 = (laneX (fl j_1) k2)) (hF_11_0 : (xgn_11 : Int32) = 0) (h_11 : r_11 = r_10) : xgn_11 = f_set (abl fl) (abn fl fe) (nI j_1) (nI pa_8) xg := by
  first
  | with_reducible exact xs_0 (by assumption)
  | with_reducible exact xi_0 (by assumption)
  | with_reducible exact xs_1 (by assumption) (by assumption) (by assumption)
  | with_reducible exact xi_1 (by assumption) (by assumption)
  | with_reducible exact xs_2 (by assumption) (by assumption) (by assumption) (by assumption)
  | with_reducible exact xi_2 (by assumption) (by assumption) (by assumption)
  | with_reducible exact xs_3 (by assumption) (by assumption) (by assumption) (by assumption)
  | with_reducible exact xi_3 (by assumption) (by assumption) (by assumption) (by omega) (by assumption)
  | with_reducible exact (ar_set_0 (by assumption)).symm
  | (subst_vars; with_reducible exact (ar_set_1 (by assumption) (by assumption)).symm)
  | (subst_vars; with_reducible exact (ar_set_2 (by assumption) (by assumption) (by assumption)).symm)
  | (subst_vars; with_reducible exact (ar_set_3 (by assumption) (by assumption) (by assumption)).symm)
theorem lf_X7_set_9 {fl : Nat → Int32} {fe : Nat → Int32} {y0 : Nat} {y1 : Nat} {y2 : Nat} {y3 : Nat} {y4 : Nat} {y5 : Nat} {y6 : Nat} {y7 : Nat} {f0 : Nat → Int32} {f1 : Nat → Int32} {f2 : Nat → Int32} {f3 : Nat → Int32} {f4 : Nat → Int32} {f5 : Nat → Int32} {f6 : Nat → Int32} {f7 : Nat → Int32} {fi : Nat → Option Nat} {k2 : Int32} {j_1 : Nat} {pa_8 : Nat} {pb_8 : Nat} {f0n_10 : Nat → Int32} {f1n_10 : Nat → Int32} {f2n_10 : Nat → Int32} {f3n_10 : Nat → Int32} {f4n_10 : Nat → Int32} {f5n_10 : Nat → Int32} {f6n_10 : Nat → Int32} {f7n_10 : Nat → Int32} {r_10 : Int32} {xgn_11 : Int32} {r_11 : Int32} (hfi : fi 0 = some y0 ∧ fi 1 = some y1 ∧ fi 2 = some y2 ∧ fi 3 = some y3 ∧ fi 4 = some y4 ∧ fi 5 = some y5 ∧ fi 6 = some y6 ∧ fi 7 = some y7) (hfe : ∀ jq : Nat, jq < 8 → ∃ q : Nat, q ≤ 40 ∧ fe jq = nI q) (hj_1 : j_1 < 8) (f_5_1_0 : ¬ fl j_1 = -1) (f_5_1_1 : plc (fe j_1) (nI pa_8) 1) (hab_8 : pa_8 + pb_8 ≤ 40) (eb_8 : 1 = pb_8) (hF_10_0 : (itX f0n_10 f1n_10 f2n_10 f3n_10 f4n_10 f5n_10 f6n_10 f7n_10) = upI (itX f0 f1 f2 f3 f4 f5 f6 f7) j_1 (upd ((itX f0 f1 f2 f3 f4 f5 f6 f7) j_1) pa_8 (laneX (fl j_1) k2))) (h_10 : r_10 = (laneX (fl j_1) k2)) (hF_11_0 : (xgn_11 : Int32) = 0) (h_11 : r_11 = r_10) : r_11 = (ar_set (abl fl) (abn fl fe) (nI j_1) (nI pa_8) k2) := by
  first
  | with_reducible exact xs_0 (by assumption)
  | with_reducible exact xi_0 (by assumption)
  | with_reducible exact xs_1 (by assumption) (by assumption) (by assumption)
  | with_reducible exact xi_1 (by assumption) (by assumption)
  | with_reducible exact xs_2 (by assumption) (by assumption) (by assumption) (by assumption)
  | with_reducible exact xi_2 (by assumption) (by assumption) (by assumption)
  | with_reducible exact xs_3 (by assumption) (by assumption) (by assumption) (by assumption)
  | with_reducible exact xi_3 (by assumption) (by assumption) (by assumption) (by omega) (by assumption)
  | with_reducible exact (ar_set_0 (by assumption)).symm
  | (subst_vars; with_reducible exact (ar_set_1 (by assumption) (by assumption)).symm)
  | (subst_vars; with_reducible exact (ar_set_2 (by assumption) (by assumption) (by assumption)).symm)
  | (subst_vars; with_reducible exact (ar_set_3 (by assumption) (by assumption) (by assumption)).symm)
theorem lf_X7_set_10 {fl : Nat → Int32} {fe : Nat → Int32} {y0 : Nat} {y1 : Nat} {y2 : Nat} {y3 : Nat} {y4 : Nat} {y5 : Nat} {y6 : Nat} {y7 : Nat} {f0 : Nat → Int32} {f1 : Nat → Int32} {f2 : Nat → Int32} {f3 : Nat → Int32} {f4 : Nat → Int32} {f5 : Nat → Int32} {f6 : Nat → Int32} {f7 : Nat → Int32} {fi : Nat → Option Nat} {k1 : Int32} {k2 : Int32} {j_1 : Nat} {xgn_13 : Int32} {r_13 : Int32} (hfi : fi 0 = some y0 ∧ fi 1 = some y1 ∧ fi 2 = some y2 ∧ fi 3 = some y3 ∧ fi 4 = some y4 ∧ fi 5 = some y5 ∧ fi 6 = some y6 ∧ fi 7 = some y7) (hfe : ∀ jq : Nat, jq < 8 → ∃ q : Nat, q ≤ 40 ∧ fe jq = nI q) (hj_1 : j_1 < 8) (f_5_2_0 : ¬ fl j_1 = -1) (f_5_2_1 : ¬ plc (fe j_1) k1 1) (hF_13_0 : (xgn_13 : Int32) = 2) (h_13 : r_13 = (-1000010 - 2)) : (itX f0 f1 f2 f3 f4 f5 f6 f7) = n_its (abl fl) (abn fl fe) (itX f0 f1 f2 f3 f4 f5 f6 f7) (nI j_1) k1 k2 := by
  first
  | with_reducible exact xs_0 (by assumption)
  | with_reducible exact xi_0 (by assumption)
  | with_reducible exact xs_1 (by assumption) (by assumption) (by assumption)
  | with_reducible exact xi_1 (by assumption) (by assumption)
  | with_reducible exact xs_2 (by assumption) (by assumption) (by assumption) (by assumption)
  | with_reducible exact xi_2 (by assumption) (by assumption) (by assumption)
  | with_reducible exact xs_3 (by assumption) (by assumption) (by assumption) (by assumption)
  | with_reducible exact xi_3 (by assumption) (by assumption) (by assumption) (by omega) (by assumption)
  | with_reducible exact (ar_set_0 (by assumption)).symm
  | (subst_vars; with_reducible exact (ar_set_1 (by assumption) (by assumption)).symm)
  | (subst_vars; with_reducible exact (ar_set_2 (by assumption) (by assumption) (by assumption)).symm)
  | (subst_vars; with_reducible exact (ar_set_3 (by assumption) (by assumption) (by assumption)).symm)
theorem lf_X7_set_11 {xg : Int32} {fl : Nat → Int32} {fe : Nat → Int32} {y0 : Nat} {y1 : Nat} {y2 : Nat} {y3 : Nat} {y4 : Nat} {y5 : Nat} {y6 : Nat} {y7 : Nat} {fi : Nat → Option Nat} {k1 : Int32} {j_1 : Nat} {xgn_13 : Int32} {r_13 : Int32} (hfi : fi 0 = some y0 ∧ fi 1 = some y1 ∧ fi 2 = some y2 ∧ fi 3 = some y3 ∧ fi 4 = some y4 ∧ fi 5 = some y5 ∧ fi 6 = some y6 ∧ fi 7 = some y7) (hfe : ∀ jq : Nat, jq < 8 → ∃ q : Nat, q ≤ 40 ∧ fe jq = nI q) (hj_1 : j_1 < 8) (f_5_2_0 : ¬ fl j_1 = -1) (f_5_2_1 : ¬ plc (fe j_1) k1 1) (hF_13_0 : (xgn_13 : Int32) = 2) (h_13 : r_13 = (-1000010 - 2)) : xgn_13 = f_set (abl fl) (abn fl fe) (nI j_1) k1 xg := by
  first
  | with_reducible exact xs_0 (by assumption)
  | with_reducible exact xi_0 (by assumption)
  | with_reducible exact xs_1 (by assumption) (by assumption) (by assumption)
  | with_reducible exact xi_1 (by assumption) (by assumption)
  | with_reducible exact xs_2 (by assumption) (by assumption) (by assumption) (by assumption)
  | with_reducible exact xi_2 (by assumption) (by assumption) (by assumption)
  | with_reducible exact xs_3 (by assumption) (by assumption) (by assumption) (by assumption)
  | with_reducible exact xi_3 (by assumption) (by assumption) (by assumption) (by omega) (by assumption)
  | with_reducible exact (ar_set_0 (by assumption)).symm
  | (subst_vars; with_reducible exact (ar_set_1 (by assumption) (by assumption)).symm)
  | (subst_vars; with_reducible exact (ar_set_2 (by assumption) (by assumption) (by assumption)).symm)
  | (subst_vars; with_reducible exact (ar_set_3 (by assumption) (by assumption) (by assumption)).symm)
theorem lf_X7_set_12 {fl : Nat → Int32} {fe : Nat → Int32} {y0 : Nat} {y1 : Nat} {y2 : Nat} {y3 : Nat} {y4 : Nat} {y5 : Nat} {y6 : Nat} {y7 : Nat} {fi : Nat → Option Nat} {k1 : Int32} {k2 : Int32} {j_1 : Nat} {xgn_13 : Int32} {r_13 : Int32} (hfi : fi 0 = some y0 ∧ fi 1 = some y1 ∧ fi 2 = some y2 ∧ fi 3 = some y3 ∧ fi 4 = some y4 ∧ fi 5 = some y5 ∧ fi 6 = some y6 ∧ fi 7 = some y7) (hfe : ∀ jq : Nat, jq < 8 → ∃ q : Nat, q ≤ 40 ∧ fe jq = nI q) (hj_1 : j_1 < 8) (f_5_2_0 : ¬ fl j_1 = -1) (f_5_2_1 : ¬ plc (fe j_1) k1 1) (hF_13_0 : (xgn_13 : Int32) = 2) (h_13 : r_13 = (-1000010 - 2)) : r_13 = (ar_set (abl fl) (abn fl fe) (nI j_1) k1 k2) := by
  first
  | with_reducible exact xs_0 (by assumption)
  | with_reducible exact xi_0 (by assumption)
  | with_reducible exact xs_1 (by assumption) (by assumption) (by assumption)
  | with_reducible exact xi_1 (by assumption) (by assumption)
  | with_reducible exact xs_2 (by assumption) (by assumption) (by assumption) (by assumption)
  | with_reducible exact xi_2 (by assumption) (by assumption) (by assumption)
  | with_reducible exact xs_3 (by assumption) (by assumption) (by assumption) (by assumption)
  | with_reducible exact xi_3 (by assumption) (by assumption) (by assumption) (by omega) (by assumption)
  | with_reducible exact (ar_set_0 (by assumption)).symm
  | (subst_vars; with_reducible exact (ar_set_1 (by assumption) (by assumption)).symm)
  | (subst_vars; with_reducible exact (ar_set_2 (by assumption) (by assumption) (by assumption)).symm)
  | (subst_vars; with_reducible exact (ar_set_3 (by assumption) (by assumption) (by assumption)).symm)
set_option maxHeartbeats 4000000 in
set_option maxRecDepth 100000 in
theorem r_X7_set (l : Launch) (dC : Nat → ClassId) (dI : Nat → Nat → Nat) (cI cZ cL cJ : ClassId) (sz : Nat) (x : Nat) (ro : Nat) (ta : Nat) (no : Nat) (ac : Nat) (im : Nat) (tr : Nat) (pl : Nat) (cs : Nat) (ak : Nat) (xf : Int32) (xg : Int32) (it : Nat) (la : Nat) (le : Nat) (fl : Nat → Int32) (fe : Nat → Int32) (y0 : Nat) (y1 : Nat) (y2 : Nat) (y3 : Nat) (y4 : Nat) (y5 : Nat) (y6 : Nat) (y7 : Nat) (f0 : Nat → Int32) (f1 : Nat → Int32) (f2 : Nat → Int32) (f3 : Nat → Int32) (f4 : Nat → Int32) (f5 : Nat → Int32) (f6 : Nat → Int32) (f7 : Nat → Int32) (fi : Nat → Option Nat) (k0 : Int32) (k1 : Int32) (k2 : Int32) (hfi : fi 0 = some y0 ∧ fi 1 = some y1 ∧ fi 2 = some y2 ∧ fi 3 = some y3 ∧ fi 4 = some y4 ∧ fi 5 = some y5 ∧ fi 6 = some y6 ∧ fi 7 = some y7) (hfe : ∀ jq : Nat, jq < 8 → ∃ q : Nat, q ≤ 40 ∧ fe jq = nI q) : Met l yX7_set wsX7_set ({ frames := 2, cells := 0, slots := 0, locals := 46 }) (va_Pc [.ref x, .int k0, .int k1, .int k2] (fun U => U.heap.size = sz ∧ va_P (dC, dI) vwCl [(xo_7_rrrrrrrrrii x ro ta no ac im tr pl cs ak xf xg), (xo_5_rrr ro it la le), (xI la cI 8 fl), (xI le cI 8 fe), (xJ it cJ 8 fi), (xI y0 cI 40 f0), (xI y1 cI 40 f1), (xI y2 cI 40 f2), (xI y3 cI 40 f3), (xI y4 cI 40 f4), (xI y5 cI 40 f5), (xI y6 cI 40 f6), (xI y7 cI 40 f7)] U.heap ∧ va_K (dC, dI) vwCl [(cI, .int), (cZ, .boolean), (cL, .object RX3), (cJ, .array .int)] U ∧ va_D (fun _ => True) [(xo_7_rrrrrrrrrii x ro ta no ac im tr pl cs ak xf xg), (xo_5_rrr ro it la le), (xI la cI 8 fl), (xI le cI 8 fe), (xJ it cJ 8 fi), (xI y0 cI 40 f0), (xI y1 cI 40 f1), (xI y2 cI 40 f2), (xI y3 cI 40 f3), (xI y4 cI 40 f4), (xI y5 cI 40 f5), (xI y6 cI 40 f6), (xI y7 cI 40 f7)])) (va_Qi (fun r (_ : Unit) => r = (ar_set (abl fl) (abn fl fe) k0 k1 k2)) (fun (_ : Unit) t => ∃ (f0n : Nat → Int32) (f1n : Nat → Int32) (f2n : Nat → Int32) (f3n : Nat → Int32) (f4n : Nat → Int32) (f5n : Nat → Int32) (f6n : Nat → Int32) (f7n : Nat → Int32) (xgn : Int32), va_P (dC, dI) vwCl [(xo_7_rrrrrrrrrii x ro ta no ac im tr pl cs ak xf xgn), (xo_5_rrr ro it la le), (xI la cI 8 fl), (xI le cI 8 fe), (xJ it cJ 8 fi), (xI y0 cI 40 f0n), (xI y1 cI 40 f1n), (xI y2 cI 40 f2n), (xI y3 cI 40 f3n), (xI y4 cI 40 f4n), (xI y5 cI 40 f5n), (xI y6 cI 40 f6n), (xI y7 cI 40 f7n)] t.heap ∧ va_D (va_A [(xo_7_rrrrrrrrrii x ro ta no ac im tr pl cs ak xf xg), (xo_5_rrr ro it la le), (xI la cI 8 fl), (xI le cI 8 fe), (xJ it cJ 8 fi), (xI y0 cI 40 f0), (xI y1 cI 40 f1), (xI y2 cI 40 f2), (xI y3 cI 40 f3), (xI y4 cI 40 f4), (xI y5 cI 40 f5), (xI y6 cI 40 f6), (xI y7 cI 40 f7)] sz) [(xo_7_rrrrrrrrrii x ro ta no ac im tr pl cs ak xf xgn), (xo_5_rrr ro it la le), (xI la cI 8 fl), (xI le cI 8 fe), (xJ it cJ 8 fi), (xI y0 cI 40 f0n), (xI y1 cI 40 f1n), (xI y2 cI 40 f2n), (xI y3 cI 40 f3n), (xI y4 cI 40 f4n), (xI y5 cI 40 f5n), (xI y6 cI 40 f6n), (xI y7 cI 40 f7n)] ∧ (itX f0n f1n f2n f3n f4n f5n f6n f7n) = n_its (abl fl) (abn fl fe) (itX f0 f1 f2 f3 f4 f5 f6 f7) k0 k1 k2 ∧ xgn = f_set (abl fl) (abn fl fe) k0 k1 xg) (va_A [(xo_7_rrrrrrrrrii x ro ta no ac im tr pl cs ak xf xg), (xo_5_rrr ro it la le), (xI la cI 8 fl), (xI le cI 8 fe), (xJ it cJ 8 fi), (xI y0 cI 40 f0), (xI y1 cI 40 f1), (xI y2 cI 40 f2), (xI y3 cI 40 f3), (xI y4 cI 40 f4), (xI y5 cI 40 f5), (xI y6 cI 40 f6), (xI y7 cI 40 f7)] sz)) 0 0 (va_A [(xo_7_rrrrrrrrrii x ro ta no ac im tr pl cs ak xf xg), (xo_5_rrr ro it la le), (xI la cI 8 fl), (xI le cI 8 fe), (xJ it cJ 8 fi), (xI y0 cI 40 f0), (xI y1 cI 40 f1), (xI y2 cI 40 f2), (xI y3 cI 40 f3), (xI y4 cI 40 f4), (xI y5 cI 40 f5), (xI y6 cI 40 f6), (xI y7 cI 40 f7)] sz) := by
  refine Met.ofW (cc := cX7_set) (maxL := 5) (ret := (some .int)) (by decide) rfl ?_
  intro p e s m args below meth c s₁ B hml hv
  obtain ⟨rfl, hsz, hP, hK, hD0⟩ := hv
  have hx := B.exec
  have hb := B.bytes
  have hr := B.returns
  have hts := atoms_spec (ws := wsX7_set) B.pre
  have hown : s.vm.findClass RX7 = some m.cls := findClass_of_methodNamed B.named
  have hlocks := B.notSynchronized
  subst hsz
  have hD := hD0.self (sz := s.heap.size)
  generalize hAe : va_A [(xo_7_rrrrrrrrrii x ro ta no ac im tr pl cs ak xf xg), (xo_5_rrr ro it la le), (xI la cI 8 fl), (xI le cI 8 fe), (xJ it cJ 8 fi), (xI y0 cI 40 f0), (xI y1 cI 40 f1), (xI y2 cI 40 f2), (xI y3 cI 40 f3), (xI y4 cI 40 f4), (xI y5 cI 40 f5), (xI y6 cI 40 f6), (xI y7 cI 40 f7)] s.heap.size = A at hD ⊢
  have hA : ∀ q : Nat, s.heap.size ≤ q → A q := fun q h => by rw [← hAe]; exact Or.inr h
  have hS : va_S A s.heap s.heap [] := va_S.rf
  have hP : va_P (dC, dI) vwCl [(xo_7_rrrrrrrrrii x ro ta no ac im tr pl cs ak xf xg), (xo_5_rrr ro it la le), (xI la cI 8 fl), (xI le cI 8 fe), (xJ it cJ 8 fi), (xI y0 cI 40 f0), (xI y1 cI 40 f1), (xI y2 cI 40 f2), (xI y3 cI 40 f3), (xI y4 cI 40 f4), (xI y5 cI 40 f5), (xI y6 cI 40 f6), (xI y7 cI 40 f7)] s.heap := hP
  have hl := lv_entry ([.ref x, .int k0, .int k1, .int k2]) (n := 5) (Nat.le_of_ble_eq_true rfl)
  rw [lg_entry_eq]
  generalize (lg_sl ([.ref x, .int k0, .int k1, .int k2]) ++ List.replicate (5 - (lg_sl ([.ref x, .int k0, .int k1, .int k2])).length) Slot.unset).toArray = ls at hl ⊢
  have hl : lv_has ls 5 [(0, .ref x), (1, .int k0), (2, .int k1), (3, .int k2)] := hl
  refine lv_iload_n hx hb dX7_set_0 rfl (lv_at hl 1 rfl) ?_
  have hPc_1 := hP.sub (ws' := []) [] rfl
  refine vp_callSi (W.runS (As := [.int k0]) (rest := []) ⟨hx, hb, hml, hown, hts⟩ (r_X5_isRow l dC dI cI cZ cL cJ k0 ) (va_cwS 1 hts gX7_set_X5_isRow rfl rfl rfl (by decide +kernel) ⟨Nat.le_of_ble_eq_true rfl, Nat.le_of_ble_eq_true rfl⟩) (psP hK hPc_1) rfl rfl hl.1 rfl (lv_room (Nat.le_of_ble_eq_true rfl)) dX7_set_1 ⟨Nat.le_of_ble_eq_true rfl, Nat.le_of_ble_eq_true rfl⟩) (fun r_1 h_1 => ?_)
  rcases h_1 with ⟨h_1, f_1_0_0⟩ | ⟨h_1, f_1_1_0⟩
  · subst h_1
    refine lv_if_ne (tgt := 10) hx hb dX7_set_4 (by decide) (fun c_ => absurd (by decide) c_) (fun _ => ?_)
    refine lv_ldc (own := RX7) (v := (-1000001)) hx hb hown (hts _ mx_X7_set_1) dX7_set_7 ?_
    have hX9 := cut2 (wc := [(xo_7_rrrrrrrrrii x ro ta no ac im tr pl cs ak xf xg), (xo_5_rrr ro it la le), (xI la cI 8 fl), (xI le cI 8 fe), (xJ it cJ 8 fi), (xI y0 cI 40 f0), (xI y1 cI 40 f1), (xI y2 cI 40 f2), (xI y3 cI 40 f3), (xI y4 cI 40 f4), (xI y5 cI 40 f5), (xI y6 cI 40 f6), (xI y7 cI 40 f7)]) hP hD [0, 1, 2, 3, 4, 5, 6, 7, 8, 9, 10, 11, 12] (by decide +kernel) rfl
    exact W.iret (v := (-1000001)) hx hb hr (fun t ht hW => ⟨⟨(-1000001), (), rfl, (lf_X7_set_3 hfi hfe f_1_0_0), ⟨f0, f1, f2, f3, f4, f5, f6, f7, xg, va_Ht ht hX9.1, hX9.2, (lf_X7_set_1 hfi hfe f_1_0_0), (lf_X7_set_2 hfi hfe f_1_0_0)⟩⟩, hS.F ht⟩) hS.2.2 dX7_set_9
  · subst h_1
    obtain ⟨j_1, hj_1, rfl⟩ := vp_in_of f_1_1_0 (by omega)
    refine lv_if_ne (tgt := 10) hx hb dX7_set_4 (by decide) (fun _ => ?_) (fun c_ => absurd c_ (by decide))
    refine lv_aload_n hx hb dX7_set_10 rfl (lv_at hl 0 rfl) ?_
    refine va_get (D := (dC, dI)) (ci := 7) (v := .ref ro) (C := RX7) (T := TX7) (N := 11) hx hb hts i_X7_set_X7 hown hK hP 0 rfl rfl 0 (by decide) (hts _ mx_X7_set_2) (fun _ h9 => h9) rfl dX7_set_11 ?_
    refine lv_iload_n hx hb dX7_set_14 rfl (lv_at hl 1 rfl) ?_
    refine lv_iload_n hx hb dX7_set_15 rfl (lv_at hl 2 rfl) ?_
    refine lv_iconst (v := 1) hx hb dX7_set_16 (by decide) ?_
    have hPc_5 := hP.sub (ws' := [(xo_5_rrr ro it la le), (xI la cI 8 fl), (xI le cI 8 fe)]) [1, 2, 3] rfl
    refine vp_callSi (W.runV (As := [.int (nI j_1), .int k1, .int 1]) (rest := []) ⟨hx, hb, hml, hown, hts⟩ (r_X5_findingOf l dC dI cI cZ cL cJ ro it la le fl fe j_1 k1 1 (hfe) (by omega)) (cwV 3 hts gX7_set_X5_findingOf rfl rfl rfl (by decide +kernel) ⟨Nat.le_of_ble_eq_true rfl, Nat.le_of_ble_eq_true rfl⟩) (pvP 5 1 hK hP rfl rfl hPc_5) rfl rfl hl.1 rfl (lv_room (Nat.le_of_ble_eq_true rfl)) dX7_set_17 ⟨Nat.le_of_ble_eq_true rfl, Nat.le_of_ble_eq_true rfl⟩) (fun r_5 h_5 => ?_)
    rcases h_5 with ⟨h_5, f_5_0_0⟩ | ⟨h_5, f_5_1_0, f_5_1_1, f_5_1_2⟩ | ⟨h_5, f_5_2_0, f_5_2_1⟩
    · subst h_5
      refine lv_istore (lv' := [(4, .int 1), (0, .ref x), (1, .int (nI j_1)), (2, .int k1), (3, .int k2)]) hx hb dX7_set_20 hl (by decide) rfl (fun ls hl => ?_)
      refine lv_iload hx hb dX7_set_22 (lv_at hl 0 rfl) ?_
      refine lv_if_eq (tgt := 34) hx hb dX7_set_24 (by decide) (fun c_ => absurd c_ (by decide)) (fun _ => ?_)
      refine lv_aload_n hx hb dX7_set_27 rfl (lv_at hl 1 rfl) ?_
      refine lv_iload hx hb dX7_set_28 (lv_at hl 0 rfl) ?_
      have hc_7 := cutW (wc := [(xo_7_rrrrrrrrrii x ro ta no ac im tr pl cs ak xf xg)]) hP hD hS hA [0] (by decide +kernel) rfl
      refine va_calli (va_runV (As := [.int 1]) (rest := []) ⟨hx, hb, hml, hown, hts⟩ (r_X7_found l dC dI cI cZ cL cJ s.heap.size x ro ta no ac im tr pl cs ak xf xg 1 ) (cwV 1 hts gX7_set_X7_found rfl rfl rfl (by decide +kernel) ⟨Nat.le_of_ble_eq_true rfl, Nat.le_of_ble_eq_true rfl⟩) (pvW 7 0 hK hP rfl rfl hc_7) rfl rfl hl.1 rfl (lv_room (Nat.le_of_ble_eq_true rfl)) dX7_set_30 ⟨Nat.le_of_ble_eq_true rfl, Nat.le_of_ble_eq_true rfl⟩) hS (fun q _ h => hc_7.2.2 q h) hc_7.2.2 (fun r_7 u_7 t_7 H1 locs ht hvm h_7 hB hz1 hk1 hS => ?_)
      refine xl_1_3 hB (fun xgn_7 hP1 hD1 hF_7_0 => ?_)
      clear hB
      rw [ht] at hP1
      obtain ⟨hP, hD⟩ := va_join (wr := [(xo_5_rrr ro it la le), (xI la cI 8 fl), (xI le cI 8 fe), (xJ it cJ 8 fi), (xI y0 cI 40 f0), (xI y1 cI 40 f1), (xI y2 cI 40 f2), (xI y3 cI 40 f3), (xI y4 cI 40 f4), (xI y5 cI 40 f5), (xI y6 cI 40 f6), (xI y7 cI 40 f7)]) (w1 := [(xo_7_rrrrrrrrrii x ro ta no ac im tr pl cs ak xf xgn_7)]) hP hD [0] [1, 2, 3, 4, 5, 6, 7, 8, 9, 10, 11, 12] rfl rfl (by decide +kernel) (by decide +kernel) hk1 hc_7.2.2 hP1 hD1
      generalize H1 = H at hP hS ⊢
      have hP : va_P (dC, dI) vwCl [(xo_5_rrr ro it la le), (xI la cI 8 fl), (xI le cI 8 fe), (xJ it cJ 8 fi), (xI y0 cI 40 f0), (xI y1 cI 40 f1), (xI y2 cI 40 f2), (xI y3 cI 40 f3), (xI y4 cI 40 f4), (xI y5 cI 40 f5), (xI y6 cI 40 f6), (xI y7 cI 40 f7), (xo_7_rrrrrrrrrii x ro ta no ac im tr pl cs ak xf xgn_7)] H := hP
      have hD := dto hP hD
      have hX9 := cut2 (wc := [(xo_7_rrrrrrrrrii x ro ta no ac im tr pl cs ak xf xgn_7), (xo_5_rrr ro it la le), (xI la cI 8 fl), (xI le cI 8 fe), (xJ it cJ 8 fi), (xI y0 cI 40 f0), (xI y1 cI 40 f1), (xI y2 cI 40 f2), (xI y3 cI 40 f3), (xI y4 cI 40 f4), (xI y5 cI 40 f5), (xI y6 cI 40 f6), (xI y7 cI 40 f7)]) hP hD [12, 0, 1, 2, 3, 4, 5, 6, 7, 8, 9, 10, 11] (by decide +kernel) rfl
      exact W.iret (v := r_7) hx hb hr (fun t ht hW => ⟨⟨r_7, (), rfl, (lf_X7_set_6 hfi hfe hj_1 f_5_0_0 hF_7_0 h_7), ⟨f0, f1, f2, f3, f4, f5, f6, f7, xgn_7, va_Ht ht hX9.1, hX9.2, (lf_X7_set_4 hfi hfe hj_1 f_5_0_0 hF_7_0 h_7), (lf_X7_set_5 hfi hfe hj_1 f_5_0_0 hF_7_0 h_7)⟩⟩, hS.F ht⟩) hS.2.2 dX7_set_33
    · subst h_5
      obtain ⟨pa_8, pb_8, ea_8, eb_8, hab_8⟩ := f_5_1_2
      subst ea_8
      have eb_8 : 1 = pb_8 := nI_inj eb_8 (by omega) (by omega)
      refine lv_istore (lv' := [(4, .int 0), (0, .ref x), (1, .int (nI j_1)), (2, .int (nI pa_8)), (3, .int k2)]) hx hb dX7_set_20 hl (by decide) rfl (fun ls hl => ?_)
      refine lv_iload hx hb dX7_set_22 (lv_at hl 0 rfl) ?_
      refine lv_if_eq (tgt := 34) hx hb dX7_set_24 (by decide) (fun _ => ?_) (fun c_ => absurd (by decide) c_)
      refine lv_aload_n hx hb dX7_set_34 rfl (lv_at hl 1 rfl) ?_
      refine lv_aload_n hx hb dX7_set_35 rfl (lv_at hl 1 rfl) ?_
      refine va_get (D := (dC, dI)) (ci := 7) (v := .ref ro) (C := RX7) (T := TX7) (N := 11) hx hb hts i_X7_set_X7 hown hK hP 0 rfl rfl 0 (by decide) (hts _ mx_X7_set_2) (fun _ h9 => h9) rfl dX7_set_36 ?_
      refine lv_iload_n hx hb dX7_set_39 rfl (lv_at hl 2 rfl) ?_
      refine lv_iload_n hx hb dX7_set_40 rfl (lv_at hl 3 rfl) ?_
      refine lv_iload_n hx hb dX7_set_41 rfl (lv_at hl 4 rfl) ?_
      have hc_10 := cutW (wc := [(xo_5_rrr ro it la le), (xI la cI 8 fl), (xJ it cJ 8 fi), (xI y0 cI 40 f0), (xI y1 cI 40 f1), (xI y2 cI 40 f2), (xI y3 cI 40 f3), (xI y4 cI 40 f4), (xI y5 cI 40 f5), (xI y6 cI 40 f6), (xI y7 cI 40 f7)]) hP hD hS hA [1, 2, 4, 5, 6, 7, 8, 9, 10, 11, 12] (by decide +kernel) rfl
      refine va_calli (va_runV (As := [.int (nI j_1), .int (nI pa_8), .int k2]) (rest := [.ref x]) ⟨hx, hb, hml, hown, hts⟩ (r_X5_put l dC dI cI cZ cL cJ s.heap.size ro it la le fl fe y0 y1 y2 y3 y4 y5 y6 y7 f0 f1 f2 f3 f4 f5 f6 f7 fi j_1 pa_8 k2 (hfi) (by omega) (by omega)) (cwV 3 hts gX7_set_X5_put rfl rfl rfl (by decide +kernel) ⟨Nat.le_of_ble_eq_true rfl, Nat.le_of_ble_eq_true rfl⟩) (pvW 5 1 hK hP rfl rfl hc_10) rfl rfl hl.1 rfl (lv_room (Nat.le_of_ble_eq_true rfl)) dX7_set_42 ⟨Nat.le_of_ble_eq_true rfl, Nat.le_of_ble_eq_true rfl⟩) hS (fun q _ h => hc_10.2.2 q h) hc_10.2.2 (fun r_10 u_10 t_10 H1 locs ht hvm h_10 hB hz1 hk1 hS => ?_)
      refine xl_8_3 hB (fun f0n_10 f1n_10 f2n_10 f3n_10 f4n_10 f5n_10 f6n_10 f7n_10 hP1 hD1 hF_10_0 => ?_)
      clear hB
      rw [ht] at hP1
      obtain ⟨hP, hD⟩ := va_join (wr := [(xo_7_rrrrrrrrrii x ro ta no ac im tr pl cs ak xf xg), (xI le cI 8 fe)]) (w1 := [(xo_5_rrr ro it la le), (xI la cI 8 fl), (xJ it cJ 8 fi), (xI y0 cI 40 f0n_10), (xI y1 cI 40 f1n_10), (xI y2 cI 40 f2n_10), (xI y3 cI 40 f3n_10), (xI y4 cI 40 f4n_10), (xI y5 cI 40 f5n_10), (xI y6 cI 40 f6n_10), (xI y7 cI 40 f7n_10)]) hP hD [1, 2, 4, 5, 6, 7, 8, 9, 10, 11, 12] [0, 3] rfl rfl (by decide +kernel) (by decide +kernel) hk1 hc_10.2.2 hP1 hD1
      generalize H1 = H at hP hS ⊢
      have hP : va_P (dC, dI) vwCl [(xo_7_rrrrrrrrrii x ro ta no ac im tr pl cs ak xf xg), (xI le cI 8 fe), (xo_5_rrr ro it la le), (xI la cI 8 fl), (xJ it cJ 8 fi), (xI y0 cI 40 f0n_10), (xI y1 cI 40 f1n_10), (xI y2 cI 40 f2n_10), (xI y3 cI 40 f3n_10), (xI y4 cI 40 f4n_10), (xI y5 cI 40 f5n_10), (xI y6 cI 40 f6n_10), (xI y7 cI 40 f7n_10)] H := hP
      have hD := dto hP hD
      have hc_11 := cutW (wc := [(xo_7_rrrrrrrrrii x ro ta no ac im tr pl cs ak xf xg)]) hP hD hS hA [0] (by decide +kernel) rfl
      refine va_calli (va_runV (As := [.int r_10]) (rest := []) ⟨hx, hb, hml, hown, hts⟩ (r_X7_foundNothing l dC dI cI cZ cL cJ H.size x ro ta no ac im tr pl cs ak xf xg r_10 ) (cwV 1 hts gX7_set_X7_foundNothing rfl rfl rfl (by decide +kernel) ⟨Nat.le_of_ble_eq_true rfl, Nat.le_of_ble_eq_true rfl⟩) (pvW 7 0 hK hP rfl rfl hc_11) rfl rfl hl.1 rfl (lv_room (Nat.le_of_ble_eq_true rfl)) dX7_set_45 ⟨Nat.le_of_ble_eq_true rfl, Nat.le_of_ble_eq_true rfl⟩) hS (fun q _ h => hc_11.2.2 q h) hc_11.2.2 (fun r_11 u_11 t_11 H1 locs ht hvm h_11 hB hz1 hk1 hS => ?_)
      refine xl_1_3 hB (fun xgn_11 hP1 hD1 hF_11_0 => ?_)
      clear hB
      rw [ht] at hP1
      obtain ⟨hP, hD⟩ := va_join (wr := [(xI le cI 8 fe), (xo_5_rrr ro it la le), (xI la cI 8 fl), (xJ it cJ 8 fi), (xI y0 cI 40 f0n_10), (xI y1 cI 40 f1n_10), (xI y2 cI 40 f2n_10), (xI y3 cI 40 f3n_10), (xI y4 cI 40 f4n_10), (xI y5 cI 40 f5n_10), (xI y6 cI 40 f6n_10), (xI y7 cI 40 f7n_10)]) (w1 := [(xo_7_rrrrrrrrrii x ro ta no ac im tr pl cs ak xf xgn_11)]) hP hD [0] [1, 2, 3, 4, 5, 6, 7, 8, 9, 10, 11, 12] rfl rfl (by decide +kernel) (by decide +kernel) hk1 hc_11.2.2 hP1 hD1
      generalize H1 = H at hP hS ⊢
      have hP : va_P (dC, dI) vwCl [(xI le cI 8 fe), (xo_5_rrr ro it la le), (xI la cI 8 fl), (xJ it cJ 8 fi), (xI y0 cI 40 f0n_10), (xI y1 cI 40 f1n_10), (xI y2 cI 40 f2n_10), (xI y3 cI 40 f3n_10), (xI y4 cI 40 f4n_10), (xI y5 cI 40 f5n_10), (xI y6 cI 40 f6n_10), (xI y7 cI 40 f7n_10), (xo_7_rrrrrrrrrii x ro ta no ac im tr pl cs ak xf xgn_11)] H := hP
      have hD := dto hP hD
      have hX9 := cut2 (wc := [(xo_7_rrrrrrrrrii x ro ta no ac im tr pl cs ak xf xgn_11), (xo_5_rrr ro it la le), (xI la cI 8 fl), (xI le cI 8 fe), (xJ it cJ 8 fi), (xI y0 cI 40 f0n_10), (xI y1 cI 40 f1n_10), (xI y2 cI 40 f2n_10), (xI y3 cI 40 f3n_10), (xI y4 cI 40 f4n_10), (xI y5 cI 40 f5n_10), (xI y6 cI 40 f6n_10), (xI y7 cI 40 f7n_10)]) hP hD [12, 1, 2, 0, 3, 4, 5, 6, 7, 8, 9, 10, 11] (by decide +kernel) rfl
      exact W.iret (v := r_11) hx hb hr (fun t ht hW => ⟨⟨r_11, (), rfl, (lf_X7_set_9 hfi hfe hj_1 f_5_1_0 f_5_1_1 hab_8 eb_8 hF_10_0 h_10 hF_11_0 h_11), ⟨f0n_10, f1n_10, f2n_10, f3n_10, f4n_10, f5n_10, f6n_10, f7n_10, xgn_11, va_Ht ht hX9.1, hX9.2, (lf_X7_set_7 hfi hfe hj_1 f_5_1_0 f_5_1_1 hab_8 eb_8 hF_10_0 h_10 hF_11_0 h_11), (lf_X7_set_8 hfi hfe hj_1 f_5_1_0 f_5_1_1 hab_8 eb_8 hF_10_0 h_10 hF_11_0 h_11)⟩⟩, hS.F ht⟩) hS.2.2 dX7_set_48
    · subst h_5
      refine lv_istore (lv' := [(4, .int 2), (0, .ref x), (1, .int (nI j_1)), (2, .int k1), (3, .int k2)]) hx hb dX7_set_20 hl (by decide) rfl (fun ls hl => ?_)
      refine lv_iload hx hb dX7_set_22 (lv_at hl 0 rfl) ?_
      refine lv_if_eq (tgt := 34) hx hb dX7_set_24 (by decide) (fun c_ => absurd c_ (by decide)) (fun _ => ?_)
      refine lv_aload_n hx hb dX7_set_27 rfl (lv_at hl 1 rfl) ?_
      refine lv_iload hx hb dX7_set_28 (lv_at hl 0 rfl) ?_
      have hc_13 := cutW (wc := [(xo_7_rrrrrrrrrii x ro ta no ac im tr pl cs ak xf xg)]) hP hD hS hA [0] (by decide +kernel) rfl
      refine va_calli (va_runV (As := [.int 2]) (rest := []) ⟨hx, hb, hml, hown, hts⟩ (r_X7_found l dC dI cI cZ cL cJ s.heap.size x ro ta no ac im tr pl cs ak xf xg 2 ) (cwV 1 hts gX7_set_X7_found rfl rfl rfl (by decide +kernel) ⟨Nat.le_of_ble_eq_true rfl, Nat.le_of_ble_eq_true rfl⟩) (pvW 7 0 hK hP rfl rfl hc_13) rfl rfl hl.1 rfl (lv_room (Nat.le_of_ble_eq_true rfl)) dX7_set_30 ⟨Nat.le_of_ble_eq_true rfl, Nat.le_of_ble_eq_true rfl⟩) hS (fun q _ h => hc_13.2.2 q h) hc_13.2.2 (fun r_13 u_13 t_13 H1 locs ht hvm h_13 hB hz1 hk1 hS => ?_)
      refine xl_1_3 hB (fun xgn_13 hP1 hD1 hF_13_0 => ?_)
      clear hB
      rw [ht] at hP1
      obtain ⟨hP, hD⟩ := va_join (wr := [(xo_5_rrr ro it la le), (xI la cI 8 fl), (xI le cI 8 fe), (xJ it cJ 8 fi), (xI y0 cI 40 f0), (xI y1 cI 40 f1), (xI y2 cI 40 f2), (xI y3 cI 40 f3), (xI y4 cI 40 f4), (xI y5 cI 40 f5), (xI y6 cI 40 f6), (xI y7 cI 40 f7)]) (w1 := [(xo_7_rrrrrrrrrii x ro ta no ac im tr pl cs ak xf xgn_13)]) hP hD [0] [1, 2, 3, 4, 5, 6, 7, 8, 9, 10, 11, 12] rfl rfl (by decide +kernel) (by decide +kernel) hk1 hc_13.2.2 hP1 hD1
      generalize H1 = H at hP hS ⊢
      have hP : va_P (dC, dI) vwCl [(xo_5_rrr ro it la le), (xI la cI 8 fl), (xI le cI 8 fe), (xJ it cJ 8 fi), (xI y0 cI 40 f0), (xI y1 cI 40 f1), (xI y2 cI 40 f2), (xI y3 cI 40 f3), (xI y4 cI 40 f4), (xI y5 cI 40 f5), (xI y6 cI 40 f6), (xI y7 cI 40 f7), (xo_7_rrrrrrrrrii x ro ta no ac im tr pl cs ak xf xgn_13)] H := hP
      have hD := dto hP hD
      have hX9 := cut2 (wc := [(xo_7_rrrrrrrrrii x ro ta no ac im tr pl cs ak xf xgn_13), (xo_5_rrr ro it la le), (xI la cI 8 fl), (xI le cI 8 fe), (xJ it cJ 8 fi), (xI y0 cI 40 f0), (xI y1 cI 40 f1), (xI y2 cI 40 f2), (xI y3 cI 40 f3), (xI y4 cI 40 f4), (xI y5 cI 40 f5), (xI y6 cI 40 f6), (xI y7 cI 40 f7)]) hP hD [12, 0, 1, 2, 3, 4, 5, 6, 7, 8, 9, 10, 11] (by decide +kernel) rfl
      exact W.iret (v := r_13) hx hb hr (fun t ht hW => ⟨⟨r_13, (), rfl, (lf_X7_set_12 hfi hfe hj_1 f_5_2_0 f_5_2_1 hF_13_0 h_13), ⟨f0, f1, f2, f3, f4, f5, f6, f7, xgn_13, va_Ht ht hX9.1, hX9.2, (lf_X7_set_10 hfi hfe hj_1 f_5_2_0 f_5_2_1 hF_13_0 h_13), (lf_X7_set_11 hfi hfe hj_1 f_5_2_0 f_5_2_1 hF_13_0 h_13)⟩⟩, hS.F ht⟩) hS.2.2 dX7_set_33
theorem lf_X7_copy_1 {fl : Nat → Int32} {fe : Nat → Int32} {y0 : Nat} {y1 : Nat} {y2 : Nat} {y3 : Nat} {y4 : Nat} {y5 : Nat} {y6 : Nat} {y7 : Nat} {f0 : Nat → Int32} {f1 : Nat → Int32} {f2 : Nat → Int32} {f3 : Nat → Int32} {f4 : Nat → Int32} {f5 : Nat → Int32} {f6 : Nat → Int32} {f7 : Nat → Int32} {fi : Nat → Option Nat} {k0 : Int32} {k1 : Int32} {k2 : Int32} {k3 : Int32} {k4 : Int32} (hfi : fi 0 = some y0 ∧ fi 1 = some y1 ∧ fi 2 = some y2 ∧ fi 3 = some y3 ∧ fi 4 = some y4 ∧ fi 5 = some y5 ∧ fi 6 = some y6 ∧ fi 7 = some y7) (hfe : ∀ jq : Nat, jq < 8 → ∃ q : Nat, q ≤ 40 ∧ fe jq = nI q) (f_1_0_0 : (k0 < 0 ∨ 8 ≤ k0)) : (itX f0 f1 f2 f3 f4 f5 f6 f7) = n_itc (abl fl) (abn fl fe) (itX f0 f1 f2 f3 f4 f5 f6 f7) k0 k1 k2 k3 k4 := by
  first
  | with_reducible exact xc_0 (Or.inl (by assumption))
  | with_reducible exact xc_0 (Or.inr (by assumption))
  | with_reducible exact xj_0 (Or.inl (by assumption))
  | with_reducible exact xj_0 (Or.inr (by assumption))
  | with_reducible exact xc_1 (by assumption) (by assumption) (by assumption) (by assumption)
  | with_reducible exact xj_1 (by assumption) (by assumption) (by assumption)
  | with_reducible exact xc_2 (by assumption) (by assumption) (by assumption) (by assumption) (by assumption) (by assumption)
  | with_reducible exact xj_2 (by assumption) (by assumption) (by assumption)
  | with_reducible exact xc_3 (by assumption) (by assumption) (by assumption) (by assumption) (by assumption) (by assumption) (by assumption)
  | with_reducible exact xj_3 (by assumption) (by assumption) (by assumption) (by assumption) (by assumption)
  | with_reducible exact xc_4 (by assumption) (by assumption) (by assumption) (by assumption) (by assumption) (by assumption) (by assumption) (by assumption)
  | with_reducible exact xj_4 (by assumption) (by assumption) (by assumption) (by assumption) (by assumption) (by assumption) (by assumption) (by omega) (by omega) (by omega) (by assumption)
  | with_reducible exact (ar_copy_0 (Or.inl (by assumption))).symm
  | with_reducible exact (ar_copy_0 (Or.inr (by assumption))).symm
  | ((with_reducible refine (ar_copy_0 ?_).symm); grind)
  | (subst_vars; with_reducible exact (ar_copy_1 (by assumption) (by assumption) (by assumption)).symm)
  | (subst_vars; with_reducible exact (ar_copy_2 (by assumption) (by assumption) (by assumption) (by assumption) (by assumption)).symm)
  | (subst_vars; with_reducible exact (ar_copy_3 (by assumption) (by assumption) (by assumption) (by assumption) (by assumption) (by assumption)).symm)
  | (subst_vars; with_reducible exact (ar_copy_4 (by assumption) (by assumption) (by assumption) (by assumption) (by assumption) (by assumption) (by assumption)).symm)
theorem lf_X7_copy_2 {xg : Int32} {fl : Nat → Int32} {fe : Nat → Int32} {y0 : Nat} {y1 : Nat} {y2 : Nat} {y3 : Nat} {y4 : Nat} {y5 : Nat} {y6 : Nat} {y7 : Nat} {fi : Nat → Option Nat} {k0 : Int32} {k1 : Int32} {k2 : Int32} {k3 : Int32} {k4 : Int32} (hfi : fi 0 = some y0 ∧ fi 1 = some y1 ∧ fi 2 = some y2 ∧ fi 3 = some y3 ∧ fi 4 = some y4 ∧ fi 5 = some y5 ∧ fi 6 = some y6 ∧ fi 7 = some y7) (hfe : ∀ jq : Nat, jq < 8 → ∃ q : Nat, q ≤ 40 ∧ fe jq = nI q) (f_1_0_0 : (k0 < 0 ∨ 8 ≤ k0)) : xg = f_copy (abl fl) (abn fl fe) k0 k1 k2 k3 k4 xg := by
  first
  | with_reducible exact xc_0 (Or.inl (by assumption))
  | with_reducible exact xc_0 (Or.inr (by assumption))
  | with_reducible exact xj_0 (Or.inl (by assumption))
  | with_reducible exact xj_0 (Or.inr (by assumption))
  | with_reducible exact xc_1 (by assumption) (by assumption) (by assumption) (by assumption)
  | with_reducible exact xj_1 (by assumption) (by assumption) (by assumption)
  | with_reducible exact xc_2 (by assumption) (by assumption) (by assumption) (by assumption) (by assumption) (by assumption)
  | with_reducible exact xj_2 (by assumption) (by assumption) (by assumption)
  | with_reducible exact xc_3 (by assumption) (by assumption) (by assumption) (by assumption) (by assumption) (by assumption) (by assumption)
  | with_reducible exact xj_3 (by assumption) (by assumption) (by assumption) (by assumption) (by assumption)
  | with_reducible exact xc_4 (by assumption) (by assumption) (by assumption) (by assumption) (by assumption) (by assumption) (by assumption) (by assumption)
  | with_reducible exact xj_4 (by assumption) (by assumption) (by assumption) (by assumption) (by assumption) (by assumption) (by assumption) (by omega) (by omega) (by omega) (by assumption)
  | with_reducible exact (ar_copy_0 (Or.inl (by assumption))).symm
  | with_reducible exact (ar_copy_0 (Or.inr (by assumption))).symm
  | ((with_reducible refine (ar_copy_0 ?_).symm); grind)
  | (subst_vars; with_reducible exact (ar_copy_1 (by assumption) (by assumption) (by assumption)).symm)
  | (subst_vars; with_reducible exact (ar_copy_2 (by assumption) (by assumption) (by assumption) (by assumption) (by assumption)).symm)
  | (subst_vars; with_reducible exact (ar_copy_3 (by assumption) (by assumption) (by assumption) (by assumption) (by assumption) (by assumption)).symm)
  | (subst_vars; with_reducible exact (ar_copy_4 (by assumption) (by assumption) (by assumption) (by assumption) (by assumption) (by assumption) (by assumption)).symm)
theorem lf_X7_copy_3 {fl : Nat → Int32} {fe : Nat → Int32} {y0 : Nat} {y1 : Nat} {y2 : Nat} {y3 : Nat} {y4 : Nat} {y5 : Nat} {y6 : Nat} {y7 : Nat} {fi : Nat → Option Nat} {k0 : Int32} {k1 : Int32} {k2 : Int32} {k3 : Int32} {k4 : Int32} (hfi : fi 0 = some y0 ∧ fi 1 = some y1 ∧ fi 2 = some y2 ∧ fi 3 = some y3 ∧ fi 4 = some y4 ∧ fi 5 = some y5 ∧ fi 6 = some y6 ∧ fi 7 = some y7) (hfe : ∀ jq : Nat, jq < 8 → ∃ q : Nat, q ≤ 40 ∧ fe jq = nI q) (f_1_0_0 : (k0 < 0 ∨ 8 ≤ k0)) : (-1000001) = (ar_copy (abl fl) (abn fl fe) k0 k1 k2 k3 k4) := by
  first
  | with_reducible exact xc_0 (Or.inl (by assumption))
  | with_reducible exact xc_0 (Or.inr (by assumption))
  | with_reducible exact xj_0 (Or.inl (by assumption))
  | with_reducible exact xj_0 (Or.inr (by assumption))
  | with_reducible exact xc_1 (by assumption) (by assumption) (by assumption) (by assumption)
  | with_reducible exact xj_1 (by assumption) (by assumption) (by assumption)
  | with_reducible exact xc_2 (by assumption) (by assumption) (by assumption) (by assumption) (by assumption) (by assumption)
  | with_reducible exact xj_2 (by assumption) (by assumption) (by assumption)
  | with_reducible exact xc_3 (by assumption) (by assumption) (by assumption) (by assumption) (by assumption) (by assumption) (by assumption)
  | with_reducible exact xj_3 (by assumption) (by assumption) (by assumption) (by assumption) (by assumption)
  | with_reducible exact xc_4 (by assumption) (by assumption) (by assumption) (by assumption) (by assumption) (by assumption) (by assumption) (by assumption)
  | with_reducible exact xj_4 (by assumption) (by assumption) (by assumption) (by assumption) (by assumption) (by assumption) (by assumption) (by omega) (by omega) (by omega) (by assumption)
  | with_reducible exact (ar_copy_0 (Or.inl (by assumption))).symm
  | with_reducible exact (ar_copy_0 (Or.inr (by assumption))).symm
  | ((with_reducible refine (ar_copy_0 ?_).symm); grind)
  | (subst_vars; with_reducible exact (ar_copy_1 (by assumption) (by assumption) (by assumption)).symm)
  | (subst_vars; with_reducible exact (ar_copy_2 (by assumption) (by assumption) (by assumption) (by assumption) (by assumption)).symm)
  | (subst_vars; with_reducible exact (ar_copy_3 (by assumption) (by assumption) (by assumption) (by assumption) (by assumption) (by assumption)).symm)
  | (subst_vars; with_reducible exact (ar_copy_4 (by assumption) (by assumption) (by assumption) (by assumption) (by assumption) (by assumption) (by assumption)).symm)
theorem lf_X7_copy_4 {fl : Nat → Int32} {fe : Nat → Int32} {y0 : Nat} {y1 : Nat} {y2 : Nat} {y3 : Nat} {y4 : Nat} {y5 : Nat} {y6 : Nat} {y7 : Nat} {f0 : Nat → Int32} {f1 : Nat → Int32} {f2 : Nat → Int32} {f3 : Nat → Int32} {f4 : Nat → Int32} {f5 : Nat → Int32} {f6 : Nat → Int32} {f7 : Nat → Int32} {fi : Nat → Option Nat} {k1 : Int32} {k2 : Int32} {k3 : Int32} {k4 : Int32} {j_1 : Nat} (hfi : fi 0 = some y0 ∧ fi 1 = some y1 ∧ fi 2 = some y2 ∧ fi 3 = some y3 ∧ fi 4 = some y4 ∧ fi 5 = some y5 ∧ fi 6 = some y6 ∧ fi 7 = some y7) (hfe : ∀ jq : Nat, jq < 8 → ∃ q : Nat, q ≤ 40 ∧ fe jq = nI q) (hj_1 : j_1 < 8) (f_5_0_0 : (k2 < 0 ∨ 8 ≤ k2)) : (itX f0 f1 f2 f3 f4 f5 f6 f7) = n_itc (abl fl) (abn fl fe) (itX f0 f1 f2 f3 f4 f5 f6 f7) (nI j_1) k1 k2 k3 k4 := by
  first
  | with_reducible exact xc_0 (Or.inl (by assumption))
  | with_reducible exact xc_0 (Or.inr (by assumption))
  | with_reducible exact xj_0 (Or.inl (by assumption))
  | with_reducible exact xj_0 (Or.inr (by assumption))
  | with_reducible exact xc_1 (by assumption) (by assumption) (by assumption) (by assumption)
  | with_reducible exact xj_1 (by assumption) (by assumption) (by assumption)
  | with_reducible exact xc_2 (by assumption) (by assumption) (by assumption) (by assumption) (by assumption) (by assumption)
  | with_reducible exact xj_2 (by assumption) (by assumption) (by assumption)
  | with_reducible exact xc_3 (by assumption) (by assumption) (by assumption) (by assumption) (by assumption) (by assumption) (by assumption)
  | with_reducible exact xj_3 (by assumption) (by assumption) (by assumption) (by assumption) (by assumption)
  | with_reducible exact xc_4 (by assumption) (by assumption) (by assumption) (by assumption) (by assumption) (by assumption) (by assumption) (by assumption)
  | with_reducible exact xj_4 (by assumption) (by assumption) (by assumption) (by assumption) (by assumption) (by assumption) (by assumption) (by omega) (by omega) (by omega) (by assumption)
  | with_reducible exact (ar_copy_0 (Or.inl (by assumption))).symm
  | with_reducible exact (ar_copy_0 (Or.inr (by assumption))).symm
  | ((with_reducible refine (ar_copy_0 ?_).symm); grind)
  | (subst_vars; with_reducible exact (ar_copy_1 (by assumption) (by assumption) (by assumption)).symm)
  | (subst_vars; with_reducible exact (ar_copy_2 (by assumption) (by assumption) (by assumption) (by assumption) (by assumption)).symm)
  | (subst_vars; with_reducible exact (ar_copy_3 (by assumption) (by assumption) (by assumption) (by assumption) (by assumption) (by assumption)).symm)
  | (subst_vars; with_reducible exact (ar_copy_4 (by assumption) (by assumption) (by assumption) (by assumption) (by assumption) (by assumption) (by assumption)).symm)
theorem lf_X7_copy_5 {xg : Int32} {fl : Nat → Int32} {fe : Nat → Int32} {y0 : Nat} {y1 : Nat} {y2 : Nat} {y3 : Nat} {y4 : Nat} {y5 : Nat} {y6 : Nat} {y7 : Nat} {fi : Nat → Option Nat} {k1 : Int32} {k2 : Int32} {k3 : Int32} {k4 : Int32} {j_1 : Nat} (hfi : fi 0 = some y0 ∧ fi 1 = some y1 ∧ fi 2 = some y2 ∧ fi 3 = some y3 ∧ fi 4 = some y4 ∧ fi 5 = some y5 ∧ fi 6 = some y6 ∧ fi 7 = some y7) (hfe : ∀ jq : Nat, jq < 8 → ∃ q : Nat, q ≤ 40 ∧ fe jq = nI q) (hj_1 : j_1 < 8) (f_5_0_0 : (k2 < 0 ∨ 8 ≤ k2)) : xg = f_copy (abl fl) (abn fl fe) (nI j_1) k1 k2 k3 k4 xg := by
  first
  | with_reducible exact xc_0 (Or.inl (by assumption))
  | with_reducible exact xc_0 (Or.inr (by assumption))
  | with_reducible exact xj_0 (Or.inl (by assumption))
  | with_reducible exact xj_0 (Or.inr (by assumption))
  | with_reducible exact xc_1 (by assumption) (by assumption) (by assumption) (by assumption)
  | with_reducible exact xj_1 (by assumption) (by assumption) (by assumption)
  | with_reducible exact xc_2 (by assumption) (by assumption) (by assumption) (by assumption) (by assumption) (by assumption)
  | with_reducible exact xj_2 (by assumption) (by assumption) (by assumption)
  | with_reducible exact xc_3 (by assumption) (by assumption) (by assumption) (by assumption) (by assumption) (by assumption) (by assumption)
  | with_reducible exact xj_3 (by assumption) (by assumption) (by assumption) (by assumption) (by assumption)
  | with_reducible exact xc_4 (by assumption) (by assumption) (by assumption) (by assumption) (by assumption) (by assumption) (by assumption) (by assumption)
  | with_reducible exact xj_4 (by assumption) (by assumption) (by assumption) (by assumption) (by assumption) (by assumption) (by assumption) (by omega) (by omega) (by omega) (by assumption)
  | with_reducible exact (ar_copy_0 (Or.inl (by assumption))).symm
  | with_reducible exact (ar_copy_0 (Or.inr (by assumption))).symm
  | ((with_reducible refine (ar_copy_0 ?_).symm); grind)
  | (subst_vars; with_reducible exact (ar_copy_1 (by assumption) (by assumption) (by assumption)).symm)
  | (subst_vars; with_reducible exact (ar_copy_2 (by assumption) (by assumption) (by assumption) (by assumption) (by assumption)).symm)
  | (subst_vars; with_reducible exact (ar_copy_3 (by assumption) (by assumption) (by assumption) (by assumption) (by assumption) (by assumption)).symm)
  | (subst_vars; with_reducible exact (ar_copy_4 (by assumption) (by assumption) (by assumption) (by assumption) (by assumption) (by assumption) (by assumption)).symm)
theorem lf_X7_copy_6 {fl : Nat → Int32} {fe : Nat → Int32} {y0 : Nat} {y1 : Nat} {y2 : Nat} {y3 : Nat} {y4 : Nat} {y5 : Nat} {y6 : Nat} {y7 : Nat} {fi : Nat → Option Nat} {k1 : Int32} {k2 : Int32} {k3 : Int32} {k4 : Int32} {j_1 : Nat} (hfi : fi 0 = some y0 ∧ fi 1 = some y1 ∧ fi 2 = some y2 ∧ fi 3 = some y3 ∧ fi 4 = some y4 ∧ fi 5 = some y5 ∧ fi 6 = some y6 ∧ fi 7 = some y7) (hfe : ∀ jq : Nat, jq < 8 → ∃ q : Nat, q ≤ 40 ∧ fe jq = nI q) (hj_1 : j_1 < 8) (f_5_0_0 : (k2 < 0 ∨ 8 ≤ k2)) : (-1000001) = (ar_copy (abl fl) (abn fl fe) (nI j_1) k1 k2 k3 k4) := by
  first
  | with_reducible exact xc_0 (Or.inl (by assumption))
  | with_reducible exact xc_0 (Or.inr (by assumption))
  | with_reducible exact xj_0 (Or.inl (by assumption))
  | with_reducible exact xj_0 (Or.inr (by assumption))
  | with_reducible exact xc_1 (by assumption) (by assumption) (by assumption) (by assumption)
  | with_reducible exact xj_1 (by assumption) (by assumption) (by assumption)
  | with_reducible exact xc_2 (by assumption) (by assumption) (by assumption) (by assumption) (by assumption) (by assumption)
  | with_reducible exact xj_2 (by assumption) (by assumption) (by assumption)
  | with_reducible exact xc_3 (by assumption) (by assumption) (by assumption) (by assumption) (by assumption) (by assumption) (by assumption)
  | with_reducible exact xj_3 (by assumption) (by assumption) (by assumption) (by assumption) (by assumption)
  | with_reducible exact xc_4 (by assumption) (by assumption) (by assumption) (by assumption) (by assumption) (by assumption) (by assumption) (by assumption)
  | with_reducible exact xj_4 (by assumption) (by assumption) (by assumption) (by assumption) (by assumption) (by assumption) (by assumption) (by omega) (by omega) (by omega) (by assumption)
  | with_reducible exact (ar_copy_0 (Or.inl (by assumption))).symm
  | with_reducible exact (ar_copy_0 (Or.inr (by assumption))).symm
  | ((with_reducible refine (ar_copy_0 ?_).symm); grind)
  | (subst_vars; with_reducible exact (ar_copy_1 (by assumption) (by assumption) (by assumption)).symm)
  | (subst_vars; with_reducible exact (ar_copy_2 (by assumption) (by assumption) (by assumption) (by assumption) (by assumption)).symm)
  | (subst_vars; with_reducible exact (ar_copy_3 (by assumption) (by assumption) (by assumption) (by assumption) (by assumption) (by assumption)).symm)
  | (subst_vars; with_reducible exact (ar_copy_4 (by assumption) (by assumption) (by assumption) (by assumption) (by assumption) (by assumption) (by assumption)).symm)
theorem lf_X7_copy_7 {fl : Nat → Int32} {fe : Nat → Int32} {y0 : Nat} {y1 : Nat} {y2 : Nat} {y3 : Nat} {y4 : Nat} {y5 : Nat} {y6 : Nat} {y7 : Nat} {f0 : Nat → Int32} {f1 : Nat → Int32} {f2 : Nat → Int32} {f3 : Nat → Int32} {f4 : Nat → Int32} {f5 : Nat → Int32} {f6 : Nat → Int32} {f7 : Nat → Int32} {fi : Nat → Option Nat} {k1 : Int32} {k3 : Int32} {k4 : Int32} {j_1 : Nat} {j_5 : Nat} {xgn_11 : Int32} {r_11 : Int32} (hfi : fi 0 = some y0 ∧ fi 1 = some y1 ∧ fi 2 = some y2 ∧ fi 3 = some y3 ∧ fi 4 = some y4 ∧ fi 5 = some y5 ∧ fi 6 = some y6 ∧ fi 7 = some y7) (hfe : ∀ jq : Nat, jq < 8 → ∃ q : Nat, q ≤ 40 ∧ fe jq = nI q) (hj_1 : j_1 < 8) (hj_5 : j_5 < 8) (f_9_0_0 : (fl j_1 = -1 ∨ fl j_5 = -1)) (hF_11_0 : (xgn_11 : Int32) = 1) (h_11 : r_11 = (-1000010 - 1)) : (itX f0 f1 f2 f3 f4 f5 f6 f7) = n_itc (abl fl) (abn fl fe) (itX f0 f1 f2 f3 f4 f5 f6 f7) (nI j_1) k1 (nI j_5) k3 k4 := by
  first
  | with_reducible exact xc_0 (Or.inl (by assumption))
  | with_reducible exact xc_0 (Or.inr (by assumption))
  | with_reducible exact xj_0 (Or.inl (by assumption))
  | with_reducible exact xj_0 (Or.inr (by assumption))
  | with_reducible exact xc_1 (by assumption) (by assumption) (by assumption) (by assumption)
  | with_reducible exact xj_1 (by assumption) (by assumption) (by assumption)
  | with_reducible exact xc_2 (by assumption) (by assumption) (by assumption) (by assumption) (by assumption) (by assumption)
  | with_reducible exact xj_2 (by assumption) (by assumption) (by assumption)
  | with_reducible exact xc_3 (by assumption) (by assumption) (by assumption) (by assumption) (by assumption) (by assumption) (by assumption)
  | with_reducible exact xj_3 (by assumption) (by assumption) (by assumption) (by assumption) (by assumption)
  | with_reducible exact xc_4 (by assumption) (by assumption) (by assumption) (by assumption) (by assumption) (by assumption) (by assumption) (by assumption)
  | with_reducible exact xj_4 (by assumption) (by assumption) (by assumption) (by assumption) (by assumption) (by assumption) (by assumption) (by omega) (by omega) (by omega) (by assumption)
  | with_reducible exact (ar_copy_0 (Or.inl (by assumption))).symm
  | with_reducible exact (ar_copy_0 (Or.inr (by assumption))).symm
  | ((with_reducible refine (ar_copy_0 ?_).symm); grind)
  | (subst_vars; with_reducible exact (ar_copy_1 (by assumption) (by assumption) (by assumption)).symm)
  | (subst_vars; with_reducible exact (ar_copy_2 (by assumption) (by assumption) (by assumption) (by assumption) (by assumption)).symm)
  | (subst_vars; with_reducible exact (ar_copy_3 (by assumption) (by assumption) (by assumption) (by assumption) (by assumption) (by assumption)).symm)
  | (subst_vars; with_reducible exact (ar_copy_4 (by assumption) (by assumption) (by assumption) (by assumption) (by assumption) (by assumption) (by assumption)).symm)
theorem lf_X7_copy_8 {xg : Int32} {fl : Nat → Int32} {fe : Nat → Int32} {y0 : Nat} {y1 : Nat} {y2 : Nat} {y3 : Nat} {y4 : Nat} {y5 : Nat} {y6 : Nat} {y7 : Nat} {fi : Nat → Option Nat} {k1 : Int32} {k3 : Int32} {k4 : Int32} {j_1 : Nat} {j_5 : Nat} {xgn_11 : Int32} {r_11 : Int32} (hfi : fi 0 = some y0 ∧ fi 1 = some y1 ∧ fi 2 = some y2 ∧ fi 3 = some y3 ∧ fi 4 = some y4 ∧ fi 5 = some y5 ∧ fi 6 = some y6 ∧ fi 7 = some y7) (hfe : ∀ jq : Nat, jq < 8 → ∃ q : Nat, q ≤ 40 ∧ fe jq = nI q) (hj_1 : j_1 < 8) (hj_5 : j_5 < 8) (f_9_0_0 : (fl j_1 = -1 ∨ fl j_5 = -1)) (hF_11_0 : (xgn_11 : Int32) = 1) (h_11 : r_11 = (-1000010 - 1)) : xgn_11 = f_copy (abl fl) (abn fl fe) (nI j_1) k1 (nI j_5) k3 k4 xg := by
  first
  | with_reducible exact xc_0 (Or.inl (by assumption))
  | with_reducible exact xc_0 (Or.inr (by assumption))
  | with_reducible exact xj_0 (Or.inl (by assumption))
  | with_reducible exact xj_0 (Or.inr (by assumption))
  | with_reducible exact xc_1 (by assumption) (by assumption) (by assumption) (by assumption)
  | with_reducible exact xj_1 (by assumption) (by assumption) (by assumption)
  | with_reducible exact xc_2 (by assumption) (by assumption) (by assumption) (by assumption) (by assumption) (by assumption)
  | with_reducible exact xj_2 (by assumption) (by assumption) (by assumption)
  | with_reducible exact xc_3 (by assumption) (by assumption) (by assumption) (by assumption) (by assumption) (by assumption) (by assumption)
  | with_reducible exact xj_3 (by assumption) (by assumption) (by assumption) (by assumption) (by assumption)
  | with_reducible exact xc_4 (by assumption) (by assumption) (by assumption) (by assumption) (by assumption) (by assumption) (by assumption) (by assumption)
  | with_reducible exact xj_4 (by assumption) (by assumption) (by assumption) (by assumption) (by assumption) (by assumption) (by assumption) (by omega) (by omega) (by omega) (by assumption)
  | with_reducible exact (ar_copy_0 (Or.inl (by assumption))).symm
  | with_reducible exact (ar_copy_0 (Or.inr (by assumption))).symm
  | ((with_reducible refine (ar_copy_0 ?_).symm); grind)
  | (subst_vars; with_reducible exact (ar_copy_1 (by assumption) (by assumption) (by assumption)).symm)
  | (subst_vars; with_reducible exact (ar_copy_2 (by assumption) (by assumption) (by assumption) (by assumption) (by assumption)).symm)
  | (subst_vars; with_reducible exact (ar_copy_3 (by assumption) (by assumption) (by assumption) (by assumption) (by assumption) (by assumption)).symm)
  | (subst_vars; with_reducible exact (ar_copy_4 (by assumption) (by assumption) (by assumption) (by assumption) (by assumption) (by assumption) (by assumption)).symm)
theorem lf_X7_copy_9 {fl : Nat → Int32} {fe : Nat → Int32} {y0 : Nat} {y1 : Nat} {y2 : Nat} {y3 : Nat} {y4 : Nat} {y5 : Nat} {y6 : Nat} {y7 : Nat} {fi : Nat → Option Nat} {k1 : Int32} {k3 : Int32} {k4 : Int32} {j_1 : Nat} {j_5 : Nat} {xgn_11 : Int32} {r_11 : Int32} (hfi : fi 0 = some y0 ∧ fi 1 = some y1 ∧ fi 2 = some y2 ∧ fi 3 = some y3 ∧ fi 4 = some y4 ∧ fi 5 = some y5 ∧ fi 6 = some y6 ∧ fi 7 = some y7) (hfe : ∀ jq : Nat, jq < 8 → ∃ q : Nat, q ≤ 40 ∧ fe jq = nI q) (hj_1 : j_1 < 8) (hj_5 : j_5 < 8) (f_9_0_0 : (fl j_1 = -1 ∨ fl j_5 = -1)) (hF_11_0 : (xgn_11 : Int32) = 1) (h_11 : r_11 = (-1000010 - 1)) : r_11 = (ar_copy (abl fl) (abn fl fe) (nI j_1) k1 (nI j_5) k3 k4) := by
  first
  | with_reducible exact xc_0 (Or.inl (by assumption))
  | with_reducible exact xc_0 (Or.inr (by assumption))
  | with_reducible exact xj_0 (Or.inl (by assumption))
  | with_reducible exact xj_0 (Or.inr (by assumption))
  | with_reducible exact xc_1 (by assumption) (by assumption) (by assumption) (by assumption)
  | with_reducible exact xj_1 (by assumption) (by assumption) (by assumption)
  | with_reducible exact xc_2 (by assumption) (by assumption) (by assumption) (by assumption) (by assumption) (by assumption)
  | with_reducible exact xj_2 (by assumption) (by assumption) (by assumption)
  | with_reducible exact xc_3 (by assumption) (by assumption) (by assumption) (by assumption) (by assumption) (by assumption) (by assumption)
  | with_reducible exact xj_3 (by assumption) (by assumption) (by assumption) (by assumption) (by assumption)
  | with_reducible exact xc_4 (by assumption) (by assumption) (by assumption) (by assumption) (by assumption) (by assumption) (by assumption) (by assumption)
  | with_reducible exact xj_4 (by assumption) (by assumption) (by assumption) (by assumption) (by assumption) (by assumption) (by assumption) (by omega) (by omega) (by omega) (by assumption)
  | with_reducible exact (ar_copy_0 (Or.inl (by assumption))).symm
  | with_reducible exact (ar_copy_0 (Or.inr (by assumption))).symm
  | ((with_reducible refine (ar_copy_0 ?_).symm); grind)
  | (subst_vars; with_reducible exact (ar_copy_1 (by assumption) (by assumption) (by assumption)).symm)
  | (subst_vars; with_reducible exact (ar_copy_2 (by assumption) (by assumption) (by assumption) (by assumption) (by assumption)).symm)
  | (subst_vars; with_reducible exact (ar_copy_3 (by assumption) (by assumption) (by assumption) (by assumption) (by assumption) (by assumption)).symm)
  | (subst_vars; with_reducible exact (ar_copy_4 (by assumption) (by assumption) (by assumption) (by assumption) (by assumption) (by assumption) (by assumption)).symm)
theorem lf_X7_copy_10 {fl : Nat → Int32} {fe : Nat → Int32} {y0 : Nat} {y1 : Nat} {y2 : Nat} {y3 : Nat} {y4 : Nat} {y5 : Nat} {y6 : Nat} {y7 : Nat} {f0 : Nat → Int32} {f1 : Nat → Int32} {f2 : Nat → Int32} {f3 : Nat → Int32} {f4 : Nat → Int32} {f5 : Nat → Int32} {f6 : Nat → Int32} {f7 : Nat → Int32} {fi : Nat → Option Nat} {k1 : Int32} {k3 : Int32} {k4 : Int32} {j_1 : Nat} {j_5 : Nat} {xgn_13 : Int32} {r_13 : Int32} (hfi : fi 0 = some y0 ∧ fi 1 = some y1 ∧ fi 2 = some y2 ∧ fi 3 = some y3 ∧ fi 4 = some y4 ∧ fi 5 = some y5 ∧ fi 6 = some y6 ∧ fi 7 = some y7) (hfe : ∀ jq : Nat, jq < 8 → ∃ q : Nat, q ≤ 40 ∧ fe jq = nI q) (hj_1 : j_1 < 8) (hj_5 : j_5 < 8) (f_9_1_0 : ¬ fl j_1 = -1) (f_9_1_1 : ¬ fl j_5 = -1) (f_9_1_2 : ¬ fl j_1 = fl j_5) (hF_13_0 : (xgn_13 : Int32) = 5) (h_13 : r_13 = (-1000010 - 5)) : (itX f0 f1 f2 f3 f4 f5 f6 f7) = n_itc (abl fl) (abn fl fe) (itX f0 f1 f2 f3 f4 f5 f6 f7) (nI j_1) k1 (nI j_5) k3 k4 := by
  first
  | with_reducible exact xc_0 (Or.inl (by assumption))
  | with_reducible exact xc_0 (Or.inr (by assumption))
  | with_reducible exact xj_0 (Or.inl (by assumption))
  | with_reducible exact xj_0 (Or.inr (by assumption))
  | with_reducible exact xc_1 (by assumption) (by assumption) (by assumption) (by assumption)
  | with_reducible exact xj_1 (by assumption) (by assumption) (by assumption)
  | with_reducible exact xc_2 (by assumption) (by assumption) (by assumption) (by assumption) (by assumption) (by assumption)
  | with_reducible exact xj_2 (by assumption) (by assumption) (by assumption)
  | with_reducible exact xc_3 (by assumption) (by assumption) (by assumption) (by assumption) (by assumption) (by assumption) (by assumption)
  | with_reducible exact xj_3 (by assumption) (by assumption) (by assumption) (by assumption) (by assumption)
  | with_reducible exact xc_4 (by assumption) (by assumption) (by assumption) (by assumption) (by assumption) (by assumption) (by assumption) (by assumption)
  | with_reducible exact xj_4 (by assumption) (by assumption) (by assumption) (by assumption) (by assumption) (by assumption) (by assumption) (by omega) (by omega) (by omega) (by assumption)
  | with_reducible exact (ar_copy_0 (Or.inl (by assumption))).symm
  | with_reducible exact (ar_copy_0 (Or.inr (by assumption))).symm
  | ((with_reducible refine (ar_copy_0 ?_).symm); grind)
  | (subst_vars; with_reducible exact (ar_copy_1 (by assumption) (by assumption) (by assumption)).symm)
  | (subst_vars; with_reducible exact (ar_copy_2 (by assumption) (by assumption) (by assumption) (by assumption) (by assumption)).symm)
  | (subst_vars; with_reducible exact (ar_copy_3 (by assumption) (by assumption) (by assumption) (by assumption) (by assumption) (by assumption)).symm)
  | (subst_vars; with_reducible exact (ar_copy_4 (by assumption) (by assumption) (by assumption) (by assumption) (by assumption) (by assumption) (by assumption)).symm)
theorem lf_X7_copy_11 {xg : Int32} {fl : Nat → Int32} {fe : Nat → Int32} {y0 : Nat} {y1 : Nat} {y2 : Nat} {y3 : Nat} {y4 : Nat} {y5 : Nat} {y6 : Nat} {y7 : Nat} {fi : Nat → Option Nat} {k1 : Int32} {k3 : Int32} {k4 : Int32} {j_1 : Nat} {j_5 : Nat} {xgn_13 : Int32} {r_13 : Int32} (hfi : fi 0 = some y0 ∧ fi 1 = some y1 ∧ fi 2 = some y2 ∧ fi 3 = some y3 ∧ fi 4 = some y4 ∧ fi 5 = some y5 ∧ fi 6 = some y6 ∧ fi 7 = some y7) (hfe : ∀ jq : Nat, jq < 8 → ∃ q : Nat, q ≤ 40 ∧ fe jq = nI q) (hj_1 : j_1 < 8) (hj_5 : j_5 < 8) (f_9_1_0 : ¬ fl j_1 = -1) (f_9_1_1 : ¬ fl j_5 = -1) (f_9_1_2 : ¬ fl j_1 = fl j_5) (hF_13_0 : (xgn_13 : Int32) = 5) (h_13 : r_13 = (-1000010 - 5)) : xgn_13 = f_copy (abl fl) (abn fl fe) (nI j_1) k1 (nI j_5) k3 k4 xg := by
  first
  | with_reducible exact xc_0 (Or.inl (by assumption))
  | with_reducible exact xc_0 (Or.inr (by assumption))
  | with_reducible exact xj_0 (Or.inl (by assumption))
  | with_reducible exact xj_0 (Or.inr (by assumption))
  | with_reducible exact xc_1 (by assumption) (by assumption) (by assumption) (by assumption)
  | with_reducible exact xj_1 (by assumption) (by assumption) (by assumption)
  | with_reducible exact xc_2 (by assumption) (by assumption) (by assumption) (by assumption) (by assumption) (by assumption)
  | with_reducible exact xj_2 (by assumption) (by assumption) (by assumption)
  | with_reducible exact xc_3 (by assumption) (by assumption) (by assumption) (by assumption) (by assumption) (by assumption) (by assumption)
  | with_reducible exact xj_3 (by assumption) (by assumption) (by assumption) (by assumption) (by assumption)
  | with_reducible exact xc_4 (by assumption) (by assumption) (by assumption) (by assumption) (by assumption) (by assumption) (by assumption) (by assumption)
  | with_reducible exact xj_4 (by assumption) (by assumption) (by assumption) (by assumption) (by assumption) (by assumption) (by assumption) (by omega) (by omega) (by omega) (by assumption)
  | with_reducible exact (ar_copy_0 (Or.inl (by assumption))).symm
  | with_reducible exact (ar_copy_0 (Or.inr (by assumption))).symm
  | ((with_reducible refine (ar_copy_0 ?_).symm); grind)
  | (subst_vars; with_reducible exact (ar_copy_1 (by assumption) (by assumption) (by assumption)).symm)
  | (subst_vars; with_reducible exact (ar_copy_2 (by assumption) (by assumption) (by assumption) (by assumption) (by assumption)).symm)
  | (subst_vars; with_reducible exact (ar_copy_3 (by assumption) (by assumption) (by assumption) (by assumption) (by assumption) (by assumption)).symm)
  | (subst_vars; with_reducible exact (ar_copy_4 (by assumption) (by assumption) (by assumption) (by assumption) (by assumption) (by assumption) (by assumption)).symm)
theorem lf_X7_copy_12 {fl : Nat → Int32} {fe : Nat → Int32} {y0 : Nat} {y1 : Nat} {y2 : Nat} {y3 : Nat} {y4 : Nat} {y5 : Nat} {y6 : Nat} {y7 : Nat} {fi : Nat → Option Nat} {k1 : Int32} {k3 : Int32} {k4 : Int32} {j_1 : Nat} {j_5 : Nat} {xgn_13 : Int32} {r_13 : Int32} (hfi : fi 0 = some y0 ∧ fi 1 = some y1 ∧ fi 2 = some y2 ∧ fi 3 = some y3 ∧ fi 4 = some y4 ∧ fi 5 = some y5 ∧ fi 6 = some y6 ∧ fi 7 = some y7) (hfe : ∀ jq : Nat, jq < 8 → ∃ q : Nat, q ≤ 40 ∧ fe jq = nI q) (hj_1 : j_1 < 8) (hj_5 : j_5 < 8) (f_9_1_0 : ¬ fl j_1 = -1) (f_9_1_1 : ¬ fl j_5 = -1) (f_9_1_2 : ¬ fl j_1 = fl j_5) (hF_13_0 : (xgn_13 : Int32) = 5) (h_13 : r_13 = (-1000010 - 5)) : r_13 = (ar_copy (abl fl) (abn fl fe) (nI j_1) k1 (nI j_5) k3 k4) := by
  first
  | with_reducible exact xc_0 (Or.inl (by assumption))
  | with_reducible exact xc_0 (Or.inr (by assumption))
  | with_reducible exact xj_0 (Or.inl (by assumption))
  | with_reducible exact xj_0 (Or.inr (by assumption))
  | with_reducible exact xc_1 (by assumption) (by assumption) (by assumption) (by assumption)
  | with_reducible exact xj_1 (by assumption) (by assumption) (by assumption)
  | with_reducible exact xc_2 (by assumption) (by assumption) (by assumption) (by assumption) (by assumption) (by assumption)
  | with_reducible exact xj_2 (by assumption) (by assumption) (by assumption)
  | with_reducible exact xc_3 (by assumption) (by assumption) (by assumption) (by assumption) (by assumption) (by assumption) (by assumption)
  | with_reducible exact xj_3 (by assumption) (by assumption) (by assumption) (by assumption) (by assumption)
  | with_reducible exact xc_4 (by assumption) (by assumption) (by assumption) (by assumption) (by assumption) (by assumption) (by assumption) (by assumption)
  | with_reducible exact xj_4 (by assumption) (by assumption) (by assumption) (by assumption) (by assumption) (by assumption) (by assumption) (by omega) (by omega) (by omega) (by assumption)
  | with_reducible exact (ar_copy_0 (Or.inl (by assumption))).symm
  | with_reducible exact (ar_copy_0 (Or.inr (by assumption))).symm
  | ((with_reducible refine (ar_copy_0 ?_).symm); grind)
  | (subst_vars; with_reducible exact (ar_copy_1 (by assumption) (by assumption) (by assumption)).symm)
  | (subst_vars; with_reducible exact (ar_copy_2 (by assumption) (by assumption) (by assumption) (by assumption) (by assumption)).symm)
  | (subst_vars; with_reducible exact (ar_copy_3 (by assumption) (by assumption) (by assumption) (by assumption) (by assumption) (by assumption)).symm)
  | (subst_vars; with_reducible exact (ar_copy_4 (by assumption) (by assumption) (by assumption) (by assumption) (by assumption) (by assumption) (by assumption)).symm)
theorem lf_X7_copy_13 {fl : Nat → Int32} {fe : Nat → Int32} {y0 : Nat} {y1 : Nat} {y2 : Nat} {y3 : Nat} {y4 : Nat} {y5 : Nat} {y6 : Nat} {y7 : Nat} {f0 : Nat → Int32} {f1 : Nat → Int32} {f2 : Nat → Int32} {f3 : Nat → Int32} {f4 : Nat → Int32} {f5 : Nat → Int32} {f6 : Nat → Int32} {f7 : Nat → Int32} {fi : Nat → Option Nat} {j_1 : Nat} {j_5 : Nat} {pa_14 : Nat} {pb_14 : Nat} {pa_15 : Nat} {pb_15 : Nat} {f0n_17 : Nat → Int32} {f1n_17 : Nat → Int32} {f2n_17 : Nat → Int32} {f3n_17 : Nat → Int32} {f4n_17 : Nat → Int32} {f5n_17 : Nat → Int32} {f6n_17 : Nat → Int32} {f7n_17 : Nat → Int32} {xgn_18 : Int32} {r_18 : Int32} (hfi : fi 0 = some y0 ∧ fi 1 = some y1 ∧ fi 2 = some y2 ∧ fi 3 = some y3 ∧ fi 4 = some y4 ∧ fi 5 = some y5 ∧ fi 6 = some y6 ∧ fi 7 = some y7) (hfe : ∀ jq : Nat, jq < 8 → ∃ q : Nat, q ≤ 40 ∧ fe jq = nI q) (hj_1 : j_1 < 8) (hj_5 : j_5 < 8) (f_9_2_0 : ¬ fl j_1 = -1) (f_9_2_1 : ¬ fl j_5 = -1) (f_9_2_2 : fl j_1 = fl j_5) (f_9_2_3 : plc (fe j_1) (nI pa_14) (nI pb_14)) (f_9_2_4 : plc (fe j_5) (nI pa_15) (nI pb_14)) (hab_14 : pa_14 + pb_14 ≤ 40) (hab_15 : pa_15 + pb_15 ≤ 40) (eb_15 : pb_14 = pb_15) (hF_17_0 : (itX f0n_17 f1n_17 f2n_17 f3n_17 f4n_17 f5n_17 f6n_17 f7n_17) = upI (itX f0 f1 f2 f3 f4 f5 f6 f7) j_5 (cpI ((itX f0 f1 f2 f3 f4 f5 f6 f7) j_1) ((itX f0 f1 f2 f3 f4 f5 f6 f7) j_5) pa_14 pa_15 pb_14)) (hF_18_0 : (xgn_18 : Int32) = 0) (h_18 : r_18 = (nI pb_14)) : (itX f0n_17 f1n_17 f2n_17 f3n_17 f4n_17 f5n_17 f6n_17 f7n_17) = n_itc (abl fl) (abn fl fe) (itX f0 f1 f2 f3 f4 f5 f6 f7) (nI j_1) (nI pa_14) (nI j_5) (nI pa_15) (nI pb_14) := by
  first
  | with_reducible exact xc_0 (Or.inl (by assumption))
  | with_reducible exact xc_0 (Or.inr (by assumption))
  | with_reducible exact xj_0 (Or.inl (by assumption))
  | with_reducible exact xj_0 (Or.inr (by assumption))
  | with_reducible exact xc_1 (by assumption) (by assumption) (by assumption) (by assumption)
  | with_reducible exact xj_1 (by assumption) (by assumption) (by assumption)
  | with_reducible exact xc_2 (by assumption) (by assumption) (by assumption) (by assumption) (by assumption) (by assumption)
  | with_reducible exact xj_2 (by assumption) (by assumption) (by assumption)
  | with_reducible exact xc_3 (by assumption) (by assumption) (by assumption) (by assumption) (by assumption) (by assumption) (by assumption)
  | with_reducible exact xj_3 (by assumption) (by assumption) (by assumption) (by assumption) (by assumption)
  | with_reducible exact xc_4 (by assumption) (by assumption) (by assumption) (by assumption) (by assumption) (by assumption) (by assumption) (by assumption)
  | with_reducible exact xj_4 (by assumption) (by assumption) (by assumption) (by assumption) (by assumption) (by assumption) (by assumption) (by omega) (by omega) (by omega) (by assumption)
  | with_reducible exact (ar_copy_0 (Or.inl (by assumption))).symm
  | with_reducible exact (ar_copy_0 (Or.inr (by assumption))).symm
  | ((with_reducible refine (ar_copy_0 ?_).symm); grind)
  | (subst_vars; with_reducible exact (ar_copy_1 (by assumption) (by assumption) (by assumption)).symm)
  | (subst_vars; with_reducible exact (ar_copy_2 (by assumption) (by assumption) (by assumption) (by assumption) (by assumption)).symm)
  | (subst_vars; with_reducible exact (ar_copy_3 (by assumption) (by assumption) (by assumption) (by assumption) (by assumption) (by assumption)).symm)
  | (subst_vars; with_reducible exact (ar_copy_4 (by assumption) (by assumption) (by assumption) (by assumption) (by assumption) (by assumption) (by assumption)).symm)
theorem lf_X7_copy_14 {xg : Int32} {fl : Nat → Int32} {fe : Nat → Int32} {y0 : Nat} {y1 : Nat} {y2 : Nat} {y3 : Nat} {y4 : Nat} {y5 : Nat} {y6 : Nat} {y7 : Nat} {f0 : Nat → Int32} {f1 : Nat → Int32} {f2 : Nat → Int32} {f3 : Nat → Int32} {f4 : Nat → Int32} {f5 : Nat → Int32} {f6 : Nat → Int32} {f7 : Nat → Int32} {fi : Nat → Option Nat} {j_1 : Nat} {j_5 : Nat} {pa_14 : Nat} {pb_14 : Nat} {pa_15 : Nat} {pb_15 : Nat} {f0n_17 : Nat → Int32} {f1n_17 : Nat → Int32} {f2n_17 : Nat → Int32} {f3n_17 : Nat → Int32} {f4n_17 : Nat → Int32} {f5n_17 : Nat → Int32} {f6n_17 : Nat → Int32} {f7n_17 : Nat → Int32} {xgn_18 : Int32} {r_18 : Int32} (hfi : fi 0 = some y0 ∧ fi 1 = some y1 ∧ fi 2 = some y2 ∧ fi 3 = some y3 ∧ fi 4 = some y4 ∧ fi 5 = some y5 ∧ fi 6 = some y6 ∧ fi 7 = some y7) (hfe : ∀ jq : Nat, jq < 8 → ∃ q : Nat, q ≤ 40 ∧ fe jq = nI q) (hj_1 : j_1 < 8) (hj_5 : j_5 < 8) (f_9_2_0 : ¬ fl j_1 = -1) (f_9_2_1 : ¬ fl j_5 = -1) (f_9_2_2 : fl j_1 = fl j_5) (f_9_2_3 : plc (fe j_1) (nI pa_14) (nI pb_14)) (f_9_2_4 : plc (fe j_5) (nI pa_15) (nI pb_14)) (hab_14 : pa_14 + pb_14 ≤ 40) (hab_15 : pa_15 + pb_15 ≤ 40) (eb_15 : pb_14 = pb_15) (hF_17_0 : (itX f0n_17 f1n_17 f2n_17 f3n_17 f4n_17 f5n_17 f6n_17 f7n_17) = upI (itX f0 f1 f2 f3 f4 f5 f6 f7) j_5 (cpI ((itX f0 f1 f2 f3 f4 f5 f6 f7) j_1) ((itX f0 f1 f2 f3 f4 f5 f6 f7) j_5) pa_14 pa_15 pb_14)) (hF_18_0 : (xgn_18 : Int32) = 0) (h_18 : r_18 = (nI pb_14)) : xgn_18 = f_copy (abl fl) (abn fl fe) (nI j_1) (nI pa_14) (nI j_5) (nI pa_15) (nI pb_14) xg := by
  first
  | with_reducible exact xc_0 (Or.inl (by assumption))
  | with_reducible exact xc_0 (Or.inr (by assumption))
  | with_reducible exact xj_0 (Or.inl (by assumption))
  | with_reducible exact xj_0 (Or.inr (by assumption))
  | with_reducible exact xc_1 (by assumption) (by assumption) (by assumption) (by assumption)
  | with_reducible exact xj_1 (by assumption) (by assumption) (by assumption)
  | with_reducible exact xc_2 (by assumption) (by assumption) (by assumption) (by assumption) (by assumption) (by assumption)
  | with_reducible exact xj_2 (by assumption) (by assumption) (by assumption)
  | with_reducible exact xc_3 (by assumption) (by assumption) (by assumption) (by assumption) (by assumption) (by assumption) (by assumption)
  | with_reducible exact xj_3 (by assumption) (by assumption) (by assumption) (by assumption) (by assumption)
  | with_reducible exact xc_4 (by assumption) (by assumption) (by assumption) (by assumption) (by assumption) (by assumption) (by assumption) (by assumption)
  | with_reducible exact xj_4 (by assumption) (by assumption) (by assumption) (by assumption) (by assumption) (by assumption) (by assumption) (by omega) (by omega) (by omega) (by assumption)
  | with_reducible exact (ar_copy_0 (Or.inl (by assumption))).symm
  | with_reducible exact (ar_copy_0 (Or.inr (by assumption))).symm
  | ((with_reducible refine (ar_copy_0 ?_).symm); grind)
  | (subst_vars; with_reducible exact (ar_copy_1 (by assumption) (by assumption) (by assumption)).symm)
  | (subst_vars; with_reducible exact (ar_copy_2 (by assumption) (by assumption) (by assumption) (by assumption) (by assumption)).symm)
  | (subst_vars; with_reducible exact (ar_copy_3 (by assumption) (by assumption) (by assumption) (by assumption) (by assumption) (by assumption)).symm)
  | (subst_vars; with_reducible exact (ar_copy_4 (by assumption) (by assumption) (by assumption) (by assumption) (by assumption) (by assumption) (by assumption)).symm)
theorem lf_X7_copy_15 {fl : Nat → Int32} {fe : Nat → Int32} {y0 : Nat} {y1 : Nat} {y2 : Nat} {y3 : Nat} {y4 : Nat} {y5 : Nat} {y6 : Nat} {y7 : Nat} {f0 : Nat → Int32} {f1 : Nat → Int32} {f2 : Nat → Int32} {f3 : Nat → Int32} {f4 : Nat → Int32} {f5 : Nat → Int32} {f6 : Nat → Int32} {f7 : Nat → Int32} {fi : Nat → Option Nat} {j_1 : Nat} {j_5 : Nat} {pa_14 : Nat} {pb_14 : Nat} {pa_15 : Nat} {pb_15 : Nat} {f0n_17 : Nat → Int32} {f1n_17 : Nat → Int32} {f2n_17 : Nat → Int32} {f3n_17 : Nat → Int32} {f4n_17 : Nat → Int32} {f5n_17 : Nat → Int32} {f6n_17 : Nat → Int32} {f7n_17 : Nat → Int32} {xgn_18 : Int32} {r_18 : Int32} (hfi : fi 0 = some y0 ∧ fi 1 = some y1 ∧ fi 2 = some y2 ∧ fi 3 = some y3 ∧ fi 4 = some y4 ∧ fi 5 = some y5 ∧ fi 6 = some y6 ∧ fi 7 = some y7) (hfe : ∀ jq : Nat, jq < 8 → ∃ q : Nat, q ≤ 40 ∧ fe jq = nI q) (hj_1 : j_1 < 8) (hj_5 : j_5 < 8) (f_9_2_0 : ¬ fl j_1 = -1) (f_9_2_1 : ¬ fl j_5 = -1) (f_9_2_2 : fl j_1 = fl j_5) (f_9_2_3 : plc (fe j_1) (nI pa_14) (nI pb_14)) (f_9_2_4 : plc (fe j_5) (nI pa_15) (nI pb_14)) (hab_14 : pa_14 + pb_14 ≤ 40) (hab_15 : pa_15 + pb_15 ≤ 40) (eb_15 : pb_14 = pb_15) (hF_17_0 : (itX f0n_17 f1n_17 f2n_17 f3n_17 f4n_17 f5n_17 f6n_17 f7n_17) = upI (itX f0 f1 f2 f3 f4 f5 f6 f7) j_5 (cpI ((itX f0 f1 f2 f3 f4 f5 f6 f7) j_1) ((itX f0 f1 f2 f3 f4 f5 f6 f7) j_5) pa_14 pa_15 pb_14)) (hF_18_0 : (xgn_18 : Int32) = 0) (h_18 : r_18 = (nI pb_14)) : r_18 = (ar_copy (abl fl) (abn fl fe) (nI j_1) (nI pa_14) (nI j_5) (nI pa_15) (nI pb_14)) := by
  first
  | with_reducible exact xc_0 (Or.inl (by assumption))
  | with_reducible exact xc_0 (Or.inr (by assumption))
  | with_reducible exact xj_0 (Or.inl (by assumption))
  | with_reducible exact xj_0 (Or.inr (by assumption))
  | with_reducible exact xc_1 (by assumption) (by assumption) (by assumption) (by assumption)
  | with_reducible exact xj_1 (by assumption) (by assumption) (by assumption)
  | with_reducible exact xc_2 (by assumption) (by assumption) (by assumption) (by assumption) (by assumption) (by assumption)
  | with_reducible exact xj_2 (by assumption) (by assumption) (by assumption)
  | with_reducible exact xc_3 (by assumption) (by assumption) (by assumption) (by assumption) (by assumption) (by assumption) (by assumption)
  | with_reducible exact xj_3 (by assumption) (by assumption) (by assumption) (by assumption) (by assumption)
  | with_reducible exact xc_4 (by assumption) (by assumption) (by assumption) (by assumption) (by assumption) (by assumption) (by assumption) (by assumption)
  | with_reducible exact xj_4 (by assumption) (by assumption) (by assumption) (by assumption) (by assumption) (by assumption) (by assumption) (by omega) (by omega) (by omega) (by assumption)
  | with_reducible exact (ar_copy_0 (Or.inl (by assumption))).symm
  | with_reducible exact (ar_copy_0 (Or.inr (by assumption))).symm
  | ((with_reducible refine (ar_copy_0 ?_).symm); grind)
  | (subst_vars; with_reducible exact (ar_copy_1 (by assumption) (by assumption) (by assumption)).symm)
  | (subst_vars; with_reducible exact (ar_copy_2 (by assumption) (by assumption) (by assumption) (by assumption) (by assumption)).symm)
  | (subst_vars; with_reducible exact (ar_copy_3 (by assumption) (by assumption) (by assumption) (by assumption) (by assumption) (by assumption)).symm)
  | (subst_vars; with_reducible exact (ar_copy_4 (by assumption) (by assumption) (by assumption) (by assumption) (by assumption) (by assumption) (by assumption)).symm)
theorem lf_X7_copy_16 {fl : Nat → Int32} {fe : Nat → Int32} {y0 : Nat} {y1 : Nat} {y2 : Nat} {y3 : Nat} {y4 : Nat} {y5 : Nat} {y6 : Nat} {y7 : Nat} {f0 : Nat → Int32} {f1 : Nat → Int32} {f2 : Nat → Int32} {f3 : Nat → Int32} {f4 : Nat → Int32} {f5 : Nat → Int32} {f6 : Nat → Int32} {f7 : Nat → Int32} {fi : Nat → Option Nat} {k1 : Int32} {k3 : Int32} {k4 : Int32} {j_1 : Nat} {j_5 : Nat} {xgn_20 : Int32} {r_20 : Int32} (hfi : fi 0 = some y0 ∧ fi 1 = some y1 ∧ fi 2 = some y2 ∧ fi 3 = some y3 ∧ fi 4 = some y4 ∧ fi 5 = some y5 ∧ fi 6 = some y6 ∧ fi 7 = some y7) (hfe : ∀ jq : Nat, jq < 8 → ∃ q : Nat, q ≤ 40 ∧ fe jq = nI q) (hj_1 : j_1 < 8) (hj_5 : j_5 < 8) (f_9_3_0 : ¬ fl j_1 = -1) (f_9_3_1 : ¬ fl j_5 = -1) (f_9_3_2 : fl j_1 = fl j_5) (f_9_3_3 : (¬ plc (fe j_1) k1 k4 ∨ ¬ plc (fe j_5) k3 k4)) (hF_20_0 : (xgn_20 : Int32) = 2) (h_20 : r_20 = (-1000010 - 2)) : (itX f0 f1 f2 f3 f4 f5 f6 f7) = n_itc (abl fl) (abn fl fe) (itX f0 f1 f2 f3 f4 f5 f6 f7) (nI j_1) k1 (nI j_5) k3 k4 := by
  first
  | with_reducible exact xc_0 (Or.inl (by assumption))
  | with_reducible exact xc_0 (Or.inr (by assumption))
  | with_reducible exact xj_0 (Or.inl (by assumption))
  | with_reducible exact xj_0 (Or.inr (by assumption))
  | with_reducible exact xc_1 (by assumption) (by assumption) (by assumption) (by assumption)
  | with_reducible exact xj_1 (by assumption) (by assumption) (by assumption)
  | with_reducible exact xc_2 (by assumption) (by assumption) (by assumption) (by assumption) (by assumption) (by assumption)
  | with_reducible exact xj_2 (by assumption) (by assumption) (by assumption)
  | with_reducible exact xc_3 (by assumption) (by assumption) (by assumption) (by assumption) (by assumption) (by assumption) (by assumption)
  | with_reducible exact xj_3 (by assumption) (by assumption) (by assumption) (by assumption) (by assumption)
  | with_reducible exact xc_4 (by assumption) (by assumption) (by assumption) (by assumption) (by assumption) (by assumption) (by assumption) (by assumption)
  | with_reducible exact xj_4 (by assumption) (by assumption) (by assumption) (by assumption) (by assumption) (by assumption) (by assumption) (by omega) (by omega) (by omega) (by assumption)
  | with_reducible exact (ar_copy_0 (Or.inl (by assumption))).symm
  | with_reducible exact (ar_copy_0 (Or.inr (by assumption))).symm
  | ((with_reducible refine (ar_copy_0 ?_).symm); grind)
  | (subst_vars; with_reducible exact (ar_copy_1 (by assumption) (by assumption) (by assumption)).symm)
  | (subst_vars; with_reducible exact (ar_copy_2 (by assumption) (by assumption) (by assumption) (by assumption) (by assumption)).symm)
  | (subst_vars; with_reducible exact (ar_copy_3 (by assumption) (by assumption) (by assumption) (by assumption) (by assumption) (by assumption)).symm)
  | (subst_vars; with_reducible exact (ar_copy_4 (by assumption) (by assumption) (by assumption) (by assumption) (by assumption) (by assumption) (by assumption)).symm)
theorem lf_X7_copy_17 {xg : Int32} {fl : Nat → Int32} {fe : Nat → Int32} {y0 : Nat} {y1 : Nat} {y2 : Nat} {y3 : Nat} {y4 : Nat} {y5 : Nat} {y6 : Nat} {y7 : Nat} {fi : Nat → Option Nat} {k1 : Int32} {k3 : Int32} {k4 : Int32} {j_1 : Nat} {j_5 : Nat} {xgn_20 : Int32} {r_20 : Int32} (hfi : fi 0 = some y0 ∧ fi 1 = some y1 ∧ fi 2 = some y2 ∧ fi 3 = some y3 ∧ fi 4 = some y4 ∧ fi 5 = some y5 ∧ fi 6 = some y6 ∧ fi 7 = some y7) (hfe : ∀ jq : Nat, jq < 8 → ∃ q : Nat, q ≤ 40 ∧ fe jq = nI q) (hj_1 : j_1 < 8) (hj_5 : j_5 < 8) (f_9_3_0 : ¬ fl j_1 = -1) (f_9_3_1 : ¬ fl j_5 = -1) (f_9_3_2 : fl j_1 = fl j_5) (f_9_3_3 : (¬ plc (fe j_1) k1 k4 ∨ ¬ plc (fe j_5) k3 k4)) (hF_20_0 : (xgn_20 : Int32) = 2) (h_20 : r_20 = (-1000010 - 2)) : xgn_20 = f_copy (abl fl) (abn fl fe) (nI j_1) k1 (nI j_5) k3 k4 xg := by
  first
  | with_reducible exact xc_0 (Or.inl (by assumption))
  | with_reducible exact xc_0 (Or.inr (by assumption))
  | with_reducible exact xj_0 (Or.inl (by assumption))
  | with_reducible exact xj_0 (Or.inr (by assumption))
  | with_reducible exact xc_1 (by assumption) (by assumption) (by assumption) (by assumption)
  | with_reducible exact xj_1 (by assumption) (by assumption) (by assumption)
  | with_reducible exact xc_2 (by assumption) (by assumption) (by assumption) (by assumption) (by assumption) (by assumption)
  | with_reducible exact xj_2 (by assumption) (by assumption) (by assumption)
  | with_reducible exact xc_3 (by assumption) (by assumption) (by assumption) (by assumption) (by assumption) (by assumption) (by assumption)
  | with_reducible exact xj_3 (by assumption) (by assumption) (by assumption) (by assumption) (by assumption)
  | with_reducible exact xc_4 (by assumption) (by assumption) (by assumption) (by assumption) (by assumption) (by assumption) (by assumption) (by assumption)
  | with_reducible exact xj_4 (by assumption) (by assumption) (by assumption) (by assumption) (by assumption) (by assumption) (by assumption) (by omega) (by omega) (by omega) (by assumption)
  | with_reducible exact (ar_copy_0 (Or.inl (by assumption))).symm
  | with_reducible exact (ar_copy_0 (Or.inr (by assumption))).symm
  | ((with_reducible refine (ar_copy_0 ?_).symm); grind)
  | (subst_vars; with_reducible exact (ar_copy_1 (by assumption) (by assumption) (by assumption)).symm)
  | (subst_vars; with_reducible exact (ar_copy_2 (by assumption) (by assumption) (by assumption) (by assumption) (by assumption)).symm)
  | (subst_vars; with_reducible exact (ar_copy_3 (by assumption) (by assumption) (by assumption) (by assumption) (by assumption) (by assumption)).symm)
  | (subst_vars; with_reducible exact (ar_copy_4 (by assumption) (by assumption) (by assumption) (by assumption) (by assumption) (by assumption) (by assumption)).symm)
theorem lf_X7_copy_18 {fl : Nat → Int32} {fe : Nat → Int32} {y0 : Nat} {y1 : Nat} {y2 : Nat} {y3 : Nat} {y4 : Nat} {y5 : Nat} {y6 : Nat} {y7 : Nat} {fi : Nat → Option Nat} {k1 : Int32} {k3 : Int32} {k4 : Int32} {j_1 : Nat} {j_5 : Nat} {xgn_20 : Int32} {r_20 : Int32} (hfi : fi 0 = some y0 ∧ fi 1 = some y1 ∧ fi 2 = some y2 ∧ fi 3 = some y3 ∧ fi 4 = some y4 ∧ fi 5 = some y5 ∧ fi 6 = some y6 ∧ fi 7 = some y7) (hfe : ∀ jq : Nat, jq < 8 → ∃ q : Nat, q ≤ 40 ∧ fe jq = nI q) (hj_1 : j_1 < 8) (hj_5 : j_5 < 8) (f_9_3_0 : ¬ fl j_1 = -1) (f_9_3_1 : ¬ fl j_5 = -1) (f_9_3_2 : fl j_1 = fl j_5) (f_9_3_3 : (¬ plc (fe j_1) k1 k4 ∨ ¬ plc (fe j_5) k3 k4)) (hF_20_0 : (xgn_20 : Int32) = 2) (h_20 : r_20 = (-1000010 - 2)) : r_20 = (ar_copy (abl fl) (abn fl fe) (nI j_1) k1 (nI j_5) k3 k4) := by
  first
  | with_reducible exact xc_0 (Or.inl (by assumption))
  | with_reducible exact xc_0 (Or.inr (by assumption))
  | with_reducible exact xj_0 (Or.inl (by assumption))
  | with_reducible exact xj_0 (Or.inr (by assumption))
  | with_reducible exact xc_1 (by assumption) (by assumption) (by assumption) (by assumption)
  | with_reducible exact xj_1 (by assumption) (by assumption) (by assumption)
  | with_reducible exact xc_2 (by assumption) (by assumption) (by assumption) (by assumption) (by assumption) (by assumption)
  | with_reducible exact xj_2 (by assumption) (by assumption) (by assumption)
  | with_reducible exact xc_3 (by assumption) (by assumption) (by assumption) (by assumption) (by assumption) (by assumption) (by assumption)
  | with_reducible exact xj_3 (by assumption) (by assumption) (by assumption) (by assumption) (by assumption)
  | with_reducible exact xc_4 (by assumption) (by assumption) (by assumption) (by assumption) (by assumption) (by assumption) (by assumption) (by assumption)
  | with_reducible exact xj_4 (by assumption) (by assumption) (by assumption) (by assumption) (by assumption) (by assumption) (by assumption) (by omega) (by omega) (by omega) (by assumption)
  | with_reducible exact (ar_copy_0 (Or.inl (by assumption))).symm
  | with_reducible exact (ar_copy_0 (Or.inr (by assumption))).symm
  | ((with_reducible refine (ar_copy_0 ?_).symm); grind)
  | (subst_vars; with_reducible exact (ar_copy_1 (by assumption) (by assumption) (by assumption)).symm)
  | (subst_vars; with_reducible exact (ar_copy_2 (by assumption) (by assumption) (by assumption) (by assumption) (by assumption)).symm)
  | (subst_vars; with_reducible exact (ar_copy_3 (by assumption) (by assumption) (by assumption) (by assumption) (by assumption) (by assumption)).symm)
  | (subst_vars; with_reducible exact (ar_copy_4 (by assumption) (by assumption) (by assumption) (by assumption) (by assumption) (by assumption) (by assumption)).symm)
set_option maxHeartbeats 4000000 in
set_option maxRecDepth 100000 in
theorem r_X7_copy (l : Launch) (dC : Nat → ClassId) (dI : Nat → Nat → Nat) (cI cZ cL cJ : ClassId) (sz : Nat) (x : Nat) (ro : Nat) (ta : Nat) (no : Nat) (ac : Nat) (im : Nat) (tr : Nat) (pl : Nat) (cs : Nat) (ak : Nat) (xf : Int32) (xg : Int32) (it : Nat) (la : Nat) (le : Nat) (fl : Nat → Int32) (fe : Nat → Int32) (y0 : Nat) (y1 : Nat) (y2 : Nat) (y3 : Nat) (y4 : Nat) (y5 : Nat) (y6 : Nat) (y7 : Nat) (f0 : Nat → Int32) (f1 : Nat → Int32) (f2 : Nat → Int32) (f3 : Nat → Int32) (f4 : Nat → Int32) (f5 : Nat → Int32) (f6 : Nat → Int32) (f7 : Nat → Int32) (fi : Nat → Option Nat) (k0 : Int32) (k1 : Int32) (k2 : Int32) (k3 : Int32) (k4 : Int32) (hfi : fi 0 = some y0 ∧ fi 1 = some y1 ∧ fi 2 = some y2 ∧ fi 3 = some y3 ∧ fi 4 = some y4 ∧ fi 5 = some y5 ∧ fi 6 = some y6 ∧ fi 7 = some y7) (hfe : ∀ jq : Nat, jq < 8 → ∃ q : Nat, q ≤ 40 ∧ fe jq = nI q) : Met l yX7_copy wsX7_copy ({ frames := 2, cells := 0, slots := 0, locals := 105 }) (va_Pc [.ref x, .int k0, .int k1, .int k2, .int k3, .int k4] (fun U => U.heap.size = sz ∧ va_P (dC, dI) vwCl [(xo_7_rrrrrrrrrii x ro ta no ac im tr pl cs ak xf xg), (xo_5_rrr ro it la le), (xI la cI 8 fl), (xI le cI 8 fe), (xJ it cJ 8 fi), (xI y0 cI 40 f0), (xI y1 cI 40 f1), (xI y2 cI 40 f2), (xI y3 cI 40 f3), (xI y4 cI 40 f4), (xI y5 cI 40 f5), (xI y6 cI 40 f6), (xI y7 cI 40 f7)] U.heap ∧ va_K (dC, dI) vwCl [(cI, .int), (cZ, .boolean), (cL, .object RX3), (cJ, .array .int)] U ∧ va_D (fun _ => True) [(xo_7_rrrrrrrrrii x ro ta no ac im tr pl cs ak xf xg), (xo_5_rrr ro it la le), (xI la cI 8 fl), (xI le cI 8 fe), (xJ it cJ 8 fi), (xI y0 cI 40 f0), (xI y1 cI 40 f1), (xI y2 cI 40 f2), (xI y3 cI 40 f3), (xI y4 cI 40 f4), (xI y5 cI 40 f5), (xI y6 cI 40 f6), (xI y7 cI 40 f7)])) (va_Qi (fun r (_ : Unit) => r = (ar_copy (abl fl) (abn fl fe) k0 k1 k2 k3 k4)) (fun (_ : Unit) t => ∃ (f0n : Nat → Int32) (f1n : Nat → Int32) (f2n : Nat → Int32) (f3n : Nat → Int32) (f4n : Nat → Int32) (f5n : Nat → Int32) (f6n : Nat → Int32) (f7n : Nat → Int32) (xgn : Int32), va_P (dC, dI) vwCl [(xo_7_rrrrrrrrrii x ro ta no ac im tr pl cs ak xf xgn), (xo_5_rrr ro it la le), (xI la cI 8 fl), (xI le cI 8 fe), (xJ it cJ 8 fi), (xI y0 cI 40 f0n), (xI y1 cI 40 f1n), (xI y2 cI 40 f2n), (xI y3 cI 40 f3n), (xI y4 cI 40 f4n), (xI y5 cI 40 f5n), (xI y6 cI 40 f6n), (xI y7 cI 40 f7n)] t.heap ∧ va_D (va_A [(xo_7_rrrrrrrrrii x ro ta no ac im tr pl cs ak xf xg), (xo_5_rrr ro it la le), (xI la cI 8 fl), (xI le cI 8 fe), (xJ it cJ 8 fi), (xI y0 cI 40 f0), (xI y1 cI 40 f1), (xI y2 cI 40 f2), (xI y3 cI 40 f3), (xI y4 cI 40 f4), (xI y5 cI 40 f5), (xI y6 cI 40 f6), (xI y7 cI 40 f7)] sz) [(xo_7_rrrrrrrrrii x ro ta no ac im tr pl cs ak xf xgn), (xo_5_rrr ro it la le), (xI la cI 8 fl), (xI le cI 8 fe), (xJ it cJ 8 fi), (xI y0 cI 40 f0n), (xI y1 cI 40 f1n), (xI y2 cI 40 f2n), (xI y3 cI 40 f3n), (xI y4 cI 40 f4n), (xI y5 cI 40 f5n), (xI y6 cI 40 f6n), (xI y7 cI 40 f7n)] ∧ (itX f0n f1n f2n f3n f4n f5n f6n f7n) = n_itc (abl fl) (abn fl fe) (itX f0 f1 f2 f3 f4 f5 f6 f7) k0 k1 k2 k3 k4 ∧ xgn = f_copy (abl fl) (abn fl fe) k0 k1 k2 k3 k4 xg) (va_A [(xo_7_rrrrrrrrrii x ro ta no ac im tr pl cs ak xf xg), (xo_5_rrr ro it la le), (xI la cI 8 fl), (xI le cI 8 fe), (xJ it cJ 8 fi), (xI y0 cI 40 f0), (xI y1 cI 40 f1), (xI y2 cI 40 f2), (xI y3 cI 40 f3), (xI y4 cI 40 f4), (xI y5 cI 40 f5), (xI y6 cI 40 f6), (xI y7 cI 40 f7)] sz)) 0 0 (va_A [(xo_7_rrrrrrrrrii x ro ta no ac im tr pl cs ak xf xg), (xo_5_rrr ro it la le), (xI la cI 8 fl), (xI le cI 8 fe), (xJ it cJ 8 fi), (xI y0 cI 40 f0), (xI y1 cI 40 f1), (xI y2 cI 40 f2), (xI y3 cI 40 f3), (xI y4 cI 40 f4), (xI y5 cI 40 f5), (xI y6 cI 40 f6), (xI y7 cI 40 f7)] sz) := by
  refine Met.ofW (cc := cX7_copy) (maxL := 7) (ret := (some .int)) (by decide) rfl ?_
  intro p e s m args below meth c s₁ B hml hv
  obtain ⟨rfl, hsz, hP, hK, hD0⟩ := hv
  have hx := B.exec
  have hb := B.bytes
  have hr := B.returns
  have hts := atoms_spec (ws := wsX7_copy) B.pre
  have hown : s.vm.findClass RX7 = some m.cls := findClass_of_methodNamed B.named
  have hlocks := B.notSynchronized
  subst hsz
  have hD := hD0.self (sz := s.heap.size)
  generalize hAe : va_A [(xo_7_rrrrrrrrrii x ro ta no ac im tr pl cs ak xf xg), (xo_5_rrr ro it la le), (xI la cI 8 fl), (xI le cI 8 fe), (xJ it cJ 8 fi), (xI y0 cI 40 f0), (xI y1 cI 40 f1), (xI y2 cI 40 f2), (xI y3 cI 40 f3), (xI y4 cI 40 f4), (xI y5 cI 40 f5), (xI y6 cI 40 f6), (xI y7 cI 40 f7)] s.heap.size = A at hD ⊢
  have hA : ∀ q : Nat, s.heap.size ≤ q → A q := fun q h => by rw [← hAe]; exact Or.inr h
  have hS : va_S A s.heap s.heap [] := va_S.rf
  have hP : va_P (dC, dI) vwCl [(xo_7_rrrrrrrrrii x ro ta no ac im tr pl cs ak xf xg), (xo_5_rrr ro it la le), (xI la cI 8 fl), (xI le cI 8 fe), (xJ it cJ 8 fi), (xI y0 cI 40 f0), (xI y1 cI 40 f1), (xI y2 cI 40 f2), (xI y3 cI 40 f3), (xI y4 cI 40 f4), (xI y5 cI 40 f5), (xI y6 cI 40 f6), (xI y7 cI 40 f7)] s.heap := hP
  have hl := lv_entry ([.ref x, .int k0, .int k1, .int k2, .int k3, .int k4]) (n := 7) (Nat.le_of_ble_eq_true rfl)
  rw [lg_entry_eq]
  generalize (lg_sl ([.ref x, .int k0, .int k1, .int k2, .int k3, .int k4]) ++ List.replicate (7 - (lg_sl ([.ref x, .int k0, .int k1, .int k2, .int k3, .int k4])).length) Slot.unset).toArray = ls at hl ⊢
  have hl : lv_has ls 7 [(0, .ref x), (1, .int k0), (2, .int k1), (3, .int k2), (4, .int k3), (5, .int k4)] := hl
  refine lv_iload_n hx hb dX7_copy_0 rfl (lv_at hl 1 rfl) ?_
  have hPc_1 := hP.sub (ws' := []) [] rfl
  refine vp_callSi (W.runS (As := [.int k0]) (rest := []) ⟨hx, hb, hml, hown, hts⟩ (r_X5_isRow l dC dI cI cZ cL cJ k0 ) (va_cwS 1 hts gX7_copy_X5_isRow rfl rfl rfl (by decide +kernel) ⟨Nat.le_of_ble_eq_true rfl, Nat.le_of_ble_eq_true rfl⟩) (psP hK hPc_1) rfl rfl hl.1 rfl (lv_room (Nat.le_of_ble_eq_true rfl)) dX7_copy_1 ⟨Nat.le_of_ble_eq_true rfl, Nat.le_of_ble_eq_true rfl⟩) (fun r_1 h_1 => ?_)
  rcases h_1 with ⟨h_1, f_1_0_0⟩ | ⟨h_1, f_1_1_0⟩
  · subst h_1
    refine lv_if_eq (tgt := 14) hx hb dX7_copy_4 (by decide) (fun _ => ?_) (fun c_ => absurd (by decide) c_)
    refine lv_ldc (own := RX7) (v := (-1000001)) hx hb hown (hts _ mx_X7_copy_1) dX7_copy_14 ?_
    have hX9 := cut2 (wc := [(xo_7_rrrrrrrrrii x ro ta no ac im tr pl cs ak xf xg), (xo_5_rrr ro it la le), (xI la cI 8 fl), (xI le cI 8 fe), (xJ it cJ 8 fi), (xI y0 cI 40 f0), (xI y1 cI 40 f1), (xI y2 cI 40 f2), (xI y3 cI 40 f3), (xI y4 cI 40 f4), (xI y5 cI 40 f5), (xI y6 cI 40 f6), (xI y7 cI 40 f7)]) hP hD [0, 1, 2, 3, 4, 5, 6, 7, 8, 9, 10, 11, 12] (by decide +kernel) rfl
    exact W.iret (v := (-1000001)) hx hb hr (fun t ht hW => ⟨⟨(-1000001), (), rfl, (lf_X7_copy_3 hfi hfe f_1_0_0), ⟨f0, f1, f2, f3, f4, f5, f6, f7, xg, va_Ht ht hX9.1, hX9.2, (lf_X7_copy_1 hfi hfe f_1_0_0), (lf_X7_copy_2 hfi hfe f_1_0_0)⟩⟩, hS.F ht⟩) hS.2.2 dX7_copy_16
  · subst h_1
    obtain ⟨j_1, hj_1, rfl⟩ := vp_in_of f_1_1_0 (by omega)
    refine lv_if_eq (tgt := 14) hx hb dX7_copy_4 (by decide) (fun c_ => absurd c_ (by decide)) (fun _ => ?_)
    refine lv_iload_n hx hb dX7_copy_7 rfl (lv_at hl 3 rfl) ?_
    have hPc_5 := hP.sub (ws' := []) [] rfl
    refine vp_callSi (W.runS (As := [.int k2]) (rest := []) ⟨hx, hb, hml, hown, hts⟩ (r_X5_isRow l dC dI cI cZ cL cJ k2 ) (va_cwS 1 hts gX7_copy_X5_isRow rfl rfl rfl (by decide +kernel) ⟨Nat.le_of_ble_eq_true rfl, Nat.le_of_ble_eq_true rfl⟩) (psP hK hPc_5) rfl rfl hl.1 rfl (lv_room (Nat.le_of_ble_eq_true rfl)) dX7_copy_8 ⟨Nat.le_of_ble_eq_true rfl, Nat.le_of_ble_eq_true rfl⟩) (fun r_5 h_5 => ?_)
    rcases h_5 with ⟨h_5, f_5_0_0⟩ | ⟨h_5, f_5_1_0⟩
    · subst h_5
      refine lv_if_ne (tgt := 17) hx hb dX7_copy_11 (by decide) (fun c_ => absurd (by decide) c_) (fun _ => ?_)
      refine lv_ldc (own := RX7) (v := (-1000001)) hx hb hown (hts _ mx_X7_copy_1) dX7_copy_14 ?_
      have hX9 := cut2 (wc := [(xo_7_rrrrrrrrrii x ro ta no ac im tr pl cs ak xf xg), (xo_5_rrr ro it la le), (xI la cI 8 fl), (xI le cI 8 fe), (xJ it cJ 8 fi), (xI y0 cI 40 f0), (xI y1 cI 40 f1), (xI y2 cI 40 f2), (xI y3 cI 40 f3), (xI y4 cI 40 f4), (xI y5 cI 40 f5), (xI y6 cI 40 f6), (xI y7 cI 40 f7)]) hP hD [0, 1, 2, 3, 4, 5, 6, 7, 8, 9, 10, 11, 12] (by decide +kernel) rfl
      exact W.iret (v := (-1000001)) hx hb hr (fun t ht hW => ⟨⟨(-1000001), (), rfl, (lf_X7_copy_6 hfi hfe hj_1 f_5_0_0), ⟨f0, f1, f2, f3, f4, f5, f6, f7, xg, va_Ht ht hX9.1, hX9.2, (lf_X7_copy_4 hfi hfe hj_1 f_5_0_0), (lf_X7_copy_5 hfi hfe hj_1 f_5_0_0)⟩⟩, hS.F ht⟩) hS.2.2 dX7_copy_16
    · subst h_5
      obtain ⟨j_5, hj_5, rfl⟩ := vp_in_of f_5_1_0 (by omega)
      refine lv_if_ne (tgt := 17) hx hb dX7_copy_11 (by decide) (fun _ => ?_) (fun c_ => absurd c_ (by decide))
      refine lv_aload_n hx hb dX7_copy_17 rfl (lv_at hl 0 rfl) ?_
      refine va_get (D := (dC, dI)) (ci := 7) (v := .ref ro) (C := RX7) (T := TX7) (N := 11) hx hb hts i_X7_copy_X7 hown hK hP 0 rfl rfl 0 (by decide) (hts _ mx_X7_copy_2) (fun _ h9 => h9) rfl dX7_copy_18 ?_
      refine lv_iload_n hx hb dX7_copy_21 rfl (lv_at hl 1 rfl) ?_
      refine lv_iload_n hx hb dX7_copy_22 rfl (lv_at hl 2 rfl) ?_
      refine lv_iload_n hx hb dX7_copy_23 rfl (lv_at hl 3 rfl) ?_
      refine lv_iload hx hb dX7_copy_24 (lv_at hl 4 rfl) ?_
      refine lv_iload hx hb dX7_copy_26 (lv_at hl 5 rfl) ?_
      have hPc_9 := hP.sub (ws' := [(xo_5_rrr ro it la le), (xI la cI 8 fl), (xI le cI 8 fe)]) [1, 2, 3] rfl
      refine vp_callSi (W.runV (As := [.int (nI j_1), .int k1, .int (nI j_5), .int k3, .int k4]) (rest := []) ⟨hx, hb, hml, hown, hts⟩ (r_X5_findingOfMove l dC dI cI cZ cL cJ ro it la le fl fe j_1 j_5 k1 k3 k4 (hfe) (by omega) (by omega)) (cwV 5 hts gX7_copy_X5_findingOfMove rfl rfl rfl (by decide +kernel) ⟨Nat.le_of_ble_eq_true rfl, Nat.le_of_ble_eq_true rfl⟩) (pvP 5 1 hK hP rfl rfl hPc_9) rfl rfl hl.1 rfl (lv_room (Nat.le_of_ble_eq_true rfl)) dX7_copy_28 ⟨Nat.le_of_ble_eq_true rfl, Nat.le_of_ble_eq_true rfl⟩) (fun r_9 h_9 => ?_)
      rcases h_9 with ⟨h_9, f_9_0_0⟩ | ⟨h_9, f_9_1_0, f_9_1_1, f_9_1_2⟩ | ⟨h_9, f_9_2_0, f_9_2_1, f_9_2_2, f_9_2_3, f_9_2_4, f_9_2_5, f_9_2_6⟩ | ⟨h_9, f_9_3_0, f_9_3_1, f_9_3_2, f_9_3_3⟩
      · subst h_9
        refine lv_istore (lv' := [(6, .int 1), (0, .ref x), (1, .int (nI j_1)), (2, .int k1), (3, .int (nI j_5)), (4, .int k3), (5, .int k4)]) hx hb dX7_copy_31 hl (by decide) rfl (fun ls hl => ?_)
        refine lv_iload hx hb dX7_copy_33 (lv_at hl 0 rfl) ?_
        refine lv_if_eq (tgt := 45) hx hb dX7_copy_35 (by decide) (fun c_ => absurd c_ (by decide)) (fun _ => ?_)
        refine lv_aload_n hx hb dX7_copy_38 rfl (lv_at hl 1 rfl) ?_
        refine lv_iload hx hb dX7_copy_39 (lv_at hl 0 rfl) ?_
        have hc_11 := cutW (wc := [(xo_7_rrrrrrrrrii x ro ta no ac im tr pl cs ak xf xg)]) hP hD hS hA [0] (by decide +kernel) rfl
        refine va_calli (va_runV (As := [.int 1]) (rest := []) ⟨hx, hb, hml, hown, hts⟩ (r_X7_found l dC dI cI cZ cL cJ s.heap.size x ro ta no ac im tr pl cs ak xf xg 1 ) (cwV 1 hts gX7_copy_X7_found rfl rfl rfl (by decide +kernel) ⟨Nat.le_of_ble_eq_true rfl, Nat.le_of_ble_eq_true rfl⟩) (pvW 7 0 hK hP rfl rfl hc_11) rfl rfl hl.1 rfl (lv_room (Nat.le_of_ble_eq_true rfl)) dX7_copy_41 ⟨Nat.le_of_ble_eq_true rfl, Nat.le_of_ble_eq_true rfl⟩) hS (fun q _ h => hc_11.2.2 q h) hc_11.2.2 (fun r_11 u_11 t_11 H1 locs ht hvm h_11 hB hz1 hk1 hS => ?_)
        refine xl_1_3 hB (fun xgn_11 hP1 hD1 hF_11_0 => ?_)
        clear hB
        rw [ht] at hP1
        obtain ⟨hP, hD⟩ := va_join (wr := [(xo_5_rrr ro it la le), (xI la cI 8 fl), (xI le cI 8 fe), (xJ it cJ 8 fi), (xI y0 cI 40 f0), (xI y1 cI 40 f1), (xI y2 cI 40 f2), (xI y3 cI 40 f3), (xI y4 cI 40 f4), (xI y5 cI 40 f5), (xI y6 cI 40 f6), (xI y7 cI 40 f7)]) (w1 := [(xo_7_rrrrrrrrrii x ro ta no ac im tr pl cs ak xf xgn_11)]) hP hD [0] [1, 2, 3, 4, 5, 6, 7, 8, 9, 10, 11, 12] rfl rfl (by decide +kernel) (by decide +kernel) hk1 hc_11.2.2 hP1 hD1
        generalize H1 = H at hP hS ⊢
        have hP : va_P (dC, dI) vwCl [(xo_5_rrr ro it la le), (xI la cI 8 fl), (xI le cI 8 fe), (xJ it cJ 8 fi), (xI y0 cI 40 f0), (xI y1 cI 40 f1), (xI y2 cI 40 f2), (xI y3 cI 40 f3), (xI y4 cI 40 f4), (xI y5 cI 40 f5), (xI y6 cI 40 f6), (xI y7 cI 40 f7), (xo_7_rrrrrrrrrii x ro ta no ac im tr pl cs ak xf xgn_11)] H := hP
        have hD := dto hP hD
        have hX9 := cut2 (wc := [(xo_7_rrrrrrrrrii x ro ta no ac im tr pl cs ak xf xgn_11), (xo_5_rrr ro it la le), (xI la cI 8 fl), (xI le cI 8 fe), (xJ it cJ 8 fi), (xI y0 cI 40 f0), (xI y1 cI 40 f1), (xI y2 cI 40 f2), (xI y3 cI 40 f3), (xI y4 cI 40 f4), (xI y5 cI 40 f5), (xI y6 cI 40 f6), (xI y7 cI 40 f7)]) hP hD [12, 0, 1, 2, 3, 4, 5, 6, 7, 8, 9, 10, 11] (by decide +kernel) rfl
        exact W.iret (v := r_11) hx hb hr (fun t ht hW => ⟨⟨r_11, (), rfl, (lf_X7_copy_9 hfi hfe hj_1 hj_5 f_9_0_0 hF_11_0 h_11), ⟨f0, f1, f2, f3, f4, f5, f6, f7, xgn_11, va_Ht ht hX9.1, hX9.2, (lf_X7_copy_7 hfi hfe hj_1 hj_5 f_9_0_0 hF_11_0 h_11), (lf_X7_copy_8 hfi hfe hj_1 hj_5 f_9_0_0 hF_11_0 h_11)⟩⟩, hS.F ht⟩) hS.2.2 dX7_copy_44
      · subst h_9
        refine lv_istore (lv' := [(6, .int 5), (0, .ref x), (1, .int (nI j_1)), (2, .int k1), (3, .int (nI j_5)), (4, .int k3), (5, .int k4)]) hx hb dX7_copy_31 hl (by decide) rfl (fun ls hl => ?_)
        refine lv_iload hx hb dX7_copy_33 (lv_at hl 0 rfl) ?_
        refine lv_if_eq (tgt := 45) hx hb dX7_copy_35 (by decide) (fun c_ => absurd c_ (by decide)) (fun _ => ?_)
        refine lv_aload_n hx hb dX7_copy_38 rfl (lv_at hl 1 rfl) ?_
        refine lv_iload hx hb dX7_copy_39 (lv_at hl 0 rfl) ?_
        have hc_13 := cutW (wc := [(xo_7_rrrrrrrrrii x ro ta no ac im tr pl cs ak xf xg)]) hP hD hS hA [0] (by decide +kernel) rfl
        refine va_calli (va_runV (As := [.int 5]) (rest := []) ⟨hx, hb, hml, hown, hts⟩ (r_X7_found l dC dI cI cZ cL cJ s.heap.size x ro ta no ac im tr pl cs ak xf xg 5 ) (cwV 1 hts gX7_copy_X7_found rfl rfl rfl (by decide +kernel) ⟨Nat.le_of_ble_eq_true rfl, Nat.le_of_ble_eq_true rfl⟩) (pvW 7 0 hK hP rfl rfl hc_13) rfl rfl hl.1 rfl (lv_room (Nat.le_of_ble_eq_true rfl)) dX7_copy_41 ⟨Nat.le_of_ble_eq_true rfl, Nat.le_of_ble_eq_true rfl⟩) hS (fun q _ h => hc_13.2.2 q h) hc_13.2.2 (fun r_13 u_13 t_13 H1 locs ht hvm h_13 hB hz1 hk1 hS => ?_)
        refine xl_1_3 hB (fun xgn_13 hP1 hD1 hF_13_0 => ?_)
        clear hB
        rw [ht] at hP1
        obtain ⟨hP, hD⟩ := va_join (wr := [(xo_5_rrr ro it la le), (xI la cI 8 fl), (xI le cI 8 fe), (xJ it cJ 8 fi), (xI y0 cI 40 f0), (xI y1 cI 40 f1), (xI y2 cI 40 f2), (xI y3 cI 40 f3), (xI y4 cI 40 f4), (xI y5 cI 40 f5), (xI y6 cI 40 f6), (xI y7 cI 40 f7)]) (w1 := [(xo_7_rrrrrrrrrii x ro ta no ac im tr pl cs ak xf xgn_13)]) hP hD [0] [1, 2, 3, 4, 5, 6, 7, 8, 9, 10, 11, 12] rfl rfl (by decide +kernel) (by decide +kernel) hk1 hc_13.2.2 hP1 hD1
        generalize H1 = H at hP hS ⊢
        have hP : va_P (dC, dI) vwCl [(xo_5_rrr ro it la le), (xI la cI 8 fl), (xI le cI 8 fe), (xJ it cJ 8 fi), (xI y0 cI 40 f0), (xI y1 cI 40 f1), (xI y2 cI 40 f2), (xI y3 cI 40 f3), (xI y4 cI 40 f4), (xI y5 cI 40 f5), (xI y6 cI 40 f6), (xI y7 cI 40 f7), (xo_7_rrrrrrrrrii x ro ta no ac im tr pl cs ak xf xgn_13)] H := hP
        have hD := dto hP hD
        have hX9 := cut2 (wc := [(xo_7_rrrrrrrrrii x ro ta no ac im tr pl cs ak xf xgn_13), (xo_5_rrr ro it la le), (xI la cI 8 fl), (xI le cI 8 fe), (xJ it cJ 8 fi), (xI y0 cI 40 f0), (xI y1 cI 40 f1), (xI y2 cI 40 f2), (xI y3 cI 40 f3), (xI y4 cI 40 f4), (xI y5 cI 40 f5), (xI y6 cI 40 f6), (xI y7 cI 40 f7)]) hP hD [12, 0, 1, 2, 3, 4, 5, 6, 7, 8, 9, 10, 11] (by decide +kernel) rfl
        exact W.iret (v := r_13) hx hb hr (fun t ht hW => ⟨⟨r_13, (), rfl, (lf_X7_copy_12 hfi hfe hj_1 hj_5 f_9_1_0 f_9_1_1 f_9_1_2 hF_13_0 h_13), ⟨f0, f1, f2, f3, f4, f5, f6, f7, xgn_13, va_Ht ht hX9.1, hX9.2, (lf_X7_copy_10 hfi hfe hj_1 hj_5 f_9_1_0 f_9_1_1 f_9_1_2 hF_13_0 h_13), (lf_X7_copy_11 hfi hfe hj_1 hj_5 f_9_1_0 f_9_1_1 f_9_1_2 hF_13_0 h_13)⟩⟩, hS.F ht⟩) hS.2.2 dX7_copy_44
      · subst h_9
        obtain ⟨pa_14, pb_14, ea_14, eb_14, hab_14⟩ := f_9_2_5
        subst ea_14
        subst eb_14
        obtain ⟨pa_15, pb_15, ea_15, eb_15, hab_15⟩ := f_9_2_6
        subst ea_15
        have eb_15 : pb_14 = pb_15 := nI_inj eb_15 (by omega) (by omega)
        refine lv_istore (lv' := [(6, .int 0), (0, .ref x), (1, .int (nI j_1)), (2, .int (nI pa_14)), (3, .int (nI j_5)), (4, .int (nI pa_15)), (5, .int (nI pb_14))]) hx hb dX7_copy_31 hl (by decide) rfl (fun ls hl => ?_)
        refine lv_iload hx hb dX7_copy_33 (lv_at hl 0 rfl) ?_
        refine lv_if_eq (tgt := 45) hx hb dX7_copy_35 (by decide) (fun _ => ?_) (fun c_ => absurd (by decide) c_)
        refine lv_aload_n hx hb dX7_copy_45 rfl (lv_at hl 1 rfl) ?_
        refine va_get (D := (dC, dI)) (ci := 7) (v := .ref ro) (C := RX7) (T := TX7) (N := 11) hx hb hts i_X7_copy_X7 hown hK hP 0 rfl rfl 0 (by decide) (hts _ mx_X7_copy_2) (fun _ h9 => h9) rfl dX7_copy_46 ?_
        refine lv_iload_n hx hb dX7_copy_49 rfl (lv_at hl 2 rfl) ?_
        refine lv_iload_n hx hb dX7_copy_50 rfl (lv_at hl 3 rfl) ?_
        refine lv_iload_n hx hb dX7_copy_51 rfl (lv_at hl 4 rfl) ?_
        refine lv_iload hx hb dX7_copy_52 (lv_at hl 5 rfl) ?_
        refine lv_iload hx hb dX7_copy_54 (lv_at hl 6 rfl) ?_
        have hc_17 := cutW (wc := [(xo_5_rrr ro it la le), (xJ it cJ 8 fi), (xI y0 cI 40 f0), (xI y1 cI 40 f1), (xI y2 cI 40 f2), (xI y3 cI 40 f3), (xI y4 cI 40 f4), (xI y5 cI 40 f5), (xI y6 cI 40 f6), (xI y7 cI 40 f7)]) hP hD hS hA [1, 4, 5, 6, 7, 8, 9, 10, 11, 12] (by decide +kernel) rfl
        refine va_callv (va_runV (As := [.int (nI j_1), .int (nI pa_14), .int (nI j_5), .int (nI pa_15), .int (nI pb_14)]) (rest := []) ⟨hx, hb, hml, hown, hts⟩ (r_X5_move l dC dI cI cZ cL cJ s.heap.size ro it la le fl fe y0 y1 y2 y3 y4 y5 y6 y7 f0 f1 f2 f3 f4 f5 f6 f7 fi j_1 pa_14 j_5 pa_15 pb_14 (hfi) (by omega) (by omega) (by omega) (by omega)) (cwV 5 hts gX7_copy_X5_move rfl rfl rfl (by decide +kernel) ⟨Nat.le_of_ble_eq_true rfl, Nat.le_of_ble_eq_true rfl⟩) (pvW 5 1 hK hP rfl rfl hc_17) rfl rfl hl.1 rfl (lv_room (Nat.le_of_ble_eq_true rfl)) dX7_copy_56 ⟨Nat.le_of_ble_eq_true rfl, Nat.le_of_ble_eq_true rfl⟩) hS (fun q _ h => hc_17.2.2 q h) hc_17.2.2 (fun u_17 t_17 H1 locs ht hvm h_17 hB hz1 hk1 hS => ?_)
        refine xl_8_3 hB (fun f0n_17 f1n_17 f2n_17 f3n_17 f4n_17 f5n_17 f6n_17 f7n_17 hP1 hD1 hF_17_0 => ?_)
        clear hB
        rw [ht] at hP1
        obtain ⟨hP, hD⟩ := va_join (wr := [(xo_7_rrrrrrrrrii x ro ta no ac im tr pl cs ak xf xg), (xI la cI 8 fl), (xI le cI 8 fe)]) (w1 := [(xo_5_rrr ro it la le), (xJ it cJ 8 fi), (xI y0 cI 40 f0n_17), (xI y1 cI 40 f1n_17), (xI y2 cI 40 f2n_17), (xI y3 cI 40 f3n_17), (xI y4 cI 40 f4n_17), (xI y5 cI 40 f5n_17), (xI y6 cI 40 f6n_17), (xI y7 cI 40 f7n_17)]) hP hD [1, 4, 5, 6, 7, 8, 9, 10, 11, 12] [0, 2, 3] rfl rfl (by decide +kernel) (by decide +kernel) hk1 hc_17.2.2 hP1 hD1
        generalize H1 = H at hP hS ⊢
        have hP : va_P (dC, dI) vwCl [(xo_7_rrrrrrrrrii x ro ta no ac im tr pl cs ak xf xg), (xI la cI 8 fl), (xI le cI 8 fe), (xo_5_rrr ro it la le), (xJ it cJ 8 fi), (xI y0 cI 40 f0n_17), (xI y1 cI 40 f1n_17), (xI y2 cI 40 f2n_17), (xI y3 cI 40 f3n_17), (xI y4 cI 40 f4n_17), (xI y5 cI 40 f5n_17), (xI y6 cI 40 f6n_17), (xI y7 cI 40 f7n_17)] H := hP
        have hD := dto hP hD
        refine lv_aload_n hx hb dX7_copy_59 rfl (lv_at hl 1 rfl) ?_
        refine lv_iload hx hb dX7_copy_60 (lv_at hl 6 rfl) ?_
        have hc_18 := cutW (wc := [(xo_7_rrrrrrrrrii x ro ta no ac im tr pl cs ak xf xg)]) hP hD hS hA [0] (by decide +kernel) rfl
        refine va_calli (va_runV (As := [.int (nI pb_14)]) (rest := []) ⟨hx, hb, hml, hown, hts⟩ (r_X7_foundNothing l dC dI cI cZ cL cJ H.size x ro ta no ac im tr pl cs ak xf xg (nI pb_14) ) (cwV 1 hts gX7_copy_X7_foundNothing rfl rfl rfl (by decide +kernel) ⟨Nat.le_of_ble_eq_true rfl, Nat.le_of_ble_eq_true rfl⟩) (pvW 7 0 hK hP rfl rfl hc_18) rfl rfl hl.1 rfl (lv_room (Nat.le_of_ble_eq_true rfl)) dX7_copy_62 ⟨Nat.le_of_ble_eq_true rfl, Nat.le_of_ble_eq_true rfl⟩) hS (fun q _ h => hc_18.2.2 q h) hc_18.2.2 (fun r_18 u_18 t_18 H1 locs ht hvm h_18 hB hz1 hk1 hS => ?_)
        refine xl_1_3 hB (fun xgn_18 hP1 hD1 hF_18_0 => ?_)
        clear hB
        rw [ht] at hP1
        obtain ⟨hP, hD⟩ := va_join (wr := [(xI la cI 8 fl), (xI le cI 8 fe), (xo_5_rrr ro it la le), (xJ it cJ 8 fi), (xI y0 cI 40 f0n_17), (xI y1 cI 40 f1n_17), (xI y2 cI 40 f2n_17), (xI y3 cI 40 f3n_17), (xI y4 cI 40 f4n_17), (xI y5 cI 40 f5n_17), (xI y6 cI 40 f6n_17), (xI y7 cI 40 f7n_17)]) (w1 := [(xo_7_rrrrrrrrrii x ro ta no ac im tr pl cs ak xf xgn_18)]) hP hD [0] [1, 2, 3, 4, 5, 6, 7, 8, 9, 10, 11, 12] rfl rfl (by decide +kernel) (by decide +kernel) hk1 hc_18.2.2 hP1 hD1
        generalize H1 = H at hP hS ⊢
        have hP : va_P (dC, dI) vwCl [(xI la cI 8 fl), (xI le cI 8 fe), (xo_5_rrr ro it la le), (xJ it cJ 8 fi), (xI y0 cI 40 f0n_17), (xI y1 cI 40 f1n_17), (xI y2 cI 40 f2n_17), (xI y3 cI 40 f3n_17), (xI y4 cI 40 f4n_17), (xI y5 cI 40 f5n_17), (xI y6 cI 40 f6n_17), (xI y7 cI 40 f7n_17), (xo_7_rrrrrrrrrii x ro ta no ac im tr pl cs ak xf xgn_18)] H := hP
        have hD := dto hP hD
        have hX9 := cut2 (wc := [(xo_7_rrrrrrrrrii x ro ta no ac im tr pl cs ak xf xgn_18), (xo_5_rrr ro it la le), (xI la cI 8 fl), (xI le cI 8 fe), (xJ it cJ 8 fi), (xI y0 cI 40 f0n_17), (xI y1 cI 40 f1n_17), (xI y2 cI 40 f2n_17), (xI y3 cI 40 f3n_17), (xI y4 cI 40 f4n_17), (xI y5 cI 40 f5n_17), (xI y6 cI 40 f6n_17), (xI y7 cI 40 f7n_17)]) hP hD [12, 2, 0, 1, 3, 4, 5, 6, 7, 8, 9, 10, 11] (by decide +kernel) rfl
        exact W.iret (v := r_18) hx hb hr (fun t ht hW => ⟨⟨r_18, (), rfl, (lf_X7_copy_15 hfi hfe hj_1 hj_5 f_9_2_0 f_9_2_1 f_9_2_2 f_9_2_3 f_9_2_4 hab_14 hab_15 eb_15 hF_17_0 hF_18_0 h_18), ⟨f0n_17, f1n_17, f2n_17, f3n_17, f4n_17, f5n_17, f6n_17, f7n_17, xgn_18, va_Ht ht hX9.1, hX9.2, (lf_X7_copy_13 hfi hfe hj_1 hj_5 f_9_2_0 f_9_2_1 f_9_2_2 f_9_2_3 f_9_2_4 hab_14 hab_15 eb_15 hF_17_0 hF_18_0 h_18), (lf_X7_copy_14 hfi hfe hj_1 hj_5 f_9_2_0 f_9_2_1 f_9_2_2 f_9_2_3 f_9_2_4 hab_14 hab_15 eb_15 hF_17_0 hF_18_0 h_18)⟩⟩, hS.F ht⟩) hS.2.2 dX7_copy_65
      · subst h_9
        refine lv_istore (lv' := [(6, .int 2), (0, .ref x), (1, .int (nI j_1)), (2, .int k1), (3, .int (nI j_5)), (4, .int k3), (5, .int k4)]) hx hb dX7_copy_31 hl (by decide) rfl (fun ls hl => ?_)
        refine lv_iload hx hb dX7_copy_33 (lv_at hl 0 rfl) ?_
        refine lv_if_eq (tgt := 45) hx hb dX7_copy_35 (by decide) (fun c_ => absurd c_ (by decide)) (fun _ => ?_)
        refine lv_aload_n hx hb dX7_copy_38 rfl (lv_at hl 1 rfl) ?_
        refine lv_iload hx hb dX7_copy_39 (lv_at hl 0 rfl) ?_
        have hc_20 := cutW (wc := [(xo_7_rrrrrrrrrii x ro ta no ac im tr pl cs ak xf xg)]) hP hD hS hA [0] (by decide +kernel) rfl
        refine va_calli (va_runV (As := [.int 2]) (rest := []) ⟨hx, hb, hml, hown, hts⟩ (r_X7_found l dC dI cI cZ cL cJ s.heap.size x ro ta no ac im tr pl cs ak xf xg 2 ) (cwV 1 hts gX7_copy_X7_found rfl rfl rfl (by decide +kernel) ⟨Nat.le_of_ble_eq_true rfl, Nat.le_of_ble_eq_true rfl⟩) (pvW 7 0 hK hP rfl rfl hc_20) rfl rfl hl.1 rfl (lv_room (Nat.le_of_ble_eq_true rfl)) dX7_copy_41 ⟨Nat.le_of_ble_eq_true rfl, Nat.le_of_ble_eq_true rfl⟩) hS (fun q _ h => hc_20.2.2 q h) hc_20.2.2 (fun r_20 u_20 t_20 H1 locs ht hvm h_20 hB hz1 hk1 hS => ?_)
        refine xl_1_3 hB (fun xgn_20 hP1 hD1 hF_20_0 => ?_)
        clear hB
        rw [ht] at hP1
        obtain ⟨hP, hD⟩ := va_join (wr := [(xo_5_rrr ro it la le), (xI la cI 8 fl), (xI le cI 8 fe), (xJ it cJ 8 fi), (xI y0 cI 40 f0), (xI y1 cI 40 f1), (xI y2 cI 40 f2), (xI y3 cI 40 f3), (xI y4 cI 40 f4), (xI y5 cI 40 f5), (xI y6 cI 40 f6), (xI y7 cI 40 f7)]) (w1 := [(xo_7_rrrrrrrrrii x ro ta no ac im tr pl cs ak xf xgn_20)]) hP hD [0] [1, 2, 3, 4, 5, 6, 7, 8, 9, 10, 11, 12] rfl rfl (by decide +kernel) (by decide +kernel) hk1 hc_20.2.2 hP1 hD1
        generalize H1 = H at hP hS ⊢
        have hP : va_P (dC, dI) vwCl [(xo_5_rrr ro it la le), (xI la cI 8 fl), (xI le cI 8 fe), (xJ it cJ 8 fi), (xI y0 cI 40 f0), (xI y1 cI 40 f1), (xI y2 cI 40 f2), (xI y3 cI 40 f3), (xI y4 cI 40 f4), (xI y5 cI 40 f5), (xI y6 cI 40 f6), (xI y7 cI 40 f7), (xo_7_rrrrrrrrrii x ro ta no ac im tr pl cs ak xf xgn_20)] H := hP
        have hD := dto hP hD
        have hX9 := cut2 (wc := [(xo_7_rrrrrrrrrii x ro ta no ac im tr pl cs ak xf xgn_20), (xo_5_rrr ro it la le), (xI la cI 8 fl), (xI le cI 8 fe), (xJ it cJ 8 fi), (xI y0 cI 40 f0), (xI y1 cI 40 f1), (xI y2 cI 40 f2), (xI y3 cI 40 f3), (xI y4 cI 40 f4), (xI y5 cI 40 f5), (xI y6 cI 40 f6), (xI y7 cI 40 f7)]) hP hD [12, 0, 1, 2, 3, 4, 5, 6, 7, 8, 9, 10, 11] (by decide +kernel) rfl
        exact W.iret (v := r_20) hx hb hr (fun t ht hW => ⟨⟨r_20, (), rfl, (lf_X7_copy_18 hfi hfe hj_1 hj_5 f_9_3_0 f_9_3_1 f_9_3_2 f_9_3_3 hF_20_0 h_20), ⟨f0, f1, f2, f3, f4, f5, f6, f7, xgn_20, va_Ht ht hX9.1, hX9.2, (lf_X7_copy_16 hfi hfe hj_1 hj_5 f_9_3_0 f_9_3_1 f_9_3_2 f_9_3_3 hF_20_0 h_20), (lf_X7_copy_17 hfi hfe hj_1 hj_5 f_9_3_0 f_9_3_1 f_9_3_2 f_9_3_3 hF_20_0 h_20)⟩⟩, hS.F ht⟩) hS.2.2 dX7_copy_44
theorem lf_X7_drop_1 {fl : Nat → Int32} {fe : Nat → Int32} {y0 : Nat} {y1 : Nat} {y2 : Nat} {y3 : Nat} {y4 : Nat} {y5 : Nat} {y6 : Nat} {y7 : Nat} {fi : Nat → Option Nat} {k0 : Int32} (hfi : fi 0 = some y0 ∧ fi 1 = some y1 ∧ fi 2 = some y2 ∧ fi 3 = some y3 ∧ fi 4 = some y4 ∧ fi 5 = some y5 ∧ fi 6 = some y6 ∧ fi 7 = some y7) (hfe : ∀ jq : Nat, jq < 8 → ∃ q : Nat, q ≤ 40 ∧ fe jq = nI q) (f_1_0_0 : (k0 < 0 ∨ 8 ≤ k0)) : abl fl = sd_l (abl fl) k0 := by
  first
  | with_reducible exact xd_0 (by assumption)
  | with_reducible exact xd_1 (by assumption) (by assumption) (by assumption)
  | with_reducible exact xd_2 (by assumption) (by assumption) (by assumption)
  | with_reducible exact (ar_drop_0 (by assumption)).symm
  | (subst_vars; with_reducible exact (ar_drop_1 (by assumption) (by assumption)).symm)
  | (subst_vars; with_reducible exact (ar_drop_2 (by assumption) (by assumption)).symm)
  | with_reducible exact (sd_l_0 (by assumption)).symm
  | with_reducible exact (sd_n_0 (by assumption)).symm
  | (subst_vars; with_reducible exact sd_l_1 (by assumption))
  | (subst_vars; with_reducible exact sd_n_1 (by assumption))
  | (subst_vars; with_reducible exact sd_l_2 (by assumption) (by assumption))
  | (subst_vars; with_reducible exact sd_n_2 (by assumption) (by assumption))
theorem lf_X7_drop_2 {fl : Nat → Int32} {fe : Nat → Int32} {y0 : Nat} {y1 : Nat} {y2 : Nat} {y3 : Nat} {y4 : Nat} {y5 : Nat} {y6 : Nat} {y7 : Nat} {fi : Nat → Option Nat} {k0 : Int32} (hfi : fi 0 = some y0 ∧ fi 1 = some y1 ∧ fi 2 = some y2 ∧ fi 3 = some y3 ∧ fi 4 = some y4 ∧ fi 5 = some y5 ∧ fi 6 = some y6 ∧ fi 7 = some y7) (hfe : ∀ jq : Nat, jq < 8 → ∃ q : Nat, q ≤ 40 ∧ fe jq = nI q) (f_1_0_0 : (k0 < 0 ∨ 8 ≤ k0)) : abn fl fe = sd_n (abn fl fe) k0 := by
  first
  | with_reducible exact xd_0 (by assumption)
  | with_reducible exact xd_1 (by assumption) (by assumption) (by assumption)
  | with_reducible exact xd_2 (by assumption) (by assumption) (by assumption)
  | with_reducible exact (ar_drop_0 (by assumption)).symm
  | (subst_vars; with_reducible exact (ar_drop_1 (by assumption) (by assumption)).symm)
  | (subst_vars; with_reducible exact (ar_drop_2 (by assumption) (by assumption)).symm)
  | with_reducible exact (sd_l_0 (by assumption)).symm
  | with_reducible exact (sd_n_0 (by assumption)).symm
  | (subst_vars; with_reducible exact sd_l_1 (by assumption))
  | (subst_vars; with_reducible exact sd_n_1 (by assumption))
  | (subst_vars; with_reducible exact sd_l_2 (by assumption) (by assumption))
  | (subst_vars; with_reducible exact sd_n_2 (by assumption) (by assumption))
theorem lf_X7_drop_3 {xg : Int32} {fl : Nat → Int32} {fe : Nat → Int32} {y0 : Nat} {y1 : Nat} {y2 : Nat} {y3 : Nat} {y4 : Nat} {y5 : Nat} {y6 : Nat} {y7 : Nat} {fi : Nat → Option Nat} {k0 : Int32} (hfi : fi 0 = some y0 ∧ fi 1 = some y1 ∧ fi 2 = some y2 ∧ fi 3 = some y3 ∧ fi 4 = some y4 ∧ fi 5 = some y5 ∧ fi 6 = some y6 ∧ fi 7 = some y7) (hfe : ∀ jq : Nat, jq < 8 → ∃ q : Nat, q ≤ 40 ∧ fe jq = nI q) (f_1_0_0 : (k0 < 0 ∨ 8 ≤ k0)) : xg = f_drop (abl fl) k0 xg := by
  first
  | with_reducible exact xd_0 (by assumption)
  | with_reducible exact xd_1 (by assumption) (by assumption) (by assumption)
  | with_reducible exact xd_2 (by assumption) (by assumption) (by assumption)
  | with_reducible exact (ar_drop_0 (by assumption)).symm
  | (subst_vars; with_reducible exact (ar_drop_1 (by assumption) (by assumption)).symm)
  | (subst_vars; with_reducible exact (ar_drop_2 (by assumption) (by assumption)).symm)
  | with_reducible exact (sd_l_0 (by assumption)).symm
  | with_reducible exact (sd_n_0 (by assumption)).symm
  | (subst_vars; with_reducible exact sd_l_1 (by assumption))
  | (subst_vars; with_reducible exact sd_n_1 (by assumption))
  | (subst_vars; with_reducible exact sd_l_2 (by assumption) (by assumption))
  | (subst_vars; with_reducible exact sd_n_2 (by assumption) (by assumption))
theorem lf_X7_drop_4 {fl : Nat → Int32} {fe : Nat → Int32} {y0 : Nat} {y1 : Nat} {y2 : Nat} {y3 : Nat} {y4 : Nat} {y5 : Nat} {y6 : Nat} {y7 : Nat} {fi : Nat → Option Nat} {k0 : Int32} (hfi : fi 0 = some y0 ∧ fi 1 = some y1 ∧ fi 2 = some y2 ∧ fi 3 = some y3 ∧ fi 4 = some y4 ∧ fi 5 = some y5 ∧ fi 6 = some y6 ∧ fi 7 = some y7) (hfe : ∀ jq : Nat, jq < 8 → ∃ q : Nat, q ≤ 40 ∧ fe jq = nI q) (f_1_0_0 : (k0 < 0 ∨ 8 ≤ k0)) : (-1000001) = (ar_drop (abl fl) (abn fl fe) k0) := by
  first
  | with_reducible exact xd_0 (by assumption)
  | with_reducible exact xd_1 (by assumption) (by assumption) (by assumption)
  | with_reducible exact xd_2 (by assumption) (by assumption) (by assumption)
  | with_reducible exact (ar_drop_0 (by assumption)).symm
  | (subst_vars; with_reducible exact (ar_drop_1 (by assumption) (by assumption)).symm)
  | (subst_vars; with_reducible exact (ar_drop_2 (by assumption) (by assumption)).symm)
  | with_reducible exact (sd_l_0 (by assumption)).symm
  | with_reducible exact (sd_n_0 (by assumption)).symm
  | (subst_vars; with_reducible exact sd_l_1 (by assumption))
  | (subst_vars; with_reducible exact sd_n_1 (by assumption))
  | (subst_vars; with_reducible exact sd_l_2 (by assumption) (by assumption))
  | (subst_vars; with_reducible exact sd_n_2 (by assumption) (by assumption))
theorem lf_X7_drop_5 {fl : Nat → Int32} {fe : Nat → Int32} {y0 : Nat} {y1 : Nat} {y2 : Nat} {y3 : Nat} {y4 : Nat} {y5 : Nat} {y6 : Nat} {y7 : Nat} {fi : Nat → Option Nat} {j_1 : Nat} {fln_7 : Nat → Int32} {r_7 : Int32} {xgn_8 : Int32} {r_8 : Int32} (hfi : fi 0 = some y0 ∧ fi 1 = some y1 ∧ fi 2 = some y2 ∧ fi 3 = some y3 ∧ fi 4 = some y4 ∧ fi 5 = some y5 ∧ fi 6 = some y6 ∧ fi 7 = some y7) (hfe : ∀ jq : Nat, jq < 8 → ∃ q : Nat, q ≤ 40 ∧ fe jq = nI q) (hj_1 : j_1 < 8) (f_5_0_0 : ¬ fl j_1 = -1) (hF_7_0 : fln_7 = upd fl j_1 (-1)) (h_7 : r_7 = (fe j_1)) (hF_8_0 : (xgn_8 : Int32) = 0) (h_8 : r_8 = r_7) : abl fln_7 = sd_l (abl fl) (nI j_1) := by
  first
  | with_reducible exact xd_0 (by assumption)
  | with_reducible exact xd_1 (by assumption) (by assumption) (by assumption)
  | with_reducible exact xd_2 (by assumption) (by assumption) (by assumption)
  | with_reducible exact (ar_drop_0 (by assumption)).symm
  | (subst_vars; with_reducible exact (ar_drop_1 (by assumption) (by assumption)).symm)
  | (subst_vars; with_reducible exact (ar_drop_2 (by assumption) (by assumption)).symm)
  | with_reducible exact (sd_l_0 (by assumption)).symm
  | with_reducible exact (sd_n_0 (by assumption)).symm
  | (subst_vars; with_reducible exact sd_l_1 (by assumption))
  | (subst_vars; with_reducible exact sd_n_1 (by assumption))
  | (subst_vars; with_reducible exact sd_l_2 (by assumption) (by assumption))
  | (subst_vars; with_reducible exact sd_n_2 (by assumption) (by assumption))
theorem lf_X7_drop_6 {fl : Nat → Int32} {fe : Nat → Int32} {y0 : Nat} {y1 : Nat} {y2 : Nat} {y3 : Nat} {y4 : Nat} {y5 : Nat} {y6 : Nat} {y7 : Nat} {fi : Nat → Option Nat} {j_1 : Nat} {fln_7 : Nat → Int32} {r_7 : Int32} {xgn_8 : Int32} {r_8 : Int32} (hfi : fi 0 = some y0 ∧ fi 1 = some y1 ∧ fi 2 = some y2 ∧ fi 3 = some y3 ∧ fi 4 = some y4 ∧ fi 5 = some y5 ∧ fi 6 = some y6 ∧ fi 7 = some y7) (hfe : ∀ jq : Nat, jq < 8 → ∃ q : Nat, q ≤ 40 ∧ fe jq = nI q) (hj_1 : j_1 < 8) (f_5_0_0 : ¬ fl j_1 = -1) (hF_7_0 : fln_7 = upd fl j_1 (-1)) (h_7 : r_7 = (fe j_1)) (hF_8_0 : (xgn_8 : Int32) = 0) (h_8 : r_8 = r_7) : abn fln_7 fe = sd_n (abn fl fe) (nI j_1) := by
  first
  | with_reducible exact xd_0 (by assumption)
  | with_reducible exact xd_1 (by assumption) (by assumption) (by assumption)
  | with_reducible exact xd_2 (by assumption) (by assumption) (by assumption)
  | with_reducible exact (ar_drop_0 (by assumption)).symm
  | (subst_vars; with_reducible exact (ar_drop_1 (by assumption) (by assumption)).symm)
  | (subst_vars; with_reducible exact (ar_drop_2 (by assumption) (by assumption)).symm)
  | with_reducible exact (sd_l_0 (by assumption)).symm
  | with_reducible exact (sd_n_0 (by assumption)).symm
  | (subst_vars; with_reducible exact sd_l_1 (by assumption))
  | (subst_vars; with_reducible exact sd_n_1 (by assumption))
  | (subst_vars; with_reducible exact sd_l_2 (by assumption) (by assumption))
  | (subst_vars; with_reducible exact sd_n_2 (by assumption) (by assumption))
theorem lf_X7_drop_7 {xg : Int32} {fl : Nat → Int32} {fe : Nat → Int32} {y0 : Nat} {y1 : Nat} {y2 : Nat} {y3 : Nat} {y4 : Nat} {y5 : Nat} {y6 : Nat} {y7 : Nat} {fi : Nat → Option Nat} {j_1 : Nat} {fln_7 : Nat → Int32} {r_7 : Int32} {xgn_8 : Int32} {r_8 : Int32} (hfi : fi 0 = some y0 ∧ fi 1 = some y1 ∧ fi 2 = some y2 ∧ fi 3 = some y3 ∧ fi 4 = some y4 ∧ fi 5 = some y5 ∧ fi 6 = some y6 ∧ fi 7 = some y7) (hfe : ∀ jq : Nat, jq < 8 → ∃ q : Nat, q ≤ 40 ∧ fe jq = nI q) (hj_1 : j_1 < 8) (f_5_0_0 : ¬ fl j_1 = -1) (hF_7_0 : fln_7 = upd fl j_1 (-1)) (h_7 : r_7 = (fe j_1)) (hF_8_0 : (xgn_8 : Int32) = 0) (h_8 : r_8 = r_7) : xgn_8 = f_drop (abl fl) (nI j_1) xg := by
  first
  | with_reducible exact xd_0 (by assumption)
  | with_reducible exact xd_1 (by assumption) (by assumption) (by assumption)
  | with_reducible exact xd_2 (by assumption) (by assumption) (by assumption)
  | with_reducible exact (ar_drop_0 (by assumption)).symm
  | (subst_vars; with_reducible exact (ar_drop_1 (by assumption) (by assumption)).symm)
  | (subst_vars; with_reducible exact (ar_drop_2 (by assumption) (by assumption)).symm)
  | with_reducible exact (sd_l_0 (by assumption)).symm
  | with_reducible exact (sd_n_0 (by assumption)).symm
  | (subst_vars; with_reducible exact sd_l_1 (by assumption))
  | (subst_vars; with_reducible exact sd_n_1 (by assumption))
  | (subst_vars; with_reducible exact sd_l_2 (by assumption) (by assumption))
  | (subst_vars; with_reducible exact sd_n_2 (by assumption) (by assumption))
theorem lf_X7_drop_8 {fl : Nat → Int32} {fe : Nat → Int32} {y0 : Nat} {y1 : Nat} {y2 : Nat} {y3 : Nat} {y4 : Nat} {y5 : Nat} {y6 : Nat} {y7 : Nat} {fi : Nat → Option Nat} {j_1 : Nat} {fln_7 : Nat → Int32} {r_7 : Int32} {xgn_8 : Int32} {r_8 : Int32} (hfi : fi 0 = some y0 ∧ fi 1 = some y1 ∧ fi 2 = some y2 ∧ fi 3 = some y3 ∧ fi 4 = some y4 ∧ fi 5 = some y5 ∧ fi 6 = some y6 ∧ fi 7 = some y7) (hfe : ∀ jq : Nat, jq < 8 → ∃ q : Nat, q ≤ 40 ∧ fe jq = nI q) (hj_1 : j_1 < 8) (f_5_0_0 : ¬ fl j_1 = -1) (hF_7_0 : fln_7 = upd fl j_1 (-1)) (h_7 : r_7 = (fe j_1)) (hF_8_0 : (xgn_8 : Int32) = 0) (h_8 : r_8 = r_7) : r_8 = (ar_drop (abl fl) (abn fl fe) (nI j_1)) := by
  first
  | with_reducible exact xd_0 (by assumption)
  | with_reducible exact xd_1 (by assumption) (by assumption) (by assumption)
  | with_reducible exact xd_2 (by assumption) (by assumption) (by assumption)
  | with_reducible exact (ar_drop_0 (by assumption)).symm
  | (subst_vars; with_reducible exact (ar_drop_1 (by assumption) (by assumption)).symm)
  | (subst_vars; with_reducible exact (ar_drop_2 (by assumption) (by assumption)).symm)
  | with_reducible exact (sd_l_0 (by assumption)).symm
  | with_reducible exact (sd_n_0 (by assumption)).symm
  | (subst_vars; with_reducible exact sd_l_1 (by assumption))
  | (subst_vars; with_reducible exact sd_n_1 (by assumption))
  | (subst_vars; with_reducible exact sd_l_2 (by assumption) (by assumption))
  | (subst_vars; with_reducible exact sd_n_2 (by assumption) (by assumption))
theorem lf_X7_drop_9 {fl : Nat → Int32} {fe : Nat → Int32} {y0 : Nat} {y1 : Nat} {y2 : Nat} {y3 : Nat} {y4 : Nat} {y5 : Nat} {y6 : Nat} {y7 : Nat} {fi : Nat → Option Nat} {j_1 : Nat} {xgn_10 : Int32} {r_10 : Int32} (hfi : fi 0 = some y0 ∧ fi 1 = some y1 ∧ fi 2 = some y2 ∧ fi 3 = some y3 ∧ fi 4 = some y4 ∧ fi 5 = some y5 ∧ fi 6 = some y6 ∧ fi 7 = some y7) (hfe : ∀ jq : Nat, jq < 8 → ∃ q : Nat, q ≤ 40 ∧ fe jq = nI q) (hj_1 : j_1 < 8) (f_5_1_0 : fl j_1 = -1) (hF_10_0 : (xgn_10 : Int32) = 1) (h_10 : r_10 = (-1000010 - 1)) : abl fl = sd_l (abl fl) (nI j_1) := by
  first
  | with_reducible exact xd_0 (by assumption)
  | with_reducible exact xd_1 (by assumption) (by assumption) (by assumption)
  | with_reducible exact xd_2 (by assumption) (by assumption) (by assumption)
  | with_reducible exact (ar_drop_0 (by assumption)).symm
  | (subst_vars; with_reducible exact (ar_drop_1 (by assumption) (by assumption)).symm)
  | (subst_vars; with_reducible exact (ar_drop_2 (by assumption) (by assumption)).symm)
  | with_reducible exact (sd_l_0 (by assumption)).symm
  | with_reducible exact (sd_n_0 (by assumption)).symm
  | (subst_vars; with_reducible exact sd_l_1 (by assumption))
  | (subst_vars; with_reducible exact sd_n_1 (by assumption))
  | (subst_vars; with_reducible exact sd_l_2 (by assumption) (by assumption))
  | (subst_vars; with_reducible exact sd_n_2 (by assumption) (by assumption))
theorem lf_X7_drop_10 {fl : Nat → Int32} {fe : Nat → Int32} {y0 : Nat} {y1 : Nat} {y2 : Nat} {y3 : Nat} {y4 : Nat} {y5 : Nat} {y6 : Nat} {y7 : Nat} {fi : Nat → Option Nat} {j_1 : Nat} {xgn_10 : Int32} {r_10 : Int32} (hfi : fi 0 = some y0 ∧ fi 1 = some y1 ∧ fi 2 = some y2 ∧ fi 3 = some y3 ∧ fi 4 = some y4 ∧ fi 5 = some y5 ∧ fi 6 = some y6 ∧ fi 7 = some y7) (hfe : ∀ jq : Nat, jq < 8 → ∃ q : Nat, q ≤ 40 ∧ fe jq = nI q) (hj_1 : j_1 < 8) (f_5_1_0 : fl j_1 = -1) (hF_10_0 : (xgn_10 : Int32) = 1) (h_10 : r_10 = (-1000010 - 1)) : abn fl fe = sd_n (abn fl fe) (nI j_1) := by
  first
  | with_reducible exact xd_0 (by assumption)
  | with_reducible exact xd_1 (by assumption) (by assumption) (by assumption)
  | with_reducible exact xd_2 (by assumption) (by assumption) (by assumption)
  | with_reducible exact (ar_drop_0 (by assumption)).symm
  | (subst_vars; with_reducible exact (ar_drop_1 (by assumption) (by assumption)).symm)
  | (subst_vars; with_reducible exact (ar_drop_2 (by assumption) (by assumption)).symm)
  | with_reducible exact (sd_l_0 (by assumption)).symm
  | with_reducible exact (sd_n_0 (by assumption)).symm
  | (subst_vars; with_reducible exact sd_l_1 (by assumption))
  | (subst_vars; with_reducible exact sd_n_1 (by assumption))
  | (subst_vars; with_reducible exact sd_l_2 (by assumption) (by assumption))
  | (subst_vars; with_reducible exact sd_n_2 (by assumption) (by assumption))
theorem lf_X7_drop_11 {xg : Int32} {fl : Nat → Int32} {fe : Nat → Int32} {y0 : Nat} {y1 : Nat} {y2 : Nat} {y3 : Nat} {y4 : Nat} {y5 : Nat} {y6 : Nat} {y7 : Nat} {fi : Nat → Option Nat} {j_1 : Nat} {xgn_10 : Int32} {r_10 : Int32} (hfi : fi 0 = some y0 ∧ fi 1 = some y1 ∧ fi 2 = some y2 ∧ fi 3 = some y3 ∧ fi 4 = some y4 ∧ fi 5 = some y5 ∧ fi 6 = some y6 ∧ fi 7 = some y7) (hfe : ∀ jq : Nat, jq < 8 → ∃ q : Nat, q ≤ 40 ∧ fe jq = nI q) (hj_1 : j_1 < 8) (f_5_1_0 : fl j_1 = -1) (hF_10_0 : (xgn_10 : Int32) = 1) (h_10 : r_10 = (-1000010 - 1)) : xgn_10 = f_drop (abl fl) (nI j_1) xg := by
  first
  | with_reducible exact xd_0 (by assumption)
  | with_reducible exact xd_1 (by assumption) (by assumption) (by assumption)
  | with_reducible exact xd_2 (by assumption) (by assumption) (by assumption)
  | with_reducible exact (ar_drop_0 (by assumption)).symm
  | (subst_vars; with_reducible exact (ar_drop_1 (by assumption) (by assumption)).symm)
  | (subst_vars; with_reducible exact (ar_drop_2 (by assumption) (by assumption)).symm)
  | with_reducible exact (sd_l_0 (by assumption)).symm
  | with_reducible exact (sd_n_0 (by assumption)).symm
  | (subst_vars; with_reducible exact sd_l_1 (by assumption))
  | (subst_vars; with_reducible exact sd_n_1 (by assumption))
  | (subst_vars; with_reducible exact sd_l_2 (by assumption) (by assumption))
  | (subst_vars; with_reducible exact sd_n_2 (by assumption) (by assumption))
theorem lf_X7_drop_12 {fl : Nat → Int32} {fe : Nat → Int32} {y0 : Nat} {y1 : Nat} {y2 : Nat} {y3 : Nat} {y4 : Nat} {y5 : Nat} {y6 : Nat} {y7 : Nat} {fi : Nat → Option Nat} {j_1 : Nat} {xgn_10 : Int32} {r_10 : Int32} (hfi : fi 0 = some y0 ∧ fi 1 = some y1 ∧ fi 2 = some y2 ∧ fi 3 = some y3 ∧ fi 4 = some y4 ∧ fi 5 = some y5 ∧ fi 6 = some y6 ∧ fi 7 = some y7) (hfe : ∀ jq : Nat, jq < 8 → ∃ q : Nat, q ≤ 40 ∧ fe jq = nI q) (hj_1 : j_1 < 8) (f_5_1_0 : fl j_1 = -1) (hF_10_0 : (xgn_10 : Int32) = 1) (h_10 : r_10 = (-1000010 - 1)) : r_10 = (ar_drop (abl fl) (abn fl fe) (nI j_1)) := by
  first
  | with_reducible exact xd_0 (by assumption)
  | with_reducible exact xd_1 (by assumption) (by assumption) (by assumption)
  | with_reducible exact xd_2 (by assumption) (by assumption) (by assumption)
  | with_reducible exact (ar_drop_0 (by assumption)).symm
  | (subst_vars; with_reducible exact (ar_drop_1 (by assumption) (by assumption)).symm)
  | (subst_vars; with_reducible exact (ar_drop_2 (by assumption) (by assumption)).symm)
  | with_reducible exact (sd_l_0 (by assumption)).symm
  | with_reducible exact (sd_n_0 (by assumption)).symm
  | (subst_vars; with_reducible exact sd_l_1 (by assumption))
  | (subst_vars; with_reducible exact sd_n_1 (by assumption))
  | (subst_vars; with_reducible exact sd_l_2 (by assumption) (by assumption))
  | (subst_vars; with_reducible exact sd_n_2 (by assumption) (by assumption))
set_option maxHeartbeats 4000000 in
set_option maxRecDepth 100000 in
theorem r_X7_drop (l : Launch) (dC : Nat → ClassId) (dI : Nat → Nat → Nat) (cI cZ cL cJ : ClassId) (sz : Nat) (x : Nat) (ro : Nat) (ta : Nat) (no : Nat) (ac : Nat) (im : Nat) (tr : Nat) (pl : Nat) (cs : Nat) (ak : Nat) (xf : Int32) (xg : Int32) (it : Nat) (la : Nat) (le : Nat) (fl : Nat → Int32) (fe : Nat → Int32) (y0 : Nat) (y1 : Nat) (y2 : Nat) (y3 : Nat) (y4 : Nat) (y5 : Nat) (y6 : Nat) (y7 : Nat) (f0 : Nat → Int32) (f1 : Nat → Int32) (f2 : Nat → Int32) (f3 : Nat → Int32) (f4 : Nat → Int32) (f5 : Nat → Int32) (f6 : Nat → Int32) (f7 : Nat → Int32) (fi : Nat → Option Nat) (k0 : Int32) (hfi : fi 0 = some y0 ∧ fi 1 = some y1 ∧ fi 2 = some y2 ∧ fi 3 = some y3 ∧ fi 4 = some y4 ∧ fi 5 = some y5 ∧ fi 6 = some y6 ∧ fi 7 = some y7) (hfe : ∀ jq : Nat, jq < 8 → ∃ q : Nat, q ≤ 40 ∧ fe jq = nI q) : Met l yX7_drop wsX7_drop ({ frames := 1, cells := 0, slots := 0, locals := 21 }) (va_Pc [.ref x, .int k0] (fun U => U.heap.size = sz ∧ va_P (dC, dI) vwCl [(xo_7_rrrrrrrrrii x ro ta no ac im tr pl cs ak xf xg), (xo_5_rrr ro it la le), (xI la cI 8 fl), (xI le cI 8 fe), (xJ it cJ 8 fi), (xI y0 cI 40 f0), (xI y1 cI 40 f1), (xI y2 cI 40 f2), (xI y3 cI 40 f3), (xI y4 cI 40 f4), (xI y5 cI 40 f5), (xI y6 cI 40 f6), (xI y7 cI 40 f7)] U.heap ∧ va_K (dC, dI) vwCl [(cI, .int), (cZ, .boolean), (cL, .object RX3), (cJ, .array .int)] U ∧ va_D (fun _ => True) [(xo_7_rrrrrrrrrii x ro ta no ac im tr pl cs ak xf xg), (xo_5_rrr ro it la le), (xI la cI 8 fl), (xI le cI 8 fe), (xJ it cJ 8 fi), (xI y0 cI 40 f0), (xI y1 cI 40 f1), (xI y2 cI 40 f2), (xI y3 cI 40 f3), (xI y4 cI 40 f4), (xI y5 cI 40 f5), (xI y6 cI 40 f6), (xI y7 cI 40 f7)])) (va_Qi (fun r (_ : Unit) => r = (ar_drop (abl fl) (abn fl fe) k0)) (fun (_ : Unit) t => ∃ (fln : Nat → Int32) (xgn : Int32), va_P (dC, dI) vwCl [(xo_7_rrrrrrrrrii x ro ta no ac im tr pl cs ak xf xgn), (xo_5_rrr ro it la le), (xI la cI 8 fln), (xI le cI 8 fe), (xJ it cJ 8 fi), (xI y0 cI 40 f0), (xI y1 cI 40 f1), (xI y2 cI 40 f2), (xI y3 cI 40 f3), (xI y4 cI 40 f4), (xI y5 cI 40 f5), (xI y6 cI 40 f6), (xI y7 cI 40 f7)] t.heap ∧ va_D (va_A [(xo_7_rrrrrrrrrii x ro ta no ac im tr pl cs ak xf xg), (xo_5_rrr ro it la le), (xI la cI 8 fl), (xI le cI 8 fe), (xJ it cJ 8 fi), (xI y0 cI 40 f0), (xI y1 cI 40 f1), (xI y2 cI 40 f2), (xI y3 cI 40 f3), (xI y4 cI 40 f4), (xI y5 cI 40 f5), (xI y6 cI 40 f6), (xI y7 cI 40 f7)] sz) [(xo_7_rrrrrrrrrii x ro ta no ac im tr pl cs ak xf xgn), (xo_5_rrr ro it la le), (xI la cI 8 fln), (xI le cI 8 fe), (xJ it cJ 8 fi), (xI y0 cI 40 f0), (xI y1 cI 40 f1), (xI y2 cI 40 f2), (xI y3 cI 40 f3), (xI y4 cI 40 f4), (xI y5 cI 40 f5), (xI y6 cI 40 f6), (xI y7 cI 40 f7)] ∧ abl fln = sd_l (abl fl) k0 ∧ abn fln fe = sd_n (abn fl fe) k0 ∧ xgn = f_drop (abl fl) k0 xg) (va_A [(xo_7_rrrrrrrrrii x ro ta no ac im tr pl cs ak xf xg), (xo_5_rrr ro it la le), (xI la cI 8 fl), (xI le cI 8 fe), (xJ it cJ 8 fi), (xI y0 cI 40 f0), (xI y1 cI 40 f1), (xI y2 cI 40 f2), (xI y3 cI 40 f3), (xI y4 cI 40 f4), (xI y5 cI 40 f5), (xI y6 cI 40 f6), (xI y7 cI 40 f7)] sz)) 0 0 (va_A [(xo_7_rrrrrrrrrii x ro ta no ac im tr pl cs ak xf xg), (xo_5_rrr ro it la le), (xI la cI 8 fl), (xI le cI 8 fe), (xJ it cJ 8 fi), (xI y0 cI 40 f0), (xI y1 cI 40 f1), (xI y2 cI 40 f2), (xI y3 cI 40 f3), (xI y4 cI 40 f4), (xI y5 cI 40 f5), (xI y6 cI 40 f6), (xI y7 cI 40 f7)] sz) := by
  refine Met.ofW (cc := cX7_drop) (maxL := 2) (ret := (some .int)) (by decide) rfl ?_
  intro p e s m args below meth c s₁ B hml hv
  obtain ⟨rfl, hsz, hP, hK, hD0⟩ := hv
  have hx := B.exec
  have hb := B.bytes
  have hr := B.returns
  have hts := atoms_spec (ws := wsX7_drop) B.pre
  have hown : s.vm.findClass RX7 = some m.cls := findClass_of_methodNamed B.named
  have hlocks := B.notSynchronized
  subst hsz
  have hD := hD0.self (sz := s.heap.size)
  generalize hAe : va_A [(xo_7_rrrrrrrrrii x ro ta no ac im tr pl cs ak xf xg), (xo_5_rrr ro it la le), (xI la cI 8 fl), (xI le cI 8 fe), (xJ it cJ 8 fi), (xI y0 cI 40 f0), (xI y1 cI 40 f1), (xI y2 cI 40 f2), (xI y3 cI 40 f3), (xI y4 cI 40 f4), (xI y5 cI 40 f5), (xI y6 cI 40 f6), (xI y7 cI 40 f7)] s.heap.size = A at hD ⊢
  have hA : ∀ q : Nat, s.heap.size ≤ q → A q := fun q h => by rw [← hAe]; exact Or.inr h
  have hS : va_S A s.heap s.heap [] := va_S.rf
  have hP : va_P (dC, dI) vwCl [(xo_7_rrrrrrrrrii x ro ta no ac im tr pl cs ak xf xg), (xo_5_rrr ro it la le), (xI la cI 8 fl), (xI le cI 8 fe), (xJ it cJ 8 fi), (xI y0 cI 40 f0), (xI y1 cI 40 f1), (xI y2 cI 40 f2), (xI y3 cI 40 f3), (xI y4 cI 40 f4), (xI y5 cI 40 f5), (xI y6 cI 40 f6), (xI y7 cI 40 f7)] s.heap := hP
  have hl := lv_entry ([.ref x, .int k0]) (n := 2) (Nat.le_of_ble_eq_true rfl)
  rw [lg_entry_eq]
  generalize (lg_sl ([.ref x, .int k0]) ++ List.replicate (2 - (lg_sl ([.ref x, .int k0])).length) Slot.unset).toArray = ls at hl ⊢
  have hl : lv_has ls 2 [(0, .ref x), (1, .int k0)] := hl
  refine lv_iload_n hx hb dX7_drop_0 rfl (lv_at hl 1 rfl) ?_
  have hPc_1 := hP.sub (ws' := []) [] rfl
  refine vp_callSi (W.runS (As := [.int k0]) (rest := []) ⟨hx, hb, hml, hown, hts⟩ (r_X5_isRow l dC dI cI cZ cL cJ k0 ) (va_cwS 1 hts gX7_drop_X5_isRow rfl rfl rfl (by decide +kernel) ⟨Nat.le_of_ble_eq_true rfl, Nat.le_of_ble_eq_true rfl⟩) (psP hK hPc_1) rfl rfl hl.1 rfl (lv_room (Nat.le_of_ble_eq_true rfl)) dX7_drop_1 ⟨Nat.le_of_ble_eq_true rfl, Nat.le_of_ble_eq_true rfl⟩) (fun r_1 h_1 => ?_)
  rcases h_1 with ⟨h_1, f_1_0_0⟩ | ⟨h_1, f_1_1_0⟩
  · subst h_1
    refine lv_if_ne (tgt := 10) hx hb dX7_drop_4 (by decide) (fun c_ => absurd (by decide) c_) (fun _ => ?_)
    refine lv_ldc (own := RX7) (v := (-1000001)) hx hb hown (hts _ mx_X7_drop_1) dX7_drop_7 ?_
    have hX9 := cut2 (wc := [(xo_7_rrrrrrrrrii x ro ta no ac im tr pl cs ak xf xg), (xo_5_rrr ro it la le), (xI la cI 8 fl), (xI le cI 8 fe), (xJ it cJ 8 fi), (xI y0 cI 40 f0), (xI y1 cI 40 f1), (xI y2 cI 40 f2), (xI y3 cI 40 f3), (xI y4 cI 40 f4), (xI y5 cI 40 f5), (xI y6 cI 40 f6), (xI y7 cI 40 f7)]) hP hD [0, 1, 2, 3, 4, 5, 6, 7, 8, 9, 10, 11, 12] (by decide +kernel) rfl
    exact W.iret (v := (-1000001)) hx hb hr (fun t ht hW => ⟨⟨(-1000001), (), rfl, (lf_X7_drop_4 hfi hfe f_1_0_0), ⟨fl, xg, va_Ht ht hX9.1, hX9.2, (lf_X7_drop_1 hfi hfe f_1_0_0), (lf_X7_drop_2 hfi hfe f_1_0_0), (lf_X7_drop_3 hfi hfe f_1_0_0)⟩⟩, hS.F ht⟩) hS.2.2 dX7_drop_9
  · subst h_1
    obtain ⟨j_1, hj_1, rfl⟩ := vp_in_of f_1_1_0 (by omega)
    refine lv_if_ne (tgt := 10) hx hb dX7_drop_4 (by decide) (fun _ => ?_) (fun c_ => absurd c_ (by decide))
    refine lv_aload_n hx hb dX7_drop_10 rfl (lv_at hl 0 rfl) ?_
    refine va_get (D := (dC, dI)) (ci := 7) (v := .ref ro) (C := RX7) (T := TX7) (N := 11) hx hb hts i_X7_drop_X7 hown hK hP 0 rfl rfl 0 (by decide) (hts _ mx_X7_drop_2) (fun _ h9 => h9) rfl dX7_drop_11 ?_
    refine lv_iload_n hx hb dX7_drop_14 rfl (lv_at hl 1 rfl) ?_
    have hPc_5 := hP.sub (ws' := [(xo_5_rrr ro it la le), (xI la cI 8 fl)]) [1, 2] rfl
    refine vp_callSi (W.runV (As := [.int (nI j_1)]) (rest := []) ⟨hx, hb, hml, hown, hts⟩ (r_X5_isMissing l dC dI cI cZ cL cJ ro it la le fl j_1 (by omega)) (cwV 1 hts gX7_drop_X5_isMissing rfl rfl rfl (by decide +kernel) ⟨Nat.le_of_ble_eq_true rfl, Nat.le_of_ble_eq_true rfl⟩) (pvP 5 1 hK hP rfl rfl hPc_5) rfl rfl hl.1 rfl (lv_room (Nat.le_of_ble_eq_true rfl)) dX7_drop_15 ⟨Nat.le_of_ble_eq_true rfl, Nat.le_of_ble_eq_true rfl⟩) (fun r_5 h_5 => ?_)
    rcases h_5 with ⟨h_5, f_5_0_0⟩ | ⟨h_5, f_5_1_0⟩
    · subst h_5
      refine lv_if_eq (tgt := 27) hx hb dX7_drop_18 (by decide) (fun _ => ?_) (fun c_ => absurd (by decide) c_)
      refine lv_aload_n hx hb dX7_drop_27 rfl (lv_at hl 0 rfl) ?_
      refine lv_aload_n hx hb dX7_drop_28 rfl (lv_at hl 0 rfl) ?_
      refine va_get (D := (dC, dI)) (ci := 7) (v := .ref ro) (C := RX7) (T := TX7) (N := 11) hx hb hts i_X7_drop_X7 hown hK hP 0 rfl rfl 0 (by decide) (hts _ mx_X7_drop_2) (fun _ h9 => h9) rfl dX7_drop_29 ?_
      refine lv_iload_n hx hb dX7_drop_32 rfl (lv_at hl 1 rfl) ?_
      have hc_7 := cutW (wc := [(xo_5_rrr ro it la le), (xI la cI 8 fl), (xI le cI 8 fe)]) hP hD hS hA [1, 2, 3] (by decide +kernel) rfl
      refine va_calli (va_runV (As := [.int (nI j_1)]) (rest := [.ref x]) ⟨hx, hb, hml, hown, hts⟩ (r_X5_remove l dC dI cI cZ cL cJ s.heap.size ro it la le fl fe j_1 (by omega)) (cwV 1 hts gX7_drop_X5_remove rfl rfl rfl (by decide +kernel) ⟨Nat.le_of_ble_eq_true rfl, Nat.le_of_ble_eq_true rfl⟩) (pvW 5 1 hK hP rfl rfl hc_7) rfl rfl hl.1 rfl (lv_room (Nat.le_of_ble_eq_true rfl)) dX7_drop_33 ⟨Nat.le_of_ble_eq_true rfl, Nat.le_of_ble_eq_true rfl⟩) hS (fun q _ h => hc_7.2.2 q h) hc_7.2.2 (fun r_7 u_7 t_7 H1 locs ht hvm h_7 hB hz1 hk1 hS => ?_)
      refine xl_1_3 hB (fun fln_7 hP1 hD1 hF_7_0 => ?_)
      clear hB
      rw [ht] at hP1
      obtain ⟨hP, hD⟩ := va_join (wr := [(xo_7_rrrrrrrrrii x ro ta no ac im tr pl cs ak xf xg), (xJ it cJ 8 fi), (xI y0 cI 40 f0), (xI y1 cI 40 f1), (xI y2 cI 40 f2), (xI y3 cI 40 f3), (xI y4 cI 40 f4), (xI y5 cI 40 f5), (xI y6 cI 40 f6), (xI y7 cI 40 f7)]) (w1 := [(xo_5_rrr ro it la le), (xI la cI 8 fln_7), (xI le cI 8 fe)]) hP hD [1, 2, 3] [0, 4, 5, 6, 7, 8, 9, 10, 11, 12] rfl rfl (by decide +kernel) (by decide +kernel) hk1 hc_7.2.2 hP1 hD1
      generalize H1 = H at hP hS ⊢
      have hP : va_P (dC, dI) vwCl [(xo_7_rrrrrrrrrii x ro ta no ac im tr pl cs ak xf xg), (xJ it cJ 8 fi), (xI y0 cI 40 f0), (xI y1 cI 40 f1), (xI y2 cI 40 f2), (xI y3 cI 40 f3), (xI y4 cI 40 f4), (xI y5 cI 40 f5), (xI y6 cI 40 f6), (xI y7 cI 40 f7), (xo_5_rrr ro it la le), (xI la cI 8 fln_7), (xI le cI 8 fe)] H := hP
      have hD := dto hP hD
      have hc_8 := cutW (wc := [(xo_7_rrrrrrrrrii x ro ta no ac im tr pl cs ak xf xg)]) hP hD hS hA [0] (by decide +kernel) rfl
      refine va_calli (va_runV (As := [.int r_7]) (rest := []) ⟨hx, hb, hml, hown, hts⟩ (r_X7_foundNothing l dC dI cI cZ cL cJ H.size x ro ta no ac im tr pl cs ak xf xg r_7 ) (cwV 1 hts gX7_drop_X7_foundNothing rfl rfl rfl (by decide +kernel) ⟨Nat.le_of_ble_eq_true rfl, Nat.le_of_ble_eq_true rfl⟩) (pvW 7 0 hK hP rfl rfl hc_8) rfl rfl hl.1 rfl (lv_room (Nat.le_of_ble_eq_true rfl)) dX7_drop_36 ⟨Nat.le_of_ble_eq_true rfl, Nat.le_of_ble_eq_true rfl⟩) hS (fun q _ h => hc_8.2.2 q h) hc_8.2.2 (fun r_8 u_8 t_8 H1 locs ht hvm h_8 hB hz1 hk1 hS => ?_)
      refine xl_1_3 hB (fun xgn_8 hP1 hD1 hF_8_0 => ?_)
      clear hB
      rw [ht] at hP1
      obtain ⟨hP, hD⟩ := va_join (wr := [(xJ it cJ 8 fi), (xI y0 cI 40 f0), (xI y1 cI 40 f1), (xI y2 cI 40 f2), (xI y3 cI 40 f3), (xI y4 cI 40 f4), (xI y5 cI 40 f5), (xI y6 cI 40 f6), (xI y7 cI 40 f7), (xo_5_rrr ro it la le), (xI la cI 8 fln_7), (xI le cI 8 fe)]) (w1 := [(xo_7_rrrrrrrrrii x ro ta no ac im tr pl cs ak xf xgn_8)]) hP hD [0] [1, 2, 3, 4, 5, 6, 7, 8, 9, 10, 11, 12] rfl rfl (by decide +kernel) (by decide +kernel) hk1 hc_8.2.2 hP1 hD1
      generalize H1 = H at hP hS ⊢
      have hP : va_P (dC, dI) vwCl [(xJ it cJ 8 fi), (xI y0 cI 40 f0), (xI y1 cI 40 f1), (xI y2 cI 40 f2), (xI y3 cI 40 f3), (xI y4 cI 40 f4), (xI y5 cI 40 f5), (xI y6 cI 40 f6), (xI y7 cI 40 f7), (xo_5_rrr ro it la le), (xI la cI 8 fln_7), (xI le cI 8 fe), (xo_7_rrrrrrrrrii x ro ta no ac im tr pl cs ak xf xgn_8)] H := hP
      have hD := dto hP hD
      have hX9 := cut2 (wc := [(xo_7_rrrrrrrrrii x ro ta no ac im tr pl cs ak xf xgn_8), (xo_5_rrr ro it la le), (xI la cI 8 fln_7), (xI le cI 8 fe), (xJ it cJ 8 fi), (xI y0 cI 40 f0), (xI y1 cI 40 f1), (xI y2 cI 40 f2), (xI y3 cI 40 f3), (xI y4 cI 40 f4), (xI y5 cI 40 f5), (xI y6 cI 40 f6), (xI y7 cI 40 f7)]) hP hD [12, 9, 10, 11, 0, 1, 2, 3, 4, 5, 6, 7, 8] (by decide +kernel) rfl
      exact W.iret (v := r_8) hx hb hr (fun t ht hW => ⟨⟨r_8, (), rfl, (lf_X7_drop_8 hfi hfe hj_1 f_5_0_0 hF_7_0 h_7 hF_8_0 h_8), ⟨fln_7, xgn_8, va_Ht ht hX9.1, hX9.2, (lf_X7_drop_5 hfi hfe hj_1 f_5_0_0 hF_7_0 h_7 hF_8_0 h_8), (lf_X7_drop_6 hfi hfe hj_1 f_5_0_0 hF_7_0 h_7 hF_8_0 h_8), (lf_X7_drop_7 hfi hfe hj_1 f_5_0_0 hF_7_0 h_7 hF_8_0 h_8)⟩⟩, hS.F ht⟩) hS.2.2 dX7_drop_39
    · subst h_5
      refine lv_if_eq (tgt := 27) hx hb dX7_drop_18 (by decide) (fun c_ => absurd c_ (by decide)) (fun _ => ?_)
      refine lv_aload_n hx hb dX7_drop_21 rfl (lv_at hl 0 rfl) ?_
      refine lv_iconst (v := 1) hx hb dX7_drop_22 (by decide) ?_
      have hc_10 := cutW (wc := [(xo_7_rrrrrrrrrii x ro ta no ac im tr pl cs ak xf xg)]) hP hD hS hA [0] (by decide +kernel) rfl
      refine va_calli (va_runV (As := [.int 1]) (rest := []) ⟨hx, hb, hml, hown, hts⟩ (r_X7_found l dC dI cI cZ cL cJ s.heap.size x ro ta no ac im tr pl cs ak xf xg 1 ) (cwV 1 hts gX7_drop_X7_found rfl rfl rfl (by decide +kernel) ⟨Nat.le_of_ble_eq_true rfl, Nat.le_of_ble_eq_true rfl⟩) (pvW 7 0 hK hP rfl rfl hc_10) rfl rfl hl.1 rfl (lv_room (Nat.le_of_ble_eq_true rfl)) dX7_drop_23 ⟨Nat.le_of_ble_eq_true rfl, Nat.le_of_ble_eq_true rfl⟩) hS (fun q _ h => hc_10.2.2 q h) hc_10.2.2 (fun r_10 u_10 t_10 H1 locs ht hvm h_10 hB hz1 hk1 hS => ?_)
      refine xl_1_3 hB (fun xgn_10 hP1 hD1 hF_10_0 => ?_)
      clear hB
      rw [ht] at hP1
      obtain ⟨hP, hD⟩ := va_join (wr := [(xo_5_rrr ro it la le), (xI la cI 8 fl), (xI le cI 8 fe), (xJ it cJ 8 fi), (xI y0 cI 40 f0), (xI y1 cI 40 f1), (xI y2 cI 40 f2), (xI y3 cI 40 f3), (xI y4 cI 40 f4), (xI y5 cI 40 f5), (xI y6 cI 40 f6), (xI y7 cI 40 f7)]) (w1 := [(xo_7_rrrrrrrrrii x ro ta no ac im tr pl cs ak xf xgn_10)]) hP hD [0] [1, 2, 3, 4, 5, 6, 7, 8, 9, 10, 11, 12] rfl rfl (by decide +kernel) (by decide +kernel) hk1 hc_10.2.2 hP1 hD1
      generalize H1 = H at hP hS ⊢
      have hP : va_P (dC, dI) vwCl [(xo_5_rrr ro it la le), (xI la cI 8 fl), (xI le cI 8 fe), (xJ it cJ 8 fi), (xI y0 cI 40 f0), (xI y1 cI 40 f1), (xI y2 cI 40 f2), (xI y3 cI 40 f3), (xI y4 cI 40 f4), (xI y5 cI 40 f5), (xI y6 cI 40 f6), (xI y7 cI 40 f7), (xo_7_rrrrrrrrrii x ro ta no ac im tr pl cs ak xf xgn_10)] H := hP
      have hD := dto hP hD
      have hX9 := cut2 (wc := [(xo_7_rrrrrrrrrii x ro ta no ac im tr pl cs ak xf xgn_10), (xo_5_rrr ro it la le), (xI la cI 8 fl), (xI le cI 8 fe), (xJ it cJ 8 fi), (xI y0 cI 40 f0), (xI y1 cI 40 f1), (xI y2 cI 40 f2), (xI y3 cI 40 f3), (xI y4 cI 40 f4), (xI y5 cI 40 f5), (xI y6 cI 40 f6), (xI y7 cI 40 f7)]) hP hD [12, 0, 1, 2, 3, 4, 5, 6, 7, 8, 9, 10, 11] (by decide +kernel) rfl
      exact W.iret (v := r_10) hx hb hr (fun t ht hW => ⟨⟨r_10, (), rfl, (lf_X7_drop_12 hfi hfe hj_1 f_5_1_0 hF_10_0 h_10), ⟨fl, xgn_10, va_Ht ht hX9.1, hX9.2, (lf_X7_drop_9 hfi hfe hj_1 f_5_1_0 hF_10_0 h_10), (lf_X7_drop_10 hfi hfe hj_1 f_5_1_0 hF_10_0 h_10), (lf_X7_drop_11 hfi hfe hj_1 f_5_1_0 hF_10_0 h_10)⟩⟩, hS.F ht⟩) hS.2.2 dX7_drop_26
theorem lf_X7_as_1 {xg : Int32} {nv0 : Int32} {nv1 : Int32} {nv2 : Int32} {nv3 : Int32} {nv5 : Int32} {nhh : Nat} {nww : Nat} {nkk : Nat} {ng1 : Nat → Int32} {ng2 : Nat → Int32} {ng3 : Nat → Int32} {ng4 : Nat → Int32} {ng5 : Nat → Int32} {k0 : Int32} {k1 : Int32} (nhb : nhh ≤ 999) (nwb : nww ≤ 6) (nkb : nkk ≤ 6) (hLv : okLv (nrm nv0 nv1 nv2 nv3 nhh nv5 nww nkk ng1 ng2 ng3 ng4 ng5)) (f_1_0_0 : (k0 < 0 ∨ (nI nkk) ≤ k0)) : xg = f_as (nrm nv0 nv1 nv2 nv3 nhh nv5 nww nkk ng1 ng2 ng3 ng4 ng5) k0 k1 xg := by
  first
  | with_reducible exact as_f (as_g1 f_1_0_0)
  | with_reducible exact as_a (as_g1 f_1_0_0)
  | omega
theorem lf_X7_as_2 {nv0 : Int32} {nv1 : Int32} {nv2 : Int32} {nv3 : Int32} {nv5 : Int32} {nhh : Nat} {nww : Nat} {nkk : Nat} {ng1 : Nat → Int32} {ng2 : Nat → Int32} {ng3 : Nat → Int32} {ng4 : Nat → Int32} {ng5 : Nat → Int32} {k0 : Int32} {k1 : Int32} (nhb : nhh ≤ 999) (nwb : nww ≤ 6) (nkb : nkk ≤ 6) (hLv : okLv (nrm nv0 nv1 nv2 nv3 nhh nv5 nww nkk ng1 ng2 ng3 ng4 ng5)) (f_1_0_0 : (k0 < 0 ∨ (nI nkk) ≤ k0)) : (-1000001) = (a_as (nrm nv0 nv1 nv2 nv3 nhh nv5 nww nkk ng1 ng2 ng3 ng4 ng5) k0 k1) := by
  first
  | with_reducible exact as_f (as_g1 f_1_0_0)
  | with_reducible exact as_a (as_g1 f_1_0_0)
  | omega
theorem lf_X7_as_3 {xg : Int32} {nv0 : Int32} {nv1 : Int32} {nv2 : Int32} {nv3 : Int32} {nv5 : Int32} {nhh : Nat} {nww : Nat} {nkk : Nat} {ng1 : Nat → Int32} {ng2 : Nat → Int32} {ng3 : Nat → Int32} {ng4 : Nat → Int32} {ng5 : Nat → Int32} {k1 : Int32} {j_1 : Nat} (nhb : nhh ≤ 999) (nwb : nww ≤ 6) (nkb : nkk ≤ 6) (hLv : okLv (nrm nv0 nv1 nv2 nv3 nhh nv5 nww nkk ng1 ng2 ng3 ng4 ng5)) (hj_1 : j_1 < nkk) (c_5 : k1 < 0) : xg = f_as (nrm nv0 nv1 nv2 nv3 nhh nv5 nww nkk ng1 ng2 ng3 ng4 ng5) (nI j_1) k1 xg := by
  first
  | with_reducible exact as_f (as_g2 c_5)
  | with_reducible exact as_a (as_g2 c_5)
  | omega
theorem lf_X7_as_4 {nv0 : Int32} {nv1 : Int32} {nv2 : Int32} {nv3 : Int32} {nv5 : Int32} {nhh : Nat} {nww : Nat} {nkk : Nat} {ng1 : Nat → Int32} {ng2 : Nat → Int32} {ng3 : Nat → Int32} {ng4 : Nat → Int32} {ng5 : Nat → Int32} {k1 : Int32} {j_1 : Nat} (nhb : nhh ≤ 999) (nwb : nww ≤ 6) (nkb : nkk ≤ 6) (hLv : okLv (nrm nv0 nv1 nv2 nv3 nhh nv5 nww nkk ng1 ng2 ng3 ng4 ng5)) (hj_1 : j_1 < nkk) (c_5 : k1 < 0) : (-1000001) = (a_as (nrm nv0 nv1 nv2 nv3 nhh nv5 nww nkk ng1 ng2 ng3 ng4 ng5) (nI j_1) k1) := by
  first
  | with_reducible exact as_f (as_g2 c_5)
  | with_reducible exact as_a (as_g2 c_5)
  | omega
theorem lf_X7_as_5 {xg : Int32} {nv0 : Int32} {nv1 : Int32} {nv2 : Int32} {nv3 : Int32} {nv5 : Int32} {nhh : Nat} {nww : Nat} {nkk : Nat} {ng1 : Nat → Int32} {ng2 : Nat → Int32} {ng3 : Nat → Int32} {ng4 : Nat → Int32} {ng5 : Nat → Int32} {k1 : Int32} {j_1 : Nat} {ka : Nat} {xgn_10 : Int32} {r_10 : Int32} (nhb : nhh ≤ 999) (nwb : nww ≤ 6) (nkb : nkk ≤ 6) (hLv : okLv (nrm nv0 nv1 nv2 nv3 nhh nv5 nww nkk ng1 ng2 ng3 ng4 ng5)) (hj_1 : j_1 < nkk) (c_5 : ¬ (k1 < 0)) (c_6 : k1 ≤ 5) (hka1 : 1 ≤ ka) (hka5 : ka ≤ 5) (hke : ng2 j_1 = nI ka) (f_8_0_0 : ¬ isK (nI ka) k1) (hF_10_0 : (xgn_10 : Int32) = 3) (h_10 : r_10 = (-1000010 - 3)) : xgn_10 = f_as (nrm nv0 nv1 nv2 nv3 nhh nv5 nww nkk ng1 ng2 ng3 ng4 ng5) (nI j_1) k1 xg := by
  first
  | with_reducible exact as_f (as_g2 c_5)
  | with_reducible exact as_a (as_g2 c_5)
  | with_reducible exact as_f (as_g3 c_6)
  | with_reducible exact as_a (as_g3 c_6)
  | with_reducible exact as_F3 hj_1 nkb c_5 c_6 hke f_8_0_0 hF_10_0
  | with_reducible exact as_A3 hj_1 nkb c_5 c_6 hke f_8_0_0 h_10
  | omega
theorem lf_X7_as_6 {nv0 : Int32} {nv1 : Int32} {nv2 : Int32} {nv3 : Int32} {nv5 : Int32} {nhh : Nat} {nww : Nat} {nkk : Nat} {ng1 : Nat → Int32} {ng2 : Nat → Int32} {ng3 : Nat → Int32} {ng4 : Nat → Int32} {ng5 : Nat → Int32} {k1 : Int32} {j_1 : Nat} {ka : Nat} {xgn_10 : Int32} {r_10 : Int32} (nhb : nhh ≤ 999) (nwb : nww ≤ 6) (nkb : nkk ≤ 6) (hLv : okLv (nrm nv0 nv1 nv2 nv3 nhh nv5 nww nkk ng1 ng2 ng3 ng4 ng5)) (hj_1 : j_1 < nkk) (c_5 : ¬ (k1 < 0)) (c_6 : k1 ≤ 5) (hka1 : 1 ≤ ka) (hka5 : ka ≤ 5) (hke : ng2 j_1 = nI ka) (f_8_0_0 : ¬ isK (nI ka) k1) (hF_10_0 : (xgn_10 : Int32) = 3) (h_10 : r_10 = (-1000010 - 3)) : r_10 = (a_as (nrm nv0 nv1 nv2 nv3 nhh nv5 nww nkk ng1 ng2 ng3 ng4 ng5) (nI j_1) k1) := by
  first
  | with_reducible exact as_f (as_g2 c_5)
  | with_reducible exact as_a (as_g2 c_5)
  | with_reducible exact as_f (as_g3 c_6)
  | with_reducible exact as_a (as_g3 c_6)
  | with_reducible exact as_F3 hj_1 nkb c_5 c_6 hke f_8_0_0 hF_10_0
  | with_reducible exact as_A3 hj_1 nkb c_5 c_6 hke f_8_0_0 h_10
  | omega
theorem lf_X7_as_7 {xg : Int32} {nv0 : Int32} {nv1 : Int32} {nv2 : Int32} {nv3 : Int32} {nv5 : Int32} {nhh : Nat} {nww : Nat} {nkk : Nat} {ng1 : Nat → Int32} {ng2 : Nat → Int32} {ng3 : Nat → Int32} {ng4 : Nat → Int32} {ng5 : Nat → Int32} {k1 : Int32} {j_1 : Nat} {ka : Nat} {xgn_12 : Int32} {r_12 : Int32} (nhb : nhh ≤ 999) (nwb : nww ≤ 6) (nkb : nkk ≤ 6) (hLv : okLv (nrm nv0 nv1 nv2 nv3 nhh nv5 nww nkk ng1 ng2 ng3 ng4 ng5)) (hj_1 : j_1 < nkk) (c_5 : ¬ (k1 < 0)) (c_6 : k1 ≤ 5) (hka1 : 1 ≤ ka) (hka5 : ka ≤ 5) (hke : ng2 j_1 = nI ka) (f_8_1_0 : isK (nI ka) k1) (hF_12_0 : (xgn_12 : Int32) = 0) (h_12 : r_12 = (nI j_1)) : xgn_12 = f_as (nrm nv0 nv1 nv2 nv3 nhh nv5 nww nkk ng1 ng2 ng3 ng4 ng5) (nI j_1) k1 xg := by
  first
  | with_reducible exact as_f (as_g2 c_5)
  | with_reducible exact as_a (as_g2 c_5)
  | with_reducible exact as_f (as_g3 c_6)
  | with_reducible exact as_a (as_g3 c_6)
  | with_reducible exact as_F0 hj_1 nkb c_5 c_6 hke f_8_1_0 hF_12_0
  | with_reducible exact as_A0 hj_1 nkb c_5 c_6 hke f_8_1_0 h_12
  | omega
theorem lf_X7_as_8 {nv0 : Int32} {nv1 : Int32} {nv2 : Int32} {nv3 : Int32} {nv5 : Int32} {nhh : Nat} {nww : Nat} {nkk : Nat} {ng1 : Nat → Int32} {ng2 : Nat → Int32} {ng3 : Nat → Int32} {ng4 : Nat → Int32} {ng5 : Nat → Int32} {k1 : Int32} {j_1 : Nat} {ka : Nat} {xgn_12 : Int32} {r_12 : Int32} (nhb : nhh ≤ 999) (nwb : nww ≤ 6) (nkb : nkk ≤ 6) (hLv : okLv (nrm nv0 nv1 nv2 nv3 nhh nv5 nww nkk ng1 ng2 ng3 ng4 ng5)) (hj_1 : j_1 < nkk) (c_5 : ¬ (k1 < 0)) (c_6 : k1 ≤ 5) (hka1 : 1 ≤ ka) (hka5 : ka ≤ 5) (hke : ng2 j_1 = nI ka) (f_8_1_0 : isK (nI ka) k1) (hF_12_0 : (xgn_12 : Int32) = 0) (h_12 : r_12 = (nI j_1)) : r_12 = (a_as (nrm nv0 nv1 nv2 nv3 nhh nv5 nww nkk ng1 ng2 ng3 ng4 ng5) (nI j_1) k1) := by
  first
  | with_reducible exact as_f (as_g2 c_5)
  | with_reducible exact as_a (as_g2 c_5)
  | with_reducible exact as_f (as_g3 c_6)
  | with_reducible exact as_a (as_g3 c_6)
  | with_reducible exact as_F0 hj_1 nkb c_5 c_6 hke f_8_1_0 hF_12_0
  | with_reducible exact as_A0 hj_1 nkb c_5 c_6 hke f_8_1_0 h_12
  | omega
theorem lf_X7_as_9 {xg : Int32} {nv0 : Int32} {nv1 : Int32} {nv2 : Int32} {nv3 : Int32} {nv5 : Int32} {nhh : Nat} {nww : Nat} {nkk : Nat} {ng1 : Nat → Int32} {ng2 : Nat → Int32} {ng3 : Nat → Int32} {ng4 : Nat → Int32} {ng5 : Nat → Int32} {k1 : Int32} {j_1 : Nat} (nhb : nhh ≤ 999) (nwb : nww ≤ 6) (nkb : nkk ≤ 6) (hLv : okLv (nrm nv0 nv1 nv2 nv3 nhh nv5 nww nkk ng1 ng2 ng3 ng4 ng5)) (hj_1 : j_1 < nkk) (c_5 : ¬ (k1 < 0)) (c_6 : ¬ (k1 ≤ 5)) : xg = f_as (nrm nv0 nv1 nv2 nv3 nhh nv5 nww nkk ng1 ng2 ng3 ng4 ng5) (nI j_1) k1 xg := by
  first
  | with_reducible exact as_f (as_g2 c_5)
  | with_reducible exact as_a (as_g2 c_5)
  | with_reducible exact as_f (as_g3 c_6)
  | with_reducible exact as_a (as_g3 c_6)
  | omega
theorem lf_X7_as_10 {nv0 : Int32} {nv1 : Int32} {nv2 : Int32} {nv3 : Int32} {nv5 : Int32} {nhh : Nat} {nww : Nat} {nkk : Nat} {ng1 : Nat → Int32} {ng2 : Nat → Int32} {ng3 : Nat → Int32} {ng4 : Nat → Int32} {ng5 : Nat → Int32} {k1 : Int32} {j_1 : Nat} (nhb : nhh ≤ 999) (nwb : nww ≤ 6) (nkb : nkk ≤ 6) (hLv : okLv (nrm nv0 nv1 nv2 nv3 nhh nv5 nww nkk ng1 ng2 ng3 ng4 ng5)) (hj_1 : j_1 < nkk) (c_5 : ¬ (k1 < 0)) (c_6 : ¬ (k1 ≤ 5)) : (-1000001) = (a_as (nrm nv0 nv1 nv2 nv3 nhh nv5 nww nkk ng1 ng2 ng3 ng4 ng5) (nI j_1) k1) := by
  first
  | with_reducible exact as_f (as_g2 c_5)
  | with_reducible exact as_a (as_g2 c_5)
  | with_reducible exact as_f (as_g3 c_6)
  | with_reducible exact as_a (as_g3 c_6)
  | omega
set_option maxHeartbeats 4000000 in
set_option maxRecDepth 100000 in
theorem r_X7_as (l : Launch) (dC : Nat → ClassId) (dI : Nat → Nat → Nat) (cI cZ cL cJ : ClassId) (sz : Nat) (x : Nat) (ro : Nat) (ta : Nat) (no : Nat) (ac : Nat) (im : Nat) (tr : Nat) (pl : Nat) (cs : Nat) (ak : Nat) (xf : Int32) (xg : Int32) (nv0 : Int32) (nv1 : Int32) (nv2 : Int32) (nv3 : Int32) (nv5 : Int32) (nhh : Nat) (nww : Nat) (nkk : Nat) (nb1 : Nat) (nb2 : Nat) (nb3 : Nat) (nb4 : Nat) (nb5 : Nat) (ng1 : Nat → Int32) (ng2 : Nat → Int32) (ng3 : Nat → Int32) (ng4 : Nat → Int32) (ng5 : Nat → Int32) (k0 : Int32) (k1 : Int32) (nhb : nhh ≤ 999) (nwb : nww ≤ 6) (nkb : nkk ≤ 6) (hLv : okLv (nrm nv0 nv1 nv2 nv3 nhh nv5 nww nkk ng1 ng2 ng3 ng4 ng5)) : Met l yX7_as wsX7_as ({ frames := 1, cells := 0, slots := 0, locals := 23 }) (va_Pc [.ref x, .int k0, .int k1] (fun U => U.heap.size = sz ∧ va_P (dC, dI) vwCl [(xo_7_rrrrrrrrrii x ro ta no ac im tr pl cs ak xf xg), (xo_3_iiiiiiiirrrrr no nv0 nv1 nv2 nv3 (nI nhh) nv5 (nI nww) (nI nkk) nb1 nb2 nb3 nb4 nb5), (xI nb1 cI 6 ng1), (xI nb2 cI 6 ng2), (xI nb3 cI 6 ng3), (xI nb4 cI 6 ng4), (xI nb5 cI 6 ng5)] U.heap ∧ va_K (dC, dI) vwCl [(cI, .int), (cZ, .boolean), (cL, .object RX3), (cJ, .array .int)] U ∧ va_D (fun _ => True) [(xo_7_rrrrrrrrrii x ro ta no ac im tr pl cs ak xf xg), (xo_3_iiiiiiiirrrrr no nv0 nv1 nv2 nv3 (nI nhh) nv5 (nI nww) (nI nkk) nb1 nb2 nb3 nb4 nb5), (xI nb1 cI 6 ng1), (xI nb2 cI 6 ng2), (xI nb3 cI 6 ng3), (xI nb4 cI 6 ng4), (xI nb5 cI 6 ng5)] ∧ stt (va_A [(xo_7_rrrrrrrrrii x ro ta no ac im tr pl cs ak xf xg), (xo_3_iiiiiiiirrrrr no nv0 nv1 nv2 nv3 (nI nhh) nv5 (nI nww) (nI nkk) nb1 nb2 nb3 nb4 nb5), (xI nb1 cI 6 ng1), (xI nb2 cI 6 ng2), (xI nb3 cI 6 ng3), (xI nb4 cI 6 ng4), (xI nb5 cI 6 ng5)] sz) U U.heap)) (va_Qi (fun r (_ : Unit) => r = (a_as (nrm nv0 nv1 nv2 nv3 nhh nv5 nww nkk ng1 ng2 ng3 ng4 ng5) k0 k1)) (fun (_ : Unit) t => ∃ (xgn : Int32), va_P (dC, dI) vwCl [(xo_7_rrrrrrrrrii x ro ta no ac im tr pl cs ak xf xgn), (xo_3_iiiiiiiirrrrr no nv0 nv1 nv2 nv3 (nI nhh) nv5 (nI nww) (nI nkk) nb1 nb2 nb3 nb4 nb5), (xI nb1 cI 6 ng1), (xI nb2 cI 6 ng2), (xI nb3 cI 6 ng3), (xI nb4 cI 6 ng4), (xI nb5 cI 6 ng5)] t.heap ∧ va_D (va_A [(xo_7_rrrrrrrrrii x ro ta no ac im tr pl cs ak xf xg), (xo_3_iiiiiiiirrrrr no nv0 nv1 nv2 nv3 (nI nhh) nv5 (nI nww) (nI nkk) nb1 nb2 nb3 nb4 nb5), (xI nb1 cI 6 ng1), (xI nb2 cI 6 ng2), (xI nb3 cI 6 ng3), (xI nb4 cI 6 ng4), (xI nb5 cI 6 ng5)] sz) [(xo_7_rrrrrrrrrii x ro ta no ac im tr pl cs ak xf xgn), (xo_3_iiiiiiiirrrrr no nv0 nv1 nv2 nv3 (nI nhh) nv5 (nI nww) (nI nkk) nb1 nb2 nb3 nb4 nb5), (xI nb1 cI 6 ng1), (xI nb2 cI 6 ng2), (xI nb3 cI 6 ng3), (xI nb4 cI 6 ng4), (xI nb5 cI 6 ng5)] ∧ xgn = f_as (nrm nv0 nv1 nv2 nv3 nhh nv5 nww nkk ng1 ng2 ng3 ng4 ng5) k0 k1 xg) (va_A [(xo_7_rrrrrrrrrii x ro ta no ac im tr pl cs ak xf xg), (xo_3_iiiiiiiirrrrr no nv0 nv1 nv2 nv3 (nI nhh) nv5 (nI nww) (nI nkk) nb1 nb2 nb3 nb4 nb5), (xI nb1 cI 6 ng1), (xI nb2 cI 6 ng2), (xI nb3 cI 6 ng3), (xI nb4 cI 6 ng4), (xI nb5 cI 6 ng5)] sz)) 0 0 (va_A [(xo_7_rrrrrrrrrii x ro ta no ac im tr pl cs ak xf xg), (xo_3_iiiiiiiirrrrr no nv0 nv1 nv2 nv3 (nI nhh) nv5 (nI nww) (nI nkk) nb1 nb2 nb3 nb4 nb5), (xI nb1 cI 6 ng1), (xI nb2 cI 6 ng2), (xI nb3 cI 6 ng3), (xI nb4 cI 6 ng4), (xI nb5 cI 6 ng5)] sz) := by
  refine Met.ofW (cc := cX7_as) (maxL := 3) (ret := (some .int)) (by decide) rfl ?_
  intro p e s m args below meth c s₁ B hml hv
  obtain ⟨rfl, hsz, hP, hK, hD0, hst⟩ := hv
  have hx := B.exec
  have hb := B.bytes
  have hr := B.returns
  have hts := atoms_spec (ws := wsX7_as) B.pre
  have hown : s.vm.findClass RX7 = some m.cls := findClass_of_methodNamed B.named
  have hlocks := B.notSynchronized
  subst hsz
  have hD := hD0.self (sz := s.heap.size)
  generalize hAe : va_A [(xo_7_rrrrrrrrrii x ro ta no ac im tr pl cs ak xf xg), (xo_3_iiiiiiiirrrrr no nv0 nv1 nv2 nv3 (nI nhh) nv5 (nI nww) (nI nkk) nb1 nb2 nb3 nb4 nb5), (xI nb1 cI 6 ng1), (xI nb2 cI 6 ng2), (xI nb3 cI 6 ng3), (xI nb4 cI 6 ng4), (xI nb5 cI 6 ng5)] s.heap.size = A at hD hst ⊢
  have hA : ∀ q : Nat, s.heap.size ≤ q → A q := fun q h => by rw [← hAe]; exact Or.inr h
  have hS : va_S A s.heap s.heap [] := va_S.rf
  have hP : va_P (dC, dI) vwCl [(xo_7_rrrrrrrrrii x ro ta no ac im tr pl cs ak xf xg), (xo_3_iiiiiiiirrrrr no nv0 nv1 nv2 nv3 (nI nhh) nv5 (nI nww) (nI nkk) nb1 nb2 nb3 nb4 nb5), (xI nb1 cI 6 ng1), (xI nb2 cI 6 ng2), (xI nb3 cI 6 ng3), (xI nb4 cI 6 ng4), (xI nb5 cI 6 ng5)] s.heap := hP
  obtain ⟨⟨tb1, hZ1, hT1⟩, ⟨tb2, hZ2, hT2⟩, ⟨tb3, hZ3, hT3⟩, hNk⟩ := id hst
  have hl := lv_entry ([.ref x, .int k0, .int k1]) (n := 3) (Nat.le_of_ble_eq_true rfl)
  rw [lg_entry_eq]
  generalize (lg_sl ([.ref x, .int k0, .int k1]) ++ List.replicate (3 - (lg_sl ([.ref x, .int k0, .int k1])).length) Slot.unset).toArray = ls at hl ⊢
  have hl : lv_has ls 3 [(0, .ref x), (1, .int k0), (2, .int k1)] := hl
  refine lv_aload_n hx hb dX7_as_0 rfl (lv_at hl 0 rfl) ?_
  refine va_get (D := (dC, dI)) (ci := 7) (v := .ref no) (C := RX7) (T := TX7) (N := 11) hx hb hts i_X7_as_X7 hown hK hP 0 rfl rfl 2 (by decide) (hts _ mx_X7_as_1) (fun _ h9 => h9) rfl dX7_as_1 ?_
  refine lv_iload_n hx hb dX7_as_4 rfl (lv_at hl 1 rfl) ?_
  have hPc_1 := hP.sub (ws' := [(xo_3_iiiiiiiirrrrr no nv0 nv1 nv2 nv3 (nI nhh) nv5 (nI nww) (nI nkk) nb1 nb2 nb3 nb4 nb5), (xI nb1 cI 6 ng1), (xI nb2 cI 6 ng2), (xI nb3 cI 6 ng3), (xI nb4 cI 6 ng4), (xI nb5 cI 6 ng5)]) [1, 2, 3, 4, 5, 6] rfl
  refine vp_callSi (W.runV (As := [.int k0]) (rest := []) ⟨hx, hb, hml, hown, hts⟩ (r_X3_hasSound l dC dI cI cZ cL cJ no nv0 nv1 nv2 nv3 nv5 nhh nww nkk nb1 nb2 nb3 nb4 nb5 ng1 ng2 ng3 ng4 ng5 k0 (by omega) (nwb) (nkb)) (cwV 1 hts gX7_as_X3_hasSound rfl rfl rfl (by decide +kernel) ⟨Nat.le_of_ble_eq_true rfl, Nat.le_of_ble_eq_true rfl⟩) (pvP 3 1 hK hP rfl rfl hPc_1) rfl rfl hl.1 rfl (lv_room (Nat.le_of_ble_eq_true rfl)) dX7_as_5 ⟨Nat.le_of_ble_eq_true rfl, Nat.le_of_ble_eq_true rfl⟩) (fun r_1 h_1 => ?_)
  rcases h_1 with ⟨h_1, f_1_0_0⟩ | ⟨h_1, f_1_1_0⟩
  · subst h_1
    refine lv_if_eq (tgt := 20) hx hb dX7_as_8 (by decide) (fun _ => ?_) (fun c_ => absurd (by decide) c_)
    refine lv_ldc (own := RX7) (v := (-1000001)) hx hb hown (hts _ mx_X7_as_2) dX7_as_20 ?_
    have hX9 := cut2 (wc := [(xo_7_rrrrrrrrrii x ro ta no ac im tr pl cs ak xf xg), (xo_3_iiiiiiiirrrrr no nv0 nv1 nv2 nv3 (nI nhh) nv5 (nI nww) (nI nkk) nb1 nb2 nb3 nb4 nb5), (xI nb1 cI 6 ng1), (xI nb2 cI 6 ng2), (xI nb3 cI 6 ng3), (xI nb4 cI 6 ng4), (xI nb5 cI 6 ng5)]) hP hD [0, 1, 2, 3, 4, 5, 6] (by decide +kernel) rfl
    exact W.iret (v := (-1000001)) hx hb hr (fun t ht hW => ⟨⟨(-1000001), (), rfl, (lf_X7_as_2 nhb nwb nkb hLv f_1_0_0), ⟨xg, va_Ht ht hX9.1, hX9.2, (lf_X7_as_1 nhb nwb nkb hLv f_1_0_0)⟩⟩, hS.F ht⟩) hS.2.2 dX7_as_22
  · subst h_1
    obtain ⟨j_1, hj_1, rfl⟩ := vp_in_of f_1_1_0 (by omega)
    refine lv_if_eq (tgt := 20) hx hb dX7_as_8 (by decide) (fun c_ => absurd c_ (by decide)) (fun _ => ?_)
    refine lv_iload_n hx hb dX7_as_11 rfl (lv_at hl 2 rfl) ?_
    refine lv_if_lt (tgt := 20) hx hb dX7_as_12 (by decide) (fun c_5 => ?_) (fun c_5 => ?_)
    · skip
      refine lv_ldc (own := RX7) (v := (-1000001)) hx hb hown (hts _ mx_X7_as_2) dX7_as_20 ?_
      have hX9 := cut2 (wc := [(xo_7_rrrrrrrrrii x ro ta no ac im tr pl cs ak xf xg), (xo_3_iiiiiiiirrrrr no nv0 nv1 nv2 nv3 (nI nhh) nv5 (nI nww) (nI nkk) nb1 nb2 nb3 nb4 nb5), (xI nb1 cI 6 ng1), (xI nb2 cI 6 ng2), (xI nb3 cI 6 ng3), (xI nb4 cI 6 ng4), (xI nb5 cI 6 ng5)]) hP hD [0, 1, 2, 3, 4, 5, 6] (by decide +kernel) rfl
      exact W.iret (v := (-1000001)) hx hb hr (fun t ht hW => ⟨⟨(-1000001), (), rfl, (lf_X7_as_4 nhb nwb nkb hLv hj_1 c_5), ⟨xg, va_Ht ht hX9.1, hX9.2, (lf_X7_as_3 nhb nwb nkb hLv hj_1 c_5)⟩⟩, hS.F ht⟩) hS.2.2 dX7_as_22
    · skip
      refine lv_iload_n hx hb dX7_as_15 rfl (lv_at hl 2 rfl) ?_
      refine lv_iconst (v := 5) hx hb dX7_as_16 (by decide) ?_
      refine lv_icmp_le (tgt := 23) hx hb dX7_as_17 (by decide) (fun c_6 => ?_) (fun c_6 => ?_)
      · skip
        refine lv_aload_n hx hb dX7_as_23 rfl (lv_at hl 0 rfl) ?_
        refine va_get (D := (dC, dI)) (ci := 7) (v := .ref no) (C := RX7) (T := TX7) (N := 11) hx hb hts i_X7_as_X7 hown hK hP 0 rfl rfl 2 (by decide) (hts _ mx_X7_as_1) (fun _ h9 => h9) rfl dX7_as_24 ?_
        refine va_get (D := (dC, dI)) (ci := 3) (v := .ref nb2) (C := RX3) (T := TX3) (N := 13) hx hb hts i_X7_as_X3 hown hK hP 1 rfl rfl 9 (by decide) (hts _ mx_X7_as_3) (fun _ h9 => h9) rfl dX7_as_27 ?_
        refine lv_iload_n hx hb dX7_as_30 rfl (lv_at hl 1 rfl) ?_
        refine va_iald hx hb hK hP 3 0 rfl rfl (vp_in_nI (by omega) (by omega)) dX7_as_31 ?_
        obtain ⟨ka, hka1, hka5, hke⟩ := kind_X (i := j_1) hLv nwb nkb (by omega) (by omega)
        refine lv_topi (fun v_7 e_7 => ?_)
        obtain rfl : v_7 = nI ka := (e_7.trans (congrArg ng2 (nI_clamp (by omega)))).trans hke
        refine lv_iload_n hx hb dX7_as_32 rfl (lv_at hl 2 rfl) ?_
        have hPc_8 := hP.sub (ws' := []) [] rfl
        refine vp_callSi (W.runS (As := [.int (nI ka), .int k1]) (rest := []) ⟨hx, hb, hml, hown, hts⟩ (r_X7_isOfKind l dC dI cI cZ cL cJ ka k1 (by omega) (by omega)) (va_cwS 2 hts gX7_as_X7_isOfKind rfl rfl rfl (by decide +kernel) ⟨Nat.le_of_ble_eq_true rfl, Nat.le_of_ble_eq_true rfl⟩) ⟨fun a U g mk q => by obtain ⟨q0, qP, qK, qS⟩ := q; exact ⟨q0, qP, va_K.moved (u := U) (U := U.calling g mk a) (Vm.Alike.refl U.vm) qK, stt_same rfl qS⟩, fun U hU hW => ⟨rfl, by rw [hU]; exact hPc_8, va_K.moved hW.alike hK, by rw [hU]; exact stt_warm hW (stt_narrow (stt_kept hst hS.2.1) (fun _ h => h.elim))⟩⟩ rfl rfl hl.1 rfl (lv_room (Nat.le_of_ble_eq_true rfl)) dX7_as_33 ⟨Nat.le_of_ble_eq_true rfl, Nat.le_of_ble_eq_true rfl⟩) (fun r_8 h_8 => ?_)
        rcases h_8 with ⟨h_8, f_8_0_0⟩ | ⟨h_8, f_8_1_0⟩
        · subst h_8
          refine lv_if_eq (tgt := 47) hx hb dX7_as_36 (by decide) (fun _ => ?_) (fun c_ => absurd (by decide) c_)
          refine lv_aload_n hx hb dX7_as_47 rfl (lv_at hl 0 rfl) ?_
          refine lv_iconst (v := 3) hx hb dX7_as_48 (by decide) ?_
          have hc_10 := cutW (wc := [(xo_7_rrrrrrrrrii x ro ta no ac im tr pl cs ak xf xg)]) hP hD hS hA [0] (by decide +kernel) rfl
          refine va_calli (va_runV (As := [.int 3]) (rest := []) ⟨hx, hb, hml, hown, hts⟩ (r_X7_found l dC dI cI cZ cL cJ s.heap.size x ro ta no ac im tr pl cs ak xf xg 3 ) (cwV 1 hts gX7_as_X7_found rfl rfl rfl (by decide +kernel) ⟨Nat.le_of_ble_eq_true rfl, Nat.le_of_ble_eq_true rfl⟩) (pvW 7 0 hK hP rfl rfl hc_10) rfl rfl hl.1 rfl (lv_room (Nat.le_of_ble_eq_true rfl)) dX7_as_49 ⟨Nat.le_of_ble_eq_true rfl, Nat.le_of_ble_eq_true rfl⟩) hS (fun q _ h => hc_10.2.2 q h) hc_10.2.2 (fun r_10 u_10 t_10 H1 locs ht hvm h_10 hB hz1 hk1 hS => ?_)
          refine xl_1_3 hB (fun xgn_10 hP1 hD1 hF_10_0 => ?_)
          clear hB
          rw [ht] at hP1
          obtain ⟨hP, hD⟩ := va_join (wr := [(xo_3_iiiiiiiirrrrr no nv0 nv1 nv2 nv3 (nI nhh) nv5 (nI nww) (nI nkk) nb1 nb2 nb3 nb4 nb5), (xI nb1 cI 6 ng1), (xI nb2 cI 6 ng2), (xI nb3 cI 6 ng3), (xI nb4 cI 6 ng4), (xI nb5 cI 6 ng5)]) (w1 := [(xo_7_rrrrrrrrrii x ro ta no ac im tr pl cs ak xf xgn_10)]) hP hD [0] [1, 2, 3, 4, 5, 6] rfl rfl (by decide +kernel) (by decide +kernel) hk1 hc_10.2.2 hP1 hD1
          generalize H1 = H at hP hS ⊢
          have hP : va_P (dC, dI) vwCl [(xo_3_iiiiiiiirrrrr no nv0 nv1 nv2 nv3 (nI nhh) nv5 (nI nww) (nI nkk) nb1 nb2 nb3 nb4 nb5), (xI nb1 cI 6 ng1), (xI nb2 cI 6 ng2), (xI nb3 cI 6 ng3), (xI nb4 cI 6 ng4), (xI nb5 cI 6 ng5), (xo_7_rrrrrrrrrii x ro ta no ac im tr pl cs ak xf xgn_10)] H := hP
          have hD := dto hP hD
          have hX9 := cut2 (wc := [(xo_7_rrrrrrrrrii x ro ta no ac im tr pl cs ak xf xgn_10), (xo_3_iiiiiiiirrrrr no nv0 nv1 nv2 nv3 (nI nhh) nv5 (nI nww) (nI nkk) nb1 nb2 nb3 nb4 nb5), (xI nb1 cI 6 ng1), (xI nb2 cI 6 ng2), (xI nb3 cI 6 ng3), (xI nb4 cI 6 ng4), (xI nb5 cI 6 ng5)]) hP hD [6, 0, 1, 2, 3, 4, 5] (by decide +kernel) rfl
          exact W.iret (v := r_10) hx hb hr (fun t ht hW => ⟨⟨r_10, (), rfl, (lf_X7_as_6 nhb nwb nkb hLv hj_1 c_5 c_6 hka1 hka5 hke f_8_0_0 hF_10_0 h_10), ⟨xgn_10, va_Ht ht hX9.1, hX9.2, (lf_X7_as_5 nhb nwb nkb hLv hj_1 c_5 c_6 hka1 hka5 hke f_8_0_0 hF_10_0 h_10)⟩⟩, hS.F ht⟩) hS.2.2 dX7_as_52
        · subst h_8
          refine lv_if_eq (tgt := 47) hx hb dX7_as_36 (by decide) (fun c_ => absurd c_ (by decide)) (fun _ => ?_)
          refine lv_aload_n hx hb dX7_as_39 rfl (lv_at hl 0 rfl) ?_
          refine lv_iload_n hx hb dX7_as_40 rfl (lv_at hl 1 rfl) ?_
          have hc_12 := cutW (wc := [(xo_7_rrrrrrrrrii x ro ta no ac im tr pl cs ak xf xg)]) hP hD hS hA [0] (by decide +kernel) rfl
          refine va_calli (va_runV (As := [.int (nI j_1)]) (rest := []) ⟨hx, hb, hml, hown, hts⟩ (r_X7_foundNothing l dC dI cI cZ cL cJ s.heap.size x ro ta no ac im tr pl cs ak xf xg (nI j_1) ) (cwV 1 hts gX7_as_X7_foundNothing rfl rfl rfl (by decide +kernel) ⟨Nat.le_of_ble_eq_true rfl, Nat.le_of_ble_eq_true rfl⟩) (pvW 7 0 hK hP rfl rfl hc_12) rfl rfl hl.1 rfl (lv_room (Nat.le_of_ble_eq_true rfl)) dX7_as_41 ⟨Nat.le_of_ble_eq_true rfl, Nat.le_of_ble_eq_true rfl⟩) hS (fun q _ h => hc_12.2.2 q h) hc_12.2.2 (fun r_12 u_12 t_12 H1 locs ht hvm h_12 hB hz1 hk1 hS => ?_)
          refine xl_1_3 hB (fun xgn_12 hP1 hD1 hF_12_0 => ?_)
          clear hB
          rw [ht] at hP1
          obtain ⟨hP, hD⟩ := va_join (wr := [(xo_3_iiiiiiiirrrrr no nv0 nv1 nv2 nv3 (nI nhh) nv5 (nI nww) (nI nkk) nb1 nb2 nb3 nb4 nb5), (xI nb1 cI 6 ng1), (xI nb2 cI 6 ng2), (xI nb3 cI 6 ng3), (xI nb4 cI 6 ng4), (xI nb5 cI 6 ng5)]) (w1 := [(xo_7_rrrrrrrrrii x ro ta no ac im tr pl cs ak xf xgn_12)]) hP hD [0] [1, 2, 3, 4, 5, 6] rfl rfl (by decide +kernel) (by decide +kernel) hk1 hc_12.2.2 hP1 hD1
          generalize H1 = H at hP hS ⊢
          have hP : va_P (dC, dI) vwCl [(xo_3_iiiiiiiirrrrr no nv0 nv1 nv2 nv3 (nI nhh) nv5 (nI nww) (nI nkk) nb1 nb2 nb3 nb4 nb5), (xI nb1 cI 6 ng1), (xI nb2 cI 6 ng2), (xI nb3 cI 6 ng3), (xI nb4 cI 6 ng4), (xI nb5 cI 6 ng5), (xo_7_rrrrrrrrrii x ro ta no ac im tr pl cs ak xf xgn_12)] H := hP
          have hD := dto hP hD
          refine lv_goto (tgt := 52) hx hb dX7_as_44 (by decide) ?_
          have hX9 := cut2 (wc := [(xo_7_rrrrrrrrrii x ro ta no ac im tr pl cs ak xf xgn_12), (xo_3_iiiiiiiirrrrr no nv0 nv1 nv2 nv3 (nI nhh) nv5 (nI nww) (nI nkk) nb1 nb2 nb3 nb4 nb5), (xI nb1 cI 6 ng1), (xI nb2 cI 6 ng2), (xI nb3 cI 6 ng3), (xI nb4 cI 6 ng4), (xI nb5 cI 6 ng5)]) hP hD [6, 0, 1, 2, 3, 4, 5] (by decide +kernel) rfl
          exact W.iret (v := r_12) hx hb hr (fun t ht hW => ⟨⟨r_12, (), rfl, (lf_X7_as_8 nhb nwb nkb hLv hj_1 c_5 c_6 hka1 hka5 hke f_8_1_0 hF_12_0 h_12), ⟨xgn_12, va_Ht ht hX9.1, hX9.2, (lf_X7_as_7 nhb nwb nkb hLv hj_1 c_5 c_6 hka1 hka5 hke f_8_1_0 hF_12_0 h_12)⟩⟩, hS.F ht⟩) hS.2.2 dX7_as_52
      · skip
        refine lv_ldc (own := RX7) (v := (-1000001)) hx hb hown (hts _ mx_X7_as_2) dX7_as_20 ?_
        have hX9 := cut2 (wc := [(xo_7_rrrrrrrrrii x ro ta no ac im tr pl cs ak xf xg), (xo_3_iiiiiiiirrrrr no nv0 nv1 nv2 nv3 (nI nhh) nv5 (nI nww) (nI nkk) nb1 nb2 nb3 nb4 nb5), (xI nb1 cI 6 ng1), (xI nb2 cI 6 ng2), (xI nb3 cI 6 ng3), (xI nb4 cI 6 ng4), (xI nb5 cI 6 ng5)]) hP hD [0, 1, 2, 3, 4, 5, 6] (by decide +kernel) rfl
        exact W.iret (v := (-1000001)) hx hb hr (fun t ht hW => ⟨⟨(-1000001), (), rfl, (lf_X7_as_10 nhb nwb nkb hLv hj_1 c_5 c_6), ⟨xg, va_Ht ht hX9.1, hX9.2, (lf_X7_as_9 nhb nwb nkb hLv hj_1 c_5 c_6)⟩⟩, hS.F ht⟩) hS.2.2 dX7_as_22
theorem lf_X7_ask_1 {nv0 : Int32} {nv1 : Int32} {nv2 : Int32} {nv3 : Int32} {nv5 : Int32} {nhh : Nat} {nww : Nat} {nkk : Nat} {ng1 : Nat → Int32} {ng2 : Nat → Int32} {ng3 : Nat → Int32} {ng4 : Nat → Int32} {ng5 : Nat → Int32} {z : Nat} {k0 : Int32} (nhb : nhh ≤ 999) (nwb : nww ≤ 6) (nkb : nkk ≤ 6) (hLv : okLv (nrm nv0 nv1 nv2 nv3 nhh nv5 nww nkk ng1 ng2 ng3 ng4 ng5)) (hz : z ≤ 16) (f_1_0_0 : (k0 < 0 ∨ (nI nkk) ≤ k0)) : z ≤ 16 := by
  first
  | omega
  | with_reducible exact ak_n1 (Or.inl (nk_g f_1_0_0))
  | with_reducible exact ak_n2 (Or.inl (nk_g f_1_0_0))
  | with_reducible exact ak_a (Or.inl (nk_g f_1_0_0))
  | omega
theorem lf_X7_ask_2 {nv0 : Int32} {nv1 : Int32} {nv2 : Int32} {nv3 : Int32} {nv5 : Int32} {nhh : Nat} {nww : Nat} {nkk : Nat} {ng1 : Nat → Int32} {ng2 : Nat → Int32} {ng3 : Nat → Int32} {ng4 : Nat → Int32} {ng5 : Nat → Int32} {z : Nat} {ft : Nat → Int32} {k0 : Int32} {k1 : Int32} (nhb : nhh ≤ 999) (nwb : nww ≤ 6) (nkb : nkk ≤ 6) (hLv : okLv (nrm nv0 nv1 nv2 nv3 nhh nv5 nww nkk ng1 ng2 ng3 ng4 ng5)) (hz : z ≤ 16) (f_1_0_0 : (k0 < 0 ∨ (nI nkk) ≤ k0)) : z = (n_ask (nrm nv0 nv1 nv2 nv3 nhh nv5 nww nkk ng1 ng2 ng3 ng4 ng5) k0 k1 (z, ft)).1 := by
  first
  | omega
  | with_reducible exact ak_n1 (Or.inl (nk_g f_1_0_0))
  | with_reducible exact ak_n2 (Or.inl (nk_g f_1_0_0))
  | with_reducible exact ak_a (Or.inl (nk_g f_1_0_0))
  | omega
theorem lf_X7_ask_3 {nv0 : Int32} {nv1 : Int32} {nv2 : Int32} {nv3 : Int32} {nv5 : Int32} {nhh : Nat} {nww : Nat} {nkk : Nat} {ng1 : Nat → Int32} {ng2 : Nat → Int32} {ng3 : Nat → Int32} {ng4 : Nat → Int32} {ng5 : Nat → Int32} {z : Nat} {ft : Nat → Int32} {k0 : Int32} {k1 : Int32} (nhb : nhh ≤ 999) (nwb : nww ≤ 6) (nkb : nkk ≤ 6) (hLv : okLv (nrm nv0 nv1 nv2 nv3 nhh nv5 nww nkk ng1 ng2 ng3 ng4 ng5)) (hz : z ≤ 16) (f_1_0_0 : (k0 < 0 ∨ (nI nkk) ≤ k0)) : ft = (n_ask (nrm nv0 nv1 nv2 nv3 nhh nv5 nww nkk ng1 ng2 ng3 ng4 ng5) k0 k1 (z, ft)).2 := by
  first
  | omega
  | with_reducible exact ak_n1 (Or.inl (nk_g f_1_0_0))
  | with_reducible exact ak_n2 (Or.inl (nk_g f_1_0_0))
  | with_reducible exact ak_a (Or.inl (nk_g f_1_0_0))
  | omega
theorem lf_X7_ask_4 {nv0 : Int32} {nv1 : Int32} {nv2 : Int32} {nv3 : Int32} {nv5 : Int32} {nhh : Nat} {nww : Nat} {nkk : Nat} {ng1 : Nat → Int32} {ng2 : Nat → Int32} {ng3 : Nat → Int32} {ng4 : Nat → Int32} {ng5 : Nat → Int32} {z : Nat} {ft : Nat → Int32} {k0 : Int32} {k1 : Int32} (nhb : nhh ≤ 999) (nwb : nww ≤ 6) (nkb : nkk ≤ 6) (hLv : okLv (nrm nv0 nv1 nv2 nv3 nhh nv5 nww nkk ng1 ng2 ng3 ng4 ng5)) (hz : z ≤ 16) (f_1_0_0 : (k0 < 0 ∨ (nI nkk) ≤ k0)) : (-1000001) = (a_ask (nrm nv0 nv1 nv2 nv3 nhh nv5 nww nkk ng1 ng2 ng3 ng4 ng5) k0 k1 (z, ft)) := by
  first
  | omega
  | with_reducible exact ak_n1 (Or.inl (nk_g f_1_0_0))
  | with_reducible exact ak_n2 (Or.inl (nk_g f_1_0_0))
  | with_reducible exact ak_a (Or.inl (nk_g f_1_0_0))
  | omega
theorem lf_X7_ask_5 {nv0 : Int32} {nv1 : Int32} {nv2 : Int32} {nv3 : Int32} {nv5 : Int32} {nhh : Nat} {nww : Nat} {nkk : Nat} {ng1 : Nat → Int32} {ng2 : Nat → Int32} {ng3 : Nat → Int32} {ng4 : Nat → Int32} {ng5 : Nat → Int32} {z : Nat} {k1 : Int32} {j_1 : Nat} (nhb : nhh ≤ 999) (nwb : nww ≤ 6) (nkb : nkk ≤ 6) (hLv : okLv (nrm nv0 nv1 nv2 nv3 nhh nv5 nww nkk ng1 ng2 ng3 ng4 ng5)) (hz : z ≤ 16) (hj_1 : j_1 < nkk) (f_5_0_0 : ¬ (k1 = 0 ∨ k1 = 1)) : z ≤ 16 := by
  first
  | omega
  | with_reducible exact ak_n1 (Or.inr f_5_0_0)
  | with_reducible exact ak_n2 (Or.inr f_5_0_0)
  | with_reducible exact ak_a (Or.inr f_5_0_0)
  | omega
theorem lf_X7_ask_6 {nv0 : Int32} {nv1 : Int32} {nv2 : Int32} {nv3 : Int32} {nv5 : Int32} {nhh : Nat} {nww : Nat} {nkk : Nat} {ng1 : Nat → Int32} {ng2 : Nat → Int32} {ng3 : Nat → Int32} {ng4 : Nat → Int32} {ng5 : Nat → Int32} {z : Nat} {ft : Nat → Int32} {k1 : Int32} {j_1 : Nat} (nhb : nhh ≤ 999) (nwb : nww ≤ 6) (nkb : nkk ≤ 6) (hLv : okLv (nrm nv0 nv1 nv2 nv3 nhh nv5 nww nkk ng1 ng2 ng3 ng4 ng5)) (hz : z ≤ 16) (hj_1 : j_1 < nkk) (f_5_0_0 : ¬ (k1 = 0 ∨ k1 = 1)) : z = (n_ask (nrm nv0 nv1 nv2 nv3 nhh nv5 nww nkk ng1 ng2 ng3 ng4 ng5) (nI j_1) k1 (z, ft)).1 := by
  first
  | omega
  | with_reducible exact ak_n1 (Or.inr f_5_0_0)
  | with_reducible exact ak_n2 (Or.inr f_5_0_0)
  | with_reducible exact ak_a (Or.inr f_5_0_0)
  | omega
theorem lf_X7_ask_7 {nv0 : Int32} {nv1 : Int32} {nv2 : Int32} {nv3 : Int32} {nv5 : Int32} {nhh : Nat} {nww : Nat} {nkk : Nat} {ng1 : Nat → Int32} {ng2 : Nat → Int32} {ng3 : Nat → Int32} {ng4 : Nat → Int32} {ng5 : Nat → Int32} {z : Nat} {ft : Nat → Int32} {k1 : Int32} {j_1 : Nat} (nhb : nhh ≤ 999) (nwb : nww ≤ 6) (nkb : nkk ≤ 6) (hLv : okLv (nrm nv0 nv1 nv2 nv3 nhh nv5 nww nkk ng1 ng2 ng3 ng4 ng5)) (hz : z ≤ 16) (hj_1 : j_1 < nkk) (f_5_0_0 : ¬ (k1 = 0 ∨ k1 = 1)) : ft = (n_ask (nrm nv0 nv1 nv2 nv3 nhh nv5 nww nkk ng1 ng2 ng3 ng4 ng5) (nI j_1) k1 (z, ft)).2 := by
  first
  | omega
  | with_reducible exact ak_n1 (Or.inr f_5_0_0)
  | with_reducible exact ak_n2 (Or.inr f_5_0_0)
  | with_reducible exact ak_a (Or.inr f_5_0_0)
  | omega
theorem lf_X7_ask_8 {nv0 : Int32} {nv1 : Int32} {nv2 : Int32} {nv3 : Int32} {nv5 : Int32} {nhh : Nat} {nww : Nat} {nkk : Nat} {ng1 : Nat → Int32} {ng2 : Nat → Int32} {ng3 : Nat → Int32} {ng4 : Nat → Int32} {ng5 : Nat → Int32} {z : Nat} {ft : Nat → Int32} {k1 : Int32} {j_1 : Nat} (nhb : nhh ≤ 999) (nwb : nww ≤ 6) (nkb : nkk ≤ 6) (hLv : okLv (nrm nv0 nv1 nv2 nv3 nhh nv5 nww nkk ng1 ng2 ng3 ng4 ng5)) (hz : z ≤ 16) (hj_1 : j_1 < nkk) (f_5_0_0 : ¬ (k1 = 0 ∨ k1 = 1)) : (-1000001) = (a_ask (nrm nv0 nv1 nv2 nv3 nhh nv5 nww nkk ng1 ng2 ng3 ng4 ng5) (nI j_1) k1 (z, ft)) := by
  first
  | omega
  | with_reducible exact ak_n1 (Or.inr f_5_0_0)
  | with_reducible exact ak_n2 (Or.inr f_5_0_0)
  | with_reducible exact ak_a (Or.inr f_5_0_0)
  | omega
theorem lf_X7_ask_9 {nv0 : Int32} {nv1 : Int32} {nv2 : Int32} {nv3 : Int32} {nv5 : Int32} {nhh : Nat} {nww : Nat} {nkk : Nat} {ng1 : Nat → Int32} {ng2 : Nat → Int32} {ng3 : Nat → Int32} {ng4 : Nat → Int32} {ng5 : Nat → Int32} {z : Nat} {ft : Nat → Int32} {k1 : Int32} {j_1 : Nat} {ka : Nat} {zn_8 : Nat} {ftn_8 : Nat → Int32} {r_8 : Int32} (nhb : nhh ≤ 999) (nwb : nww ≤ 6) (nkb : nkk ≤ 6) (hLv : okLv (nrm nv0 nv1 nv2 nv3 nhh nv5 nww nkk ng1 ng2 ng3 ng4 ng5)) (hz : z ≤ 16) (hj_1 : j_1 < nkk) (f_5_1_0 : (k1 = 0 ∨ k1 = 1)) (hka1 : 1 ≤ ka) (hka5 : ka ≤ 5) (hke : ng2 j_1 = nI ka) (hF_8_0 : zn_8 ≤ 16) (hF_8_1 : (bgX (nI j_1) ka (ng3 j_1) (ng4 j_1) 16 (bfX ka k1) (0, ft)).2 = (zn_8, ftn_8)) (h_8 : r_8 = ((bgX (nI j_1) ka (ng3 j_1) (ng4 j_1) 16 (bfX ka k1) (0, ft)).1)) : zn_8 ≤ 16 := by
  first
  | omega
  | with_reducible exact ak_N1 nkb hj_1 hka1 hka5 hke f_5_1_0 hF_8_1
  | with_reducible exact ak_N2 nkb hj_1 hka1 hka5 hke f_5_1_0 hF_8_1
  | with_reducible exact ak_A nkb hj_1 hka1 hka5 hke f_5_1_0 h_8
  | omega
theorem lf_X7_ask_10 {nv0 : Int32} {nv1 : Int32} {nv2 : Int32} {nv3 : Int32} {nv5 : Int32} {nhh : Nat} {nww : Nat} {nkk : Nat} {ng1 : Nat → Int32} {ng2 : Nat → Int32} {ng3 : Nat → Int32} {ng4 : Nat → Int32} {ng5 : Nat → Int32} {z : Nat} {ft : Nat → Int32} {k1 : Int32} {j_1 : Nat} {ka : Nat} {zn_8 : Nat} {ftn_8 : Nat → Int32} {r_8 : Int32} (nhb : nhh ≤ 999) (nwb : nww ≤ 6) (nkb : nkk ≤ 6) (hLv : okLv (nrm nv0 nv1 nv2 nv3 nhh nv5 nww nkk ng1 ng2 ng3 ng4 ng5)) (hz : z ≤ 16) (hj_1 : j_1 < nkk) (f_5_1_0 : (k1 = 0 ∨ k1 = 1)) (hka1 : 1 ≤ ka) (hka5 : ka ≤ 5) (hke : ng2 j_1 = nI ka) (hF_8_0 : zn_8 ≤ 16) (hF_8_1 : (bgX (nI j_1) ka (ng3 j_1) (ng4 j_1) 16 (bfX ka k1) (0, ft)).2 = (zn_8, ftn_8)) (h_8 : r_8 = ((bgX (nI j_1) ka (ng3 j_1) (ng4 j_1) 16 (bfX ka k1) (0, ft)).1)) : zn_8 = (n_ask (nrm nv0 nv1 nv2 nv3 nhh nv5 nww nkk ng1 ng2 ng3 ng4 ng5) (nI j_1) k1 (z, ft)).1 := by
  first
  | omega
  | with_reducible exact ak_N1 nkb hj_1 hka1 hka5 hke f_5_1_0 hF_8_1
  | with_reducible exact ak_N2 nkb hj_1 hka1 hka5 hke f_5_1_0 hF_8_1
  | with_reducible exact ak_A nkb hj_1 hka1 hka5 hke f_5_1_0 h_8
  | omega
theorem lf_X7_ask_11 {nv0 : Int32} {nv1 : Int32} {nv2 : Int32} {nv3 : Int32} {nv5 : Int32} {nhh : Nat} {nww : Nat} {nkk : Nat} {ng1 : Nat → Int32} {ng2 : Nat → Int32} {ng3 : Nat → Int32} {ng4 : Nat → Int32} {ng5 : Nat → Int32} {z : Nat} {ft : Nat → Int32} {k1 : Int32} {j_1 : Nat} {ka : Nat} {zn_8 : Nat} {ftn_8 : Nat → Int32} {r_8 : Int32} (nhb : nhh ≤ 999) (nwb : nww ≤ 6) (nkb : nkk ≤ 6) (hLv : okLv (nrm nv0 nv1 nv2 nv3 nhh nv5 nww nkk ng1 ng2 ng3 ng4 ng5)) (hz : z ≤ 16) (hj_1 : j_1 < nkk) (f_5_1_0 : (k1 = 0 ∨ k1 = 1)) (hka1 : 1 ≤ ka) (hka5 : ka ≤ 5) (hke : ng2 j_1 = nI ka) (hF_8_0 : zn_8 ≤ 16) (hF_8_1 : (bgX (nI j_1) ka (ng3 j_1) (ng4 j_1) 16 (bfX ka k1) (0, ft)).2 = (zn_8, ftn_8)) (h_8 : r_8 = ((bgX (nI j_1) ka (ng3 j_1) (ng4 j_1) 16 (bfX ka k1) (0, ft)).1)) : ftn_8 = (n_ask (nrm nv0 nv1 nv2 nv3 nhh nv5 nww nkk ng1 ng2 ng3 ng4 ng5) (nI j_1) k1 (z, ft)).2 := by
  first
  | omega
  | with_reducible exact ak_N1 nkb hj_1 hka1 hka5 hke f_5_1_0 hF_8_1
  | with_reducible exact ak_N2 nkb hj_1 hka1 hka5 hke f_5_1_0 hF_8_1
  | with_reducible exact ak_A nkb hj_1 hka1 hka5 hke f_5_1_0 h_8
  | omega
theorem lf_X7_ask_12 {nv0 : Int32} {nv1 : Int32} {nv2 : Int32} {nv3 : Int32} {nv5 : Int32} {nhh : Nat} {nww : Nat} {nkk : Nat} {ng1 : Nat → Int32} {ng2 : Nat → Int32} {ng3 : Nat → Int32} {ng4 : Nat → Int32} {ng5 : Nat → Int32} {z : Nat} {ft : Nat → Int32} {k1 : Int32} {j_1 : Nat} {ka : Nat} {zn_8 : Nat} {ftn_8 : Nat → Int32} {r_8 : Int32} (nhb : nhh ≤ 999) (nwb : nww ≤ 6) (nkb : nkk ≤ 6) (hLv : okLv (nrm nv0 nv1 nv2 nv3 nhh nv5 nww nkk ng1 ng2 ng3 ng4 ng5)) (hz : z ≤ 16) (hj_1 : j_1 < nkk) (f_5_1_0 : (k1 = 0 ∨ k1 = 1)) (hka1 : 1 ≤ ka) (hka5 : ka ≤ 5) (hke : ng2 j_1 = nI ka) (hF_8_0 : zn_8 ≤ 16) (hF_8_1 : (bgX (nI j_1) ka (ng3 j_1) (ng4 j_1) 16 (bfX ka k1) (0, ft)).2 = (zn_8, ftn_8)) (h_8 : r_8 = ((bgX (nI j_1) ka (ng3 j_1) (ng4 j_1) 16 (bfX ka k1) (0, ft)).1)) : r_8 = (a_ask (nrm nv0 nv1 nv2 nv3 nhh nv5 nww nkk ng1 ng2 ng3 ng4 ng5) (nI j_1) k1 (z, ft)) := by
  first
  | omega
  | with_reducible exact ak_N1 nkb hj_1 hka1 hka5 hke f_5_1_0 hF_8_1
  | with_reducible exact ak_N2 nkb hj_1 hka1 hka5 hke f_5_1_0 hF_8_1
  | with_reducible exact ak_A nkb hj_1 hka1 hka5 hke f_5_1_0 h_8
  | omega
set_option maxHeartbeats 4000000 in
set_option maxRecDepth 100000 in
theorem r_X7_ask (l : Launch) (dC : Nat → ClassId) (dI : Nat → Nat → Nat) (cI cZ cL cJ : ClassId) (sz : Nat) (x : Nat) (ro : Nat) (ta : Nat) (no : Nat) (ac : Nat) (im : Nat) (tr : Nat) (pl : Nat) (cs : Nat) (ak : Nat) (xf : Int32) (xg : Int32) (nv0 : Int32) (nv1 : Int32) (nv2 : Int32) (nv3 : Int32) (nv5 : Int32) (nhh : Nat) (nww : Nat) (nkk : Nat) (nb1 : Nat) (nb2 : Nat) (nb3 : Nat) (nb4 : Nat) (nb5 : Nat) (ng1 : Nat → Int32) (ng2 : Nat → Int32) (ng3 : Nat → Int32) (ng4 : Nat → Int32) (ng5 : Nat → Int32) (tc : Nat) (z : Nat) (nu : Int32) (ki : Int32) (ce : Int32) (lo : Int32) (ft : Nat → Int32) (k0 : Int32) (k1 : Int32) (nhb : nhh ≤ 999) (nwb : nww ≤ 6) (nkb : nkk ≤ 6) (hLv : okLv (nrm nv0 nv1 nv2 nv3 nhh nv5 nww nkk ng1 ng2 ng3 ng4 ng5)) (hz : z ≤ 16) : Met l yX7_ask wsX7_ask ({ frames := 43, cells := 0, slots := 0, locals := 4095 }) (va_Pc [.ref x, .int k0, .int k1] (fun U => U.heap.size = sz ∧ va_P (dC, dI) vwCl [(xo_7_rrrrrrrrrii x ro ta no ac im tr pl cs ak xf xg), (xo_3_iiiiiiiirrrrr no nv0 nv1 nv2 nv3 (nI nhh) nv5 (nI nww) (nI nkk) nb1 nb2 nb3 nb4 nb5), (xI nb1 cI 6 ng1), (xI nb2 cI 6 ng2), (xI nb3 cI 6 ng3), (xI nb4 cI 6 ng4), (xI nb5 cI 6 ng5), (xo_1_riiiii ak tc (nI z) nu ki ce lo), (xI tc cI 16 ft)] U.heap ∧ va_K (dC, dI) vwCl [(cI, .int), (cZ, .boolean), (cL, .object RX3), (cJ, .array .int)] U ∧ va_D (fun _ => True) [(xo_7_rrrrrrrrrii x ro ta no ac im tr pl cs ak xf xg), (xo_3_iiiiiiiirrrrr no nv0 nv1 nv2 nv3 (nI nhh) nv5 (nI nww) (nI nkk) nb1 nb2 nb3 nb4 nb5), (xI nb1 cI 6 ng1), (xI nb2 cI 6 ng2), (xI nb3 cI 6 ng3), (xI nb4 cI 6 ng4), (xI nb5 cI 6 ng5), (xo_1_riiiii ak tc (nI z) nu ki ce lo), (xI tc cI 16 ft)] ∧ stt (va_A [(xo_7_rrrrrrrrrii x ro ta no ac im tr pl cs ak xf xg), (xo_3_iiiiiiiirrrrr no nv0 nv1 nv2 nv3 (nI nhh) nv5 (nI nww) (nI nkk) nb1 nb2 nb3 nb4 nb5), (xI nb1 cI 6 ng1), (xI nb2 cI 6 ng2), (xI nb3 cI 6 ng3), (xI nb4 cI 6 ng4), (xI nb5 cI 6 ng5), (xo_1_riiiii ak tc (nI z) nu ki ce lo), (xI tc cI 16 ft)] sz) U U.heap)) (va_Qi (fun r (_ : Unit) => r = (a_ask (nrm nv0 nv1 nv2 nv3 nhh nv5 nww nkk ng1 ng2 ng3 ng4 ng5) k0 k1 (z, ft))) (fun (_ : Unit) t => ∃ (zn : Nat) (nun : Int32) (kin : Int32) (cen : Int32) (lon : Int32) (ftn : Nat → Int32), va_P (dC, dI) vwCl [(xo_7_rrrrrrrrrii x ro ta no ac im tr pl cs ak xf xg), (xo_3_iiiiiiiirrrrr no nv0 nv1 nv2 nv3 (nI nhh) nv5 (nI nww) (nI nkk) nb1 nb2 nb3 nb4 nb5), (xI nb1 cI 6 ng1), (xI nb2 cI 6 ng2), (xI nb3 cI 6 ng3), (xI nb4 cI 6 ng4), (xI nb5 cI 6 ng5), (xo_1_riiiii ak tc (nI zn) nun kin cen lon), (xI tc cI 16 ftn)] t.heap ∧ va_D (va_A [(xo_7_rrrrrrrrrii x ro ta no ac im tr pl cs ak xf xg), (xo_3_iiiiiiiirrrrr no nv0 nv1 nv2 nv3 (nI nhh) nv5 (nI nww) (nI nkk) nb1 nb2 nb3 nb4 nb5), (xI nb1 cI 6 ng1), (xI nb2 cI 6 ng2), (xI nb3 cI 6 ng3), (xI nb4 cI 6 ng4), (xI nb5 cI 6 ng5), (xo_1_riiiii ak tc (nI z) nu ki ce lo), (xI tc cI 16 ft)] sz) [(xo_7_rrrrrrrrrii x ro ta no ac im tr pl cs ak xf xg), (xo_3_iiiiiiiirrrrr no nv0 nv1 nv2 nv3 (nI nhh) nv5 (nI nww) (nI nkk) nb1 nb2 nb3 nb4 nb5), (xI nb1 cI 6 ng1), (xI nb2 cI 6 ng2), (xI nb3 cI 6 ng3), (xI nb4 cI 6 ng4), (xI nb5 cI 6 ng5), (xo_1_riiiii ak tc (nI zn) nun kin cen lon), (xI tc cI 16 ftn)] ∧ zn ≤ 16 ∧ zn = (n_ask (nrm nv0 nv1 nv2 nv3 nhh nv5 nww nkk ng1 ng2 ng3 ng4 ng5) k0 k1 (z, ft)).1 ∧ ftn = (n_ask (nrm nv0 nv1 nv2 nv3 nhh nv5 nww nkk ng1 ng2 ng3 ng4 ng5) k0 k1 (z, ft)).2) (va_A [(xo_7_rrrrrrrrrii x ro ta no ac im tr pl cs ak xf xg), (xo_3_iiiiiiiirrrrr no nv0 nv1 nv2 nv3 (nI nhh) nv5 (nI nww) (nI nkk) nb1 nb2 nb3 nb4 nb5), (xI nb1 cI 6 ng1), (xI nb2 cI 6 ng2), (xI nb3 cI 6 ng3), (xI nb4 cI 6 ng4), (xI nb5 cI 6 ng5), (xo_1_riiiii ak tc (nI z) nu ki ce lo), (xI tc cI 16 ft)] sz)) 0 0 (va_A [(xo_7_rrrrrrrrrii x ro ta no ac im tr pl cs ak xf xg), (xo_3_iiiiiiiirrrrr no nv0 nv1 nv2 nv3 (nI nhh) nv5 (nI nww) (nI nkk) nb1 nb2 nb3 nb4 nb5), (xI nb1 cI 6 ng1), (xI nb2 cI 6 ng2), (xI nb3 cI 6 ng3), (xI nb4 cI 6 ng4), (xI nb5 cI 6 ng5), (xo_1_riiiii ak tc (nI z) nu ki ce lo), (xI tc cI 16 ft)] sz) := by
  refine Met.ofW (cc := cX7_ask) (maxL := 3) (ret := (some .int)) (by decide) rfl ?_
  intro p e s m args below meth c s₁ B hml hv
  obtain ⟨rfl, hsz, hP, hK, hD0, hst⟩ := hv
  have hx := B.exec
  have hb := B.bytes
  have hr := B.returns
  have hts := atoms_spec (ws := wsX7_ask) B.pre
  have hown : s.vm.findClass RX7 = some m.cls := findClass_of_methodNamed B.named
  have hlocks := B.notSynchronized
  subst hsz
  have hD := hD0.self (sz := s.heap.size)
  generalize hAe : va_A [(xo_7_rrrrrrrrrii x ro ta no ac im tr pl cs ak xf xg), (xo_3_iiiiiiiirrrrr no nv0 nv1 nv2 nv3 (nI nhh) nv5 (nI nww) (nI nkk) nb1 nb2 nb3 nb4 nb5), (xI nb1 cI 6 ng1), (xI nb2 cI 6 ng2), (xI nb3 cI 6 ng3), (xI nb4 cI 6 ng4), (xI nb5 cI 6 ng5), (xo_1_riiiii ak tc (nI z) nu ki ce lo), (xI tc cI 16 ft)] s.heap.size = A at hD hst ⊢
  have hA : ∀ q : Nat, s.heap.size ≤ q → A q := fun q h => by rw [← hAe]; exact Or.inr h
  have hS : va_S A s.heap s.heap [] := va_S.rf
  have hP : va_P (dC, dI) vwCl [(xo_7_rrrrrrrrrii x ro ta no ac im tr pl cs ak xf xg), (xo_3_iiiiiiiirrrrr no nv0 nv1 nv2 nv3 (nI nhh) nv5 (nI nww) (nI nkk) nb1 nb2 nb3 nb4 nb5), (xI nb1 cI 6 ng1), (xI nb2 cI 6 ng2), (xI nb3 cI 6 ng3), (xI nb4 cI 6 ng4), (xI nb5 cI 6 ng5), (xo_1_riiiii ak tc (nI z) nu ki ce lo), (xI tc cI 16 ft)] s.heap := hP
  obtain ⟨⟨tb1, hZ1, hT1⟩, ⟨tb2, hZ2, hT2⟩, ⟨tb3, hZ3, hT3⟩, hNk⟩ := id hst
  have hl := lv_entry ([.ref x, .int k0, .int k1]) (n := 3) (Nat.le_of_ble_eq_true rfl)
  rw [lg_entry_eq]
  generalize (lg_sl ([.ref x, .int k0, .int k1]) ++ List.replicate (3 - (lg_sl ([.ref x, .int k0, .int k1])).length) Slot.unset).toArray = ls at hl ⊢
  have hl : lv_has ls 3 [(0, .ref x), (1, .int k0), (2, .int k1)] := hl
  refine lv_aload_n hx hb dX7_ask_0 rfl (lv_at hl 0 rfl) ?_
  refine va_get (D := (dC, dI)) (ci := 7) (v := .ref no) (C := RX7) (T := TX7) (N := 11) hx hb hts i_X7_ask_X7 hown hK hP 0 rfl rfl 2 (by decide) (hts _ mx_X7_ask_1) (fun _ h9 => h9) rfl dX7_ask_1 ?_
  refine lv_iload_n hx hb dX7_ask_4 rfl (lv_at hl 1 rfl) ?_
  have hPc_1 := hP.sub (ws' := [(xo_3_iiiiiiiirrrrr no nv0 nv1 nv2 nv3 (nI nhh) nv5 (nI nww) (nI nkk) nb1 nb2 nb3 nb4 nb5), (xI nb1 cI 6 ng1), (xI nb2 cI 6 ng2), (xI nb3 cI 6 ng3), (xI nb4 cI 6 ng4), (xI nb5 cI 6 ng5)]) [1, 2, 3, 4, 5, 6] rfl
  refine vp_callSi (W.runV (As := [.int k0]) (rest := []) ⟨hx, hb, hml, hown, hts⟩ (r_X3_hasSound l dC dI cI cZ cL cJ no nv0 nv1 nv2 nv3 nv5 nhh nww nkk nb1 nb2 nb3 nb4 nb5 ng1 ng2 ng3 ng4 ng5 k0 (by omega) (nwb) (nkb)) (cwV 1 hts gX7_ask_X3_hasSound rfl rfl rfl (by decide +kernel) ⟨Nat.le_of_ble_eq_true rfl, Nat.le_of_ble_eq_true rfl⟩) (pvP 3 1 hK hP rfl rfl hPc_1) rfl rfl hl.1 rfl (lv_room (Nat.le_of_ble_eq_true rfl)) dX7_ask_5 ⟨Nat.le_of_ble_eq_true rfl, Nat.le_of_ble_eq_true rfl⟩) (fun r_1 h_1 => ?_)
  rcases h_1 with ⟨h_1, f_1_0_0⟩ | ⟨h_1, f_1_1_0⟩
  · subst h_1
    refine lv_if_eq (tgt := 18) hx hb dX7_ask_8 (by decide) (fun _ => ?_) (fun c_ => absurd (by decide) c_)
    refine lv_ldc (own := RX7) (v := (-1000001)) hx hb hown (hts _ mx_X7_ask_2) dX7_ask_18 ?_
    have hX9 := cut2 (wc := [(xo_7_rrrrrrrrrii x ro ta no ac im tr pl cs ak xf xg), (xo_3_iiiiiiiirrrrr no nv0 nv1 nv2 nv3 (nI nhh) nv5 (nI nww) (nI nkk) nb1 nb2 nb3 nb4 nb5), (xI nb1 cI 6 ng1), (xI nb2 cI 6 ng2), (xI nb3 cI 6 ng3), (xI nb4 cI 6 ng4), (xI nb5 cI 6 ng5), (xo_1_riiiii ak tc (nI z) nu ki ce lo), (xI tc cI 16 ft)]) hP hD [0, 1, 2, 3, 4, 5, 6, 7, 8] (by decide +kernel) rfl
    exact W.iret (v := (-1000001)) hx hb hr (fun t ht hW => ⟨⟨(-1000001), (), rfl, (lf_X7_ask_4 nhb nwb nkb hLv hz f_1_0_0), ⟨z, nu, ki, ce, lo, ft, va_Ht ht hX9.1, hX9.2, (lf_X7_ask_1 nhb nwb nkb hLv hz f_1_0_0), (lf_X7_ask_2 nhb nwb nkb hLv hz f_1_0_0), (lf_X7_ask_3 nhb nwb nkb hLv hz f_1_0_0)⟩⟩, hS.F ht⟩) hS.2.2 dX7_ask_20
  · subst h_1
    obtain ⟨j_1, hj_1, rfl⟩ := vp_in_of f_1_1_0 (by omega)
    refine lv_if_eq (tgt := 18) hx hb dX7_ask_8 (by decide) (fun c_ => absurd c_ (by decide)) (fun _ => ?_)
    refine lv_iload_n hx hb dX7_ask_11 rfl (lv_at hl 2 rfl) ?_
    have hPc_5 := hP.sub (ws' := []) [] rfl
    refine vp_callSi (W.runS (As := [.int k1]) (rest := []) ⟨hx, hb, hml, hown, hts⟩ (r_X1_isAsk l dC dI cI cZ cL cJ k1 ) (va_cwS 1 hts gX7_ask_X1_isAsk rfl rfl rfl (by decide +kernel) ⟨Nat.le_of_ble_eq_true rfl, Nat.le_of_ble_eq_true rfl⟩) (psP hK hPc_5) rfl rfl hl.1 rfl (lv_room (Nat.le_of_ble_eq_true rfl)) dX7_ask_12 ⟨Nat.le_of_ble_eq_true rfl, Nat.le_of_ble_eq_true rfl⟩) (fun r_5 h_5 => ?_)
    rcases h_5 with ⟨h_5, f_5_0_0⟩ | ⟨h_5, f_5_1_0⟩
    · subst h_5
      refine lv_if_ne (tgt := 21) hx hb dX7_ask_15 (by decide) (fun c_ => absurd (by decide) c_) (fun _ => ?_)
      refine lv_ldc (own := RX7) (v := (-1000001)) hx hb hown (hts _ mx_X7_ask_2) dX7_ask_18 ?_
      have hX9 := cut2 (wc := [(xo_7_rrrrrrrrrii x ro ta no ac im tr pl cs ak xf xg), (xo_3_iiiiiiiirrrrr no nv0 nv1 nv2 nv3 (nI nhh) nv5 (nI nww) (nI nkk) nb1 nb2 nb3 nb4 nb5), (xI nb1 cI 6 ng1), (xI nb2 cI 6 ng2), (xI nb3 cI 6 ng3), (xI nb4 cI 6 ng4), (xI nb5 cI 6 ng5), (xo_1_riiiii ak tc (nI z) nu ki ce lo), (xI tc cI 16 ft)]) hP hD [0, 1, 2, 3, 4, 5, 6, 7, 8] (by decide +kernel) rfl
      exact W.iret (v := (-1000001)) hx hb hr (fun t ht hW => ⟨⟨(-1000001), (), rfl, (lf_X7_ask_8 nhb nwb nkb hLv hz hj_1 f_5_0_0), ⟨z, nu, ki, ce, lo, ft, va_Ht ht hX9.1, hX9.2, (lf_X7_ask_5 nhb nwb nkb hLv hz hj_1 f_5_0_0), (lf_X7_ask_6 nhb nwb nkb hLv hz hj_1 f_5_0_0), (lf_X7_ask_7 nhb nwb nkb hLv hz hj_1 f_5_0_0)⟩⟩, hS.F ht⟩) hS.2.2 dX7_ask_20
    · subst h_5
      refine lv_if_ne (tgt := 21) hx hb dX7_ask_15 (by decide) (fun _ => ?_) (fun c_ => absurd c_ (by decide))
      refine lv_aload_n hx hb dX7_ask_21 rfl (lv_at hl 0 rfl) ?_
      refine va_get (D := (dC, dI)) (ci := 7) (v := .ref ak) (C := RX7) (T := TX7) (N := 11) hx hb hts i_X7_ask_X7 hown hK hP 0 rfl rfl 8 (by decide) (hts _ mx_X7_ask_3) (fun _ h9 => h9) rfl dX7_ask_22 ?_
      refine lv_aload_n hx hb dX7_ask_25 rfl (lv_at hl 0 rfl) ?_
      refine va_get (D := (dC, dI)) (ci := 7) (v := .ref no) (C := RX7) (T := TX7) (N := 11) hx hb hts i_X7_ask_X7 hown hK hP 0 rfl rfl 2 (by decide) (hts _ mx_X7_ask_1) (fun _ h9 => h9) rfl dX7_ask_26 ?_
      refine lv_iload_n hx hb dX7_ask_29 rfl (lv_at hl 1 rfl) ?_
      refine lv_iload_n hx hb dX7_ask_30 rfl (lv_at hl 2 rfl) ?_
      obtain ⟨ka, hka1, hka5, hke⟩ := kind_X (i := j_1) hLv nwb nkb (by omega) (by omega)
      have hc_8 := cutW (wc := [(xo_1_riiiii ak tc (nI z) nu ki ce lo), (xI tc cI 16 ft), (xo_3_iiiiiiiirrrrr no nv0 nv1 nv2 nv3 (nI nhh) nv5 (nI nww) (nI nkk) nb1 nb2 nb3 nb4 nb5), (xI nb1 cI 6 ng1), (xI nb2 cI 6 ng2), (xI nb3 cI 6 ng3), (xI nb4 cI 6 ng4), (xI nb5 cI 6 ng5)]) hP hD hS hA [7, 8, 1, 2, 3, 4, 5, 6] (by decide +kernel) rfl
      refine va_calli (va_runV (As := [.ref no, .int (nI j_1), .int k1]) (rest := []) ⟨hx, hb, hml, hown, hts⟩ (r_X1_answer l dC dI cI cZ cL cJ s.heap.size ak tc z nu ki ce lo ft no nv0 nv1 nv2 nv3 nv5 nhh nww nkk nb1 nb2 nb3 nb4 nb5 ng1 ng2 ng3 ng4 ng5 j_1 ka k1 (hz) (nhb) (nwb) (nkb) (by omega) (hka1) (hka5) (hke) (by assumption)) (cwV 3 hts gX7_ask_X1_answer rfl rfl rfl (by decide +kernel) ⟨Nat.le_of_ble_eq_true rfl, Nat.le_of_ble_eq_true rfl⟩) ⟨fun a U g mk q => by obtain ⟨q0, q1, qP, qK, qD, qS⟩ := q; exact ⟨q0, q1, qP, va_K.moved (u := U) (U := U.calling g mk a) (Vm.Alike.refl U.vm) qK, qD, stt_same rfl qS⟩, va_recv hK hP (ci := 1) (q0 := 7) rfl rfl, fun U hU hW => ⟨rfl, by rw [hU], by rw [hU]; exact hc_8.1, va_K.moved hW.alike hK, hc_8.2.1.weaken (fun _ _ _ _ => trivial), by rw [hU]; exact stt_warm hW (stt_narrow (stt_kept hst hS.2.1) hc_8.2.2)⟩⟩ rfl rfl hl.1 rfl (lv_room (Nat.le_of_ble_eq_true rfl)) dX7_ask_31 ⟨Nat.le_of_ble_eq_true rfl, Nat.le_of_ble_eq_true rfl⟩) hS (fun q _ h => hc_8.2.2 q h) hc_8.2.2 (fun r_8 u_8 t_8 H1 locs ht hvm h_8 hB hz1 hk1 hS => ?_)
      refine xl_6_4 hB (fun zn_8 nun_8 kin_8 cen_8 lon_8 ftn_8 hP1 hD1 hF_8_0 hF_8_1 => ?_)
      clear hB
      rw [ht] at hP1
      obtain ⟨hP, hD⟩ := va_join (wr := [(xo_7_rrrrrrrrrii x ro ta no ac im tr pl cs ak xf xg)]) (w1 := [(xo_1_riiiii ak tc (nI zn_8) nun_8 kin_8 cen_8 lon_8), (xI tc cI 16 ftn_8), (xo_3_iiiiiiiirrrrr no nv0 nv1 nv2 nv3 (nI nhh) nv5 (nI nww) (nI nkk) nb1 nb2 nb3 nb4 nb5), (xI nb1 cI 6 ng1), (xI nb2 cI 6 ng2), (xI nb3 cI 6 ng3), (xI nb4 cI 6 ng4), (xI nb5 cI 6 ng5)]) hP hD [7, 8, 1, 2, 3, 4, 5, 6] [0] rfl rfl (by decide +kernel) (by decide +kernel) hk1 hc_8.2.2 hP1 hD1
      generalize H1 = H at hP hS ⊢
      have hP : va_P (dC, dI) vwCl [(xo_7_rrrrrrrrrii x ro ta no ac im tr pl cs ak xf xg), (xo_1_riiiii ak tc (nI zn_8) nun_8 kin_8 cen_8 lon_8), (xI tc cI 16 ftn_8), (xo_3_iiiiiiiirrrrr no nv0 nv1 nv2 nv3 (nI nhh) nv5 (nI nww) (nI nkk) nb1 nb2 nb3 nb4 nb5), (xI nb1 cI 6 ng1), (xI nb2 cI 6 ng2), (xI nb3 cI 6 ng3), (xI nb4 cI 6 ng4), (xI nb5 cI 6 ng5)] H := hP
      have hD := dto hP hD
      have hX9 := cut2 (wc := [(xo_7_rrrrrrrrrii x ro ta no ac im tr pl cs ak xf xg), (xo_3_iiiiiiiirrrrr no nv0 nv1 nv2 nv3 (nI nhh) nv5 (nI nww) (nI nkk) nb1 nb2 nb3 nb4 nb5), (xI nb1 cI 6 ng1), (xI nb2 cI 6 ng2), (xI nb3 cI 6 ng3), (xI nb4 cI 6 ng4), (xI nb5 cI 6 ng5), (xo_1_riiiii ak tc (nI zn_8) nun_8 kin_8 cen_8 lon_8), (xI tc cI 16 ftn_8)]) hP hD [0, 3, 4, 5, 6, 7, 8, 1, 2] (by decide +kernel) rfl
      exact W.iret (v := r_8) hx hb hr (fun t ht hW => ⟨⟨r_8, (), rfl, (lf_X7_ask_12 nhb nwb nkb hLv hz hj_1 f_5_1_0 hka1 hka5 hke hF_8_0 hF_8_1 h_8), ⟨zn_8, nun_8, kin_8, cen_8, lon_8, ftn_8, va_Ht ht hX9.1, hX9.2, (lf_X7_ask_9 nhb nwb nkb hLv hz hj_1 f_5_1_0 hka1 hka5 hke hF_8_0 hF_8_1 h_8), (lf_X7_ask_10 nhb nwb nkb hLv hz hj_1 f_5_1_0 hka1 hka5 hke hF_8_0 hF_8_1 h_8), (lf_X7_ask_11 nhb nwb nkb hLv hz hj_1 f_5_1_0 hka1 hka5 hke hF_8_0 hF_8_1 h_8)⟩⟩, hS.F ht⟩) hS.2.2 dX7_ask_34
theorem lf_X7_caps_1 {nv0 : Int32} {nv1 : Int32} {nv2 : Int32} {nv3 : Int32} {nv5 : Int32} {nhh : Nat} {nww : Nat} {nkk : Nat} {ng1 : Nat → Int32} {ng2 : Nat → Int32} {ng3 : Nat → Int32} {ng4 : Nat → Int32} {ng5 : Nat → Int32} {fb : Nat → Option Nat} {ad : Nat → Nat} {k0 : Int32} {k1 : Int32} (nhb : nhh ≤ 999) (nwb : nww ≤ 6) (nkb : nkk ≤ 6) (hLv : okLv (nrm nv0 nv1 nv2 nv3 nhh nv5 nww nkk ng1 ng2 ng3 ng4 ng5)) (hfb : ∀ i : Nat, i < 9 → fb i = some (ad i)) (f_1_0_0 : ¬ 0 < nv0) : (-1000002) = (a_caps (nrm nv0 nv1 nv2 nv3 nhh nv5 nww nkk ng1 ng2 ng3 ng4 ng5) k0 k1) := by
  exact caps_0 (((tX hLv nwb nkb (by omega)).1 f_1_0_0).1)
theorem lf_X7_caps_2 {nv0 : Int32} {nv1 : Int32} {nv2 : Int32} {nv3 : Int32} {nv5 : Int32} {nhh : Nat} {nww : Nat} {nkk : Nat} {ng1 : Nat → Int32} {ng2 : Nat → Int32} {ng3 : Nat → Int32} {ng4 : Nat → Int32} {ng5 : Nat → Int32} {fb : Nat → Option Nat} {ad : Nat → Nat} {k0 : Int32} {k1 : Int32} (nhb : nhh ≤ 999) (nwb : nww ≤ 6) (nkb : nkk ≤ 6) (hLv : okLv (nrm nv0 nv1 nv2 nv3 nhh nv5 nww nkk ng1 ng2 ng3 ng4 ng5)) (hfb : ∀ i : Nat, i < 9 → fb i = some (ad i)) (f_1_1_0 : 0 < nv0) (f_4_0_0 : (k0 < 1 ∨ 8 < k0)) : (-1000001) = (a_caps (nrm nv0 nv1 nv2 nv3 nhh nv5 nww nkk ng1 ng2 ng3 ng4 ng5) k0 k1) := by
  exact caps_n (((tX hLv nwb nkb (by omega)).2 f_1_1_0).1) (Or.inl f_4_0_0)
theorem lf_X7_caps_3 {nv0 : Int32} {nv1 : Int32} {nv2 : Int32} {nv3 : Int32} {nv5 : Int32} {nhh : Nat} {nww : Nat} {nkk : Nat} {ng1 : Nat → Int32} {ng2 : Nat → Int32} {ng3 : Nat → Int32} {ng4 : Nat → Int32} {ng5 : Nat → Int32} {fb : Nat → Option Nat} {ad : Nat → Nat} {k1 : Int32} {j_4 : Nat} {brn_10 : Int32} {bwn_10 : Int32} {btn_10 : Int32} {r_13 : Int32} (nhb : nhh ≤ 999) (nwb : nww ≤ 6) (nkb : nkk ≤ 6) (hLv : okLv (nrm nv0 nv1 nv2 nv3 nhh nv5 nww nkk ng1 ng2 ng3 ng4 ng5)) (hfb : ∀ i : Nat, i < 9 → fb i = some (ad i)) (f_1_1_0 : 0 < nv0) (f_4_1_1 : ¬ ((nI j_4) < 1 ∨ 8 < (nI j_4))) (hj_4 : j_4 < 9) (c_8 : (-2) ≤ k1) (c_9 : k1 < (nI j_4)) (hF_10_0 : trB (-1) j_4 (nrm nv0 nv1 nv2 nv3 nhh nv5 nww nkk ng1 ng2 ng3 ng4 ng5) 0 0 (-1, 0, 0) = (bwn_10, btn_10, brn_10)) (c_11 : ¬ (k1 = (-1))) (c_12 : ¬ (k1 = (-2))) (h_13 : r_13 = (bcX brn_10 (nI j_4) k1)) : r_13 = (a_caps (nrm nv0 nv1 nv2 nv3 nhh nv5 nww nkk ng1 ng2 ng3 ng4 ng5) (nI j_4) k1) := by
  first
  | exact caps_n (((tX hLv nwb nkb (by omega)).2 f_1_1_0).1) (Or.inr (i_nle.mp c_8))
  | exact (caps_e (caps_g (((tX hLv nwb nkb (by omega)).2 f_1_1_0).1) f_4_1_1 hj_4 (i_nlt.mpr c_8) rfl)).1 c_9
  | exact (caps_e (caps_g (((tX hLv nwb nkb (by omega)).2 f_1_1_0).1) f_4_1_1 hj_4 (i_nlt.mpr c_8) hF_10_0)).2.1 c_9 c_11
  | exact (caps_e (caps_g (((tX hLv nwb nkb (by omega)).2 f_1_1_0).1) f_4_1_1 hj_4 (i_nlt.mpr c_8) hF_10_0)).2.2.1 c_9 c_11 c_12
  | exact h_13.trans ((caps_e (caps_g (((tX hLv nwb nkb (by omega)).2 f_1_1_0).1) f_4_1_1 hj_4 (i_nlt.mpr c_8) hF_10_0)).2.2.2 c_9 c_11 c_12)
theorem lf_X7_caps_4 {nv0 : Int32} {nv1 : Int32} {nv2 : Int32} {nv3 : Int32} {nv5 : Int32} {nhh : Nat} {nww : Nat} {nkk : Nat} {ng1 : Nat → Int32} {ng2 : Nat → Int32} {ng3 : Nat → Int32} {ng4 : Nat → Int32} {ng5 : Nat → Int32} {fb : Nat → Option Nat} {ad : Nat → Nat} {k1 : Int32} {j_4 : Nat} {brn_10 : Int32} {bwn_10 : Int32} {btn_10 : Int32} (nhb : nhh ≤ 999) (nwb : nww ≤ 6) (nkb : nkk ≤ 6) (hLv : okLv (nrm nv0 nv1 nv2 nv3 nhh nv5 nww nkk ng1 ng2 ng3 ng4 ng5)) (hfb : ∀ i : Nat, i < 9 → fb i = some (ad i)) (f_1_1_0 : 0 < nv0) (f_4_1_1 : ¬ ((nI j_4) < 1 ∨ 8 < (nI j_4))) (hj_4 : j_4 < 9) (c_8 : (-2) ≤ k1) (c_9 : k1 < (nI j_4)) (hF_10_0 : trB (-1) j_4 (nrm nv0 nv1 nv2 nv3 nhh nv5 nww nkk ng1 ng2 ng3 ng4 ng5) 0 0 (-1, 0, 0) = (bwn_10, btn_10, brn_10)) (c_11 : ¬ (k1 = (-1))) (c_12 : k1 = (-2)) : btn_10 = (a_caps (nrm nv0 nv1 nv2 nv3 nhh nv5 nww nkk ng1 ng2 ng3 ng4 ng5) (nI j_4) k1) := by
  first
  | exact caps_n (((tX hLv nwb nkb (by omega)).2 f_1_1_0).1) (Or.inr (i_nle.mp c_8))
  | exact (caps_e (caps_g (((tX hLv nwb nkb (by omega)).2 f_1_1_0).1) f_4_1_1 hj_4 (i_nlt.mpr c_8) rfl)).1 c_9
  | exact (caps_e (caps_g (((tX hLv nwb nkb (by omega)).2 f_1_1_0).1) f_4_1_1 hj_4 (i_nlt.mpr c_8) hF_10_0)).2.1 c_9 c_11
  | exact (caps_e (caps_g (((tX hLv nwb nkb (by omega)).2 f_1_1_0).1) f_4_1_1 hj_4 (i_nlt.mpr c_8) hF_10_0)).2.2.1 c_9 c_11 c_12
theorem lf_X7_caps_5 {nv0 : Int32} {nv1 : Int32} {nv2 : Int32} {nv3 : Int32} {nv5 : Int32} {nhh : Nat} {nww : Nat} {nkk : Nat} {ng1 : Nat → Int32} {ng2 : Nat → Int32} {ng3 : Nat → Int32} {ng4 : Nat → Int32} {ng5 : Nat → Int32} {fb : Nat → Option Nat} {ad : Nat → Nat} {k1 : Int32} {j_4 : Nat} {brn_10 : Int32} {bwn_10 : Int32} {btn_10 : Int32} (nhb : nhh ≤ 999) (nwb : nww ≤ 6) (nkb : nkk ≤ 6) (hLv : okLv (nrm nv0 nv1 nv2 nv3 nhh nv5 nww nkk ng1 ng2 ng3 ng4 ng5)) (hfb : ∀ i : Nat, i < 9 → fb i = some (ad i)) (f_1_1_0 : 0 < nv0) (f_4_1_1 : ¬ ((nI j_4) < 1 ∨ 8 < (nI j_4))) (hj_4 : j_4 < 9) (c_8 : (-2) ≤ k1) (c_9 : k1 < (nI j_4)) (hF_10_0 : trB (-1) j_4 (nrm nv0 nv1 nv2 nv3 nhh nv5 nww nkk ng1 ng2 ng3 ng4 ng5) 0 0 (-1, 0, 0) = (bwn_10, btn_10, brn_10)) (c_11 : k1 = (-1)) : bwn_10 = (a_caps (nrm nv0 nv1 nv2 nv3 nhh nv5 nww nkk ng1 ng2 ng3 ng4 ng5) (nI j_4) k1) := by
  first
  | exact caps_n (((tX hLv nwb nkb (by omega)).2 f_1_1_0).1) (Or.inr (i_nle.mp c_8))
  | exact (caps_e (caps_g (((tX hLv nwb nkb (by omega)).2 f_1_1_0).1) f_4_1_1 hj_4 (i_nlt.mpr c_8) rfl)).1 c_9
  | exact (caps_e (caps_g (((tX hLv nwb nkb (by omega)).2 f_1_1_0).1) f_4_1_1 hj_4 (i_nlt.mpr c_8) hF_10_0)).2.1 c_9 c_11
theorem lf_X7_caps_6 {nv0 : Int32} {nv1 : Int32} {nv2 : Int32} {nv3 : Int32} {nv5 : Int32} {nhh : Nat} {nww : Nat} {nkk : Nat} {ng1 : Nat → Int32} {ng2 : Nat → Int32} {ng3 : Nat → Int32} {ng4 : Nat → Int32} {ng5 : Nat → Int32} {fb : Nat → Option Nat} {ad : Nat → Nat} {k1 : Int32} {j_4 : Nat} (nhb : nhh ≤ 999) (nwb : nww ≤ 6) (nkb : nkk ≤ 6) (hLv : okLv (nrm nv0 nv1 nv2 nv3 nhh nv5 nww nkk ng1 ng2 ng3 ng4 ng5)) (hfb : ∀ i : Nat, i < 9 → fb i = some (ad i)) (f_1_1_0 : 0 < nv0) (f_4_1_1 : ¬ ((nI j_4) < 1 ∨ 8 < (nI j_4))) (hj_4 : j_4 < 9) (c_8 : (-2) ≤ k1) (c_9 : ¬ (k1 < (nI j_4))) : (-1000000) = (a_caps (nrm nv0 nv1 nv2 nv3 nhh nv5 nww nkk ng1 ng2 ng3 ng4 ng5) (nI j_4) k1) := by
  first
  | exact caps_n (((tX hLv nwb nkb (by omega)).2 f_1_1_0).1) (Or.inr (i_nle.mp c_8))
  | exact (caps_e (caps_g (((tX hLv nwb nkb (by omega)).2 f_1_1_0).1) f_4_1_1 hj_4 (i_nlt.mpr c_8) rfl)).1 c_9
theorem lf_X7_caps_7 {nv0 : Int32} {nv1 : Int32} {nv2 : Int32} {nv3 : Int32} {nv5 : Int32} {nhh : Nat} {nww : Nat} {nkk : Nat} {ng1 : Nat → Int32} {ng2 : Nat → Int32} {ng3 : Nat → Int32} {ng4 : Nat → Int32} {ng5 : Nat → Int32} {fb : Nat → Option Nat} {ad : Nat → Nat} {k1 : Int32} {j_4 : Nat} (nhb : nhh ≤ 999) (nwb : nww ≤ 6) (nkb : nkk ≤ 6) (hLv : okLv (nrm nv0 nv1 nv2 nv3 nhh nv5 nww nkk ng1 ng2 ng3 ng4 ng5)) (hfb : ∀ i : Nat, i < 9 → fb i = some (ad i)) (f_1_1_0 : 0 < nv0) (f_4_1_1 : ¬ ((nI j_4) < 1 ∨ 8 < (nI j_4))) (hj_4 : j_4 < 9) (c_8 : ¬ ((-2) ≤ k1)) : (-1000001) = (a_caps (nrm nv0 nv1 nv2 nv3 nhh nv5 nww nkk ng1 ng2 ng3 ng4 ng5) (nI j_4) k1) := by
  exact caps_n (((tX hLv nwb nkb (by omega)).2 f_1_1_0).1) (Or.inr (i_nle.mp c_8))
set_option maxHeartbeats 4000000 in
set_option maxRecDepth 100000 in
theorem r_X7_caps (l : Launch) (dC : Nat → ClassId) (dI : Nat → Nat → Nat) (cI cZ cL cJ : ClassId) (sz : Nat) (x : Nat) (ro : Nat) (ta : Nat) (no : Nat) (ac : Nat) (im : Nat) (tr : Nat) (pl : Nat) (cs : Nat) (ak : Nat) (xf : Int32) (xg : Int32) (nv0 : Int32) (nv1 : Int32) (nv2 : Int32) (nv3 : Int32) (nv5 : Int32) (nhh : Nat) (nww : Nat) (nkk : Nat) (nb1 : Nat) (nb2 : Nat) (nb3 : Nat) (nb4 : Nat) (nb5 : Nat) (ng1 : Nat → Int32) (ng2 : Nat → Int32) (ng3 : Nat → Int32) (ng4 : Nat → Int32) (ng5 : Nat → Int32) (be : Nat) (hrs : Int32) (wa : Int32) (br : Int32) (bw : Int32) (bt : Int32) (fb : Nat → Option Nat) (ad : Nat → Nat) (bd : Nat → Nat → Nat) (V : Nat → Nat → Int32) (G : Nat → Nat → Nat → Int32) (k0 : Int32) (k1 : Int32) (nhb : nhh ≤ 999) (nwb : nww ≤ 6) (nkb : nkk ≤ 6) (hLv : okLv (nrm nv0 nv1 nv2 nv3 nhh nv5 nww nkk ng1 ng2 ng3 ng4 ng5)) (hfb : ∀ i : Nat, i < 9 → fb i = some (ad i)) : Met l yX7_caps wsX7_caps ({ frames := 16, cells := 0, slots := 0, locals := 3049 }) (va_Pc [.ref x, .int k0, .int k1] (fun U => U.heap.size = sz ∧ va_P (dC, dI) vwCl (([(xo_7_rrrrrrrrrii x ro ta no ac im tr pl cs ak xf xg), (xo_3_iiiiiiiirrrrr no nv0 nv1 nv2 nv3 (nI nhh) nv5 (nI nww) (nI nkk) nb1 nb2 nb3 nb4 nb5), (xI nb1 cI 6 ng1), (xI nb2 cI 6 ng2), (xI nb3 cI 6 ng3), (xI nb4 cI 6 ng4), (xI nb5 cI 6 ng5), (xo_2_riiiii cs be hrs wa br bw bt), (xJ be cL 9 fb)] : va_W) ++ lvs cI 9 ad bd V G) U.heap ∧ va_K (dC, dI) vwCl [(cI, .int), (cZ, .boolean), (cL, .object RX3), (cJ, .array .int)] U ∧ va_D (fun _ => True) (([(xo_7_rrrrrrrrrii x ro ta no ac im tr pl cs ak xf xg), (xo_3_iiiiiiiirrrrr no nv0 nv1 nv2 nv3 (nI nhh) nv5 (nI nww) (nI nkk) nb1 nb2 nb3 nb4 nb5), (xI nb1 cI 6 ng1), (xI nb2 cI 6 ng2), (xI nb3 cI 6 ng3), (xI nb4 cI 6 ng4), (xI nb5 cI 6 ng5), (xo_2_riiiii cs be hrs wa br bw bt), (xJ be cL 9 fb)] : va_W) ++ lvs cI 9 ad bd V G))) (va_Qi (fun r (_ : Unit) => r = (a_caps (nrm nv0 nv1 nv2 nv3 nhh nv5 nww nkk ng1 ng2 ng3 ng4 ng5) k0 k1)) (fun (_ : Unit) t => ∃ (Vn : Nat → Nat → Int32) (Gn : Nat → Nat → Nat → Int32) (hrsn : Int32) (wan : Int32) (brn : Int32) (bwn : Int32) (btn : Int32), va_P (dC, dI) vwCl (([(xo_7_rrrrrrrrrii x ro ta no ac im tr pl cs ak xf xg), (xo_3_iiiiiiiirrrrr no nv0 nv1 nv2 nv3 (nI nhh) nv5 (nI nww) (nI nkk) nb1 nb2 nb3 nb4 nb5), (xI nb1 cI 6 ng1), (xI nb2 cI 6 ng2), (xI nb3 cI 6 ng3), (xI nb4 cI 6 ng4), (xI nb5 cI 6 ng5), (xo_2_riiiii cs be hrsn wan brn bwn btn), (xJ be cL 9 fb)] : va_W) ++ lvs cI 9 ad bd Vn Gn) t.heap ∧ va_D (va_A (([(xo_7_rrrrrrrrrii x ro ta no ac im tr pl cs ak xf xg), (xo_3_iiiiiiiirrrrr no nv0 nv1 nv2 nv3 (nI nhh) nv5 (nI nww) (nI nkk) nb1 nb2 nb3 nb4 nb5), (xI nb1 cI 6 ng1), (xI nb2 cI 6 ng2), (xI nb3 cI 6 ng3), (xI nb4 cI 6 ng4), (xI nb5 cI 6 ng5), (xo_2_riiiii cs be hrs wa br bw bt), (xJ be cL 9 fb)] : va_W) ++ lvs cI 9 ad bd V G) sz) (([(xo_7_rrrrrrrrrii x ro ta no ac im tr pl cs ak xf xg), (xo_3_iiiiiiiirrrrr no nv0 nv1 nv2 nv3 (nI nhh) nv5 (nI nww) (nI nkk) nb1 nb2 nb3 nb4 nb5), (xI nb1 cI 6 ng1), (xI nb2 cI 6 ng2), (xI nb3 cI 6 ng3), (xI nb4 cI 6 ng4), (xI nb5 cI 6 ng5), (xo_2_riiiii cs be hrsn wan brn bwn btn), (xJ be cL 9 fb)] : va_W) ++ lvs cI 9 ad bd Vn Gn)) (va_A (([(xo_7_rrrrrrrrrii x ro ta no ac im tr pl cs ak xf xg), (xo_3_iiiiiiiirrrrr no nv0 nv1 nv2 nv3 (nI nhh) nv5 (nI nww) (nI nkk) nb1 nb2 nb3 nb4 nb5), (xI nb1 cI 6 ng1), (xI nb2 cI 6 ng2), (xI nb3 cI 6 ng3), (xI nb4 cI 6 ng4), (xI nb5 cI 6 ng5), (xo_2_riiiii cs be hrs wa br bw bt), (xJ be cL 9 fb)] : va_W) ++ lvs cI 9 ad bd V G) sz)) 0 0 (va_A (([(xo_7_rrrrrrrrrii x ro ta no ac im tr pl cs ak xf xg), (xo_3_iiiiiiiirrrrr no nv0 nv1 nv2 nv3 (nI nhh) nv5 (nI nww) (nI nkk) nb1 nb2 nb3 nb4 nb5), (xI nb1 cI 6 ng1), (xI nb2 cI 6 ng2), (xI nb3 cI 6 ng3), (xI nb4 cI 6 ng4), (xI nb5 cI 6 ng5), (xo_2_riiiii cs be hrs wa br bw bt), (xJ be cL 9 fb)] : va_W) ++ lvs cI 9 ad bd V G) sz) := by
  refine Met.ofW (cc := cX7_caps) (maxL := 3) (ret := (some .int)) (by decide) rfl ?_
  intro p e s m args below meth c s₁ B hml hv
  obtain ⟨rfl, hsz, hP, hK, hD0⟩ := hv
  have hx := B.exec
  have hb := B.bytes
  have hr := B.returns
  have hts := atoms_spec (ws := wsX7_caps) B.pre
  have hown : s.vm.findClass RX7 = some m.cls := findClass_of_methodNamed B.named
  have hlocks := B.notSynchronized
  subst hsz
  have hD := hD0.self (sz := s.heap.size)
  generalize hAe : va_A (([(xo_7_rrrrrrrrrii x ro ta no ac im tr pl cs ak xf xg), (xo_3_iiiiiiiirrrrr no nv0 nv1 nv2 nv3 (nI nhh) nv5 (nI nww) (nI nkk) nb1 nb2 nb3 nb4 nb5), (xI nb1 cI 6 ng1), (xI nb2 cI 6 ng2), (xI nb3 cI 6 ng3), (xI nb4 cI 6 ng4), (xI nb5 cI 6 ng5), (xo_2_riiiii cs be hrs wa br bw bt), (xJ be cL 9 fb)] : va_W) ++ lvs cI 9 ad bd V G) s.heap.size = A at hD ⊢
  have hA : ∀ q : Nat, s.heap.size ≤ q → A q := fun q h => by rw [← hAe]; exact Or.inr h
  have hS : va_S A s.heap s.heap [] := va_S.rf
  have hP : va_P (dC, dI) vwCl (([(xo_7_rrrrrrrrrii x ro ta no ac im tr pl cs ak xf xg), (xo_3_iiiiiiiirrrrr no nv0 nv1 nv2 nv3 (nI nhh) nv5 (nI nww) (nI nkk) nb1 nb2 nb3 nb4 nb5), (xI nb1 cI 6 ng1), (xI nb2 cI 6 ng2), (xI nb3 cI 6 ng3), (xI nb4 cI 6 ng4), (xI nb5 cI 6 ng5), (xo_2_riiiii cs be hrs wa br bw bt), (xJ be cL 9 fb)] : va_W) ++ lvs cI 9 ad bd V G) s.heap := hP
  have hl := lv_entry ([.ref x, .int k0, .int k1]) (n := 3) (Nat.le_of_ble_eq_true rfl)
  rw [lg_entry_eq]
  generalize (lg_sl ([.ref x, .int k0, .int k1]) ++ List.replicate (3 - (lg_sl ([.ref x, .int k0, .int k1])).length) Slot.unset).toArray = ls at hl ⊢
  have hl : lv_has ls 3 [(0, .ref x), (1, .int k0), (2, .int k1)] := hl
  refine lv_aload_n hx hb dX7_caps_0 rfl (lv_at hl 0 rfl) ?_
  refine va_get (D := (dC, dI)) (ci := 7) (v := .ref no) (C := RX7) (T := TX7) (N := 11) hx hb hts i_X7_caps_X7 hown hK hP 0 rfl rfl 2 (by decide) (hts _ mx_X7_caps_1) (fun _ h9 => h9) rfl dX7_caps_1 ?_
  have hPc_1 := hP.sub (ws' := [(xo_3_iiiiiiiirrrrr no nv0 nv1 nv2 nv3 (nI nhh) nv5 (nI nww) (nI nkk) nb1 nb2 nb3 nb4 nb5), (xI nb1 cI 6 ng1), (xI nb2 cI 6 ng2), (xI nb3 cI 6 ng3), (xI nb4 cI 6 ng4), (xI nb5 cI 6 ng5)]) [1, 2, 3, 4, 5, 6] rfl
  refine vp_callSi (W.runV (As := []) (rest := []) ⟨hx, hb, hml, hown, hts⟩ (r_X3_isTold l dC dI cI cZ cL cJ no nv0 nv1 nv2 nv3 nv5 nhh nww nkk nb1 nb2 nb3 nb4 nb5 ng1 ng2 ng3 ng4 ng5 (by omega) (nwb) (nkb)) (cwV 0 hts gX7_caps_X3_isTold rfl rfl rfl (by decide +kernel) ⟨Nat.le_of_ble_eq_true rfl, Nat.le_of_ble_eq_true rfl⟩) (pvP 3 1 hK hP rfl rfl hPc_1) rfl rfl hl.1 rfl (lv_room (Nat.le_of_ble_eq_true rfl)) dX7_caps_4 ⟨Nat.le_of_ble_eq_true rfl, Nat.le_of_ble_eq_true rfl⟩) (fun r_1 h_1 => ?_)
  rcases h_1 with ⟨h_1, f_1_0_0⟩ | ⟨h_1, f_1_1_0⟩
  · subst h_1
    refine lv_if_ne (tgt := 13) hx hb dX7_caps_7 (by decide) (fun c_ => absurd (by decide) c_) (fun _ => ?_)
    refine lv_ldc (own := RX7) (v := (-1000002)) hx hb hown (hts _ mx_X7_caps_2) dX7_caps_10 ?_
    have hX9 := cut2P (cx := [(xo_7_rrrrrrrrrii x ro ta no ac im tr pl cs ak xf xg), (xo_3_iiiiiiiirrrrr no nv0 nv1 nv2 nv3 (nI nhh) nv5 (nI nww) (nI nkk) nb1 nb2 nb3 nb4 nb5), (xI nb1 cI 6 ng1), (xI nb2 cI 6 ng2), (xI nb3 cI 6 ng3), (xI nb4 cI 6 ng4), (xI nb5 cI 6 ng5), (xo_2_riiiii cs be hrs wa br bw bt), (xJ be cL 9 fb)]) hP hD [0, 1, 2, 3, 4, 5, 6, 7, 8] (by decide +kernel) rfl
    exact W.iret (v := (-1000002)) hx hb hr (fun t ht hW => ⟨⟨(-1000002), (), rfl, (lf_X7_caps_1 nhb nwb nkb hLv hfb f_1_0_0), ⟨V, G, hrs, wa, br, bw, bt, va_Ht ht hX9.1, hX9.2⟩⟩, hS.F ht⟩) hS.2.2 dX7_caps_12
  · subst h_1
    refine lv_if_ne (tgt := 13) hx hb dX7_caps_7 (by decide) (fun _ => ?_) (fun c_ => absurd c_ (by decide))
    refine lv_iload_n hx hb dX7_caps_13 rfl (lv_at hl 1 rfl) ?_
    have hPc_4 := hP.sub (ws' := []) [] rfl
    refine vp_callSi (W.runS (As := [.int k0]) (rest := []) ⟨hx, hb, hml, hown, hts⟩ (r_X2_isLength l dC dI cI cZ cL cJ k0 ) (va_cwS 1 hts gX7_caps_X2_isLength rfl rfl rfl (by decide +kernel) ⟨Nat.le_of_ble_eq_true rfl, Nat.le_of_ble_eq_true rfl⟩) (psP hK hPc_4) rfl rfl hl.1 rfl (lv_room (Nat.le_of_ble_eq_true rfl)) dX7_caps_14 ⟨Nat.le_of_ble_eq_true rfl, Nat.le_of_ble_eq_true rfl⟩) (fun r_4 h_4 => ?_)
    rcases h_4 with ⟨h_4, f_4_0_0⟩ | ⟨h_4, f_4_1_0, f_4_1_1⟩
    · subst h_4
      refine lv_if_eq (tgt := 26) hx hb dX7_caps_17 (by decide) (fun _ => ?_) (fun c_ => absurd (by decide) c_)
      refine lv_ldc (own := RX7) (v := (-1000001)) hx hb hown (hts _ mx_X7_caps_3) dX7_caps_26 ?_
      have hX9 := cut2P (cx := [(xo_7_rrrrrrrrrii x ro ta no ac im tr pl cs ak xf xg), (xo_3_iiiiiiiirrrrr no nv0 nv1 nv2 nv3 (nI nhh) nv5 (nI nww) (nI nkk) nb1 nb2 nb3 nb4 nb5), (xI nb1 cI 6 ng1), (xI nb2 cI 6 ng2), (xI nb3 cI 6 ng3), (xI nb4 cI 6 ng4), (xI nb5 cI 6 ng5), (xo_2_riiiii cs be hrs wa br bw bt), (xJ be cL 9 fb)]) hP hD [0, 1, 2, 3, 4, 5, 6, 7, 8] (by decide +kernel) rfl
      exact W.iret (v := (-1000001)) hx hb hr (fun t ht hW => ⟨⟨(-1000001), (), rfl, (lf_X7_caps_2 nhb nwb nkb hLv hfb f_1_1_0 f_4_0_0), ⟨V, G, hrs, wa, br, bw, bt, va_Ht ht hX9.1, hX9.2⟩⟩, hS.F ht⟩) hS.2.2 dX7_caps_28
    · subst h_4
      obtain ⟨j_4, hj_4, rfl⟩ := vp_in_of f_4_1_0 (by omega)
      refine lv_if_eq (tgt := 26) hx hb dX7_caps_17 (by decide) (fun c_ => absurd c_ (by decide)) (fun _ => ?_)
      refine lv_iload_n hx hb dX7_caps_20 rfl (lv_at hl 2 rfl) ?_
      refine lv_bipush (v := (-2)) hx hb dX7_caps_21 (by decide) ?_
      refine lv_icmp_ge (tgt := 29) hx hb dX7_caps_23 (by decide) (fun c_8 => ?_) (fun c_8 => ?_)
      · skip
        refine lv_iload_n hx hb dX7_caps_29 rfl (lv_at hl 2 rfl) ?_
        refine lv_iload_n hx hb dX7_caps_30 rfl (lv_at hl 1 rfl) ?_
        refine lv_icmp_lt (tgt := 37) hx hb dX7_caps_31 (by decide) (fun c_9 => ?_) (fun c_9 => ?_)
        · skip
          refine lv_aload_n hx hb dX7_caps_37 rfl (lv_at hl 0 rfl) ?_
          refine va_get (D := (dC, dI)) (ci := 7) (v := .ref cs) (C := RX7) (T := TX7) (N := 11) hx hb hts i_X7_caps_X7 hown hK hP 0 rfl rfl 7 (by decide) (hts _ mx_X7_caps_5) (fun _ h9 => h9) rfl dX7_caps_38 ?_
          refine lv_aload_n hx hb dX7_caps_41 rfl (lv_at hl 0 rfl) ?_
          refine va_get (D := (dC, dI)) (ci := 7) (v := .ref no) (C := RX7) (T := TX7) (N := 11) hx hb hts i_X7_caps_X7 hown hK hP 0 rfl rfl 2 (by decide) (hts _ mx_X7_caps_1) (fun _ h9 => h9) rfl dX7_caps_42 ?_
          refine lv_iload_n hx hb dX7_caps_45 rfl (lv_at hl 1 rfl) ?_
          refine lv_iconst (v := (-1)) hx hb dX7_caps_46 (by decide) ?_
          have hc_10 := cutP (cx := [(xo_2_riiiii cs be hrs wa br bw bt), (xJ be cL 9 fb), (xo_3_iiiiiiiirrrrr no nv0 nv1 nv2 nv3 (nI nhh) nv5 (nI nww) (nI nkk) nb1 nb2 nb3 nb4 nb5), (xI nb1 cI 6 ng1), (xI nb2 cI 6 ng2), (xI nb3 cI 6 ng3), (xI nb4 cI 6 ng4), (xI nb5 cI 6 ng5)]) hP hD hS hA [7, 8, 1, 2, 3, 4, 5, 6] (by decide +kernel) rfl
          refine va_callv (va_runV (As := [.ref no, .int (nI j_4), .int (-1)]) (rest := []) ⟨hx, hb, hml, hown, hts⟩ (r_X2_search l dC dI cI cZ cL cJ s.heap.size cs be hrs wa br bw bt fb ad bd V G no nv0 nv1 nv2 nv3 nv5 nhh nww nkk nb1 nb2 nb3 nb4 nb5 ng1 ng2 ng3 ng4 ng5 j_4 (-1) (hfb) (nhb) (nwb) (nkb) (by omega) (tX_N hLv nwb nkb (by omega) (by assumption))) (cwV 3 hts gX7_caps_X2_search rfl rfl rfl (by decide +kernel) ⟨Nat.le_of_ble_eq_true rfl, Nat.le_of_ble_eq_true rfl⟩) (pvW 2 7 hK hP rfl rfl hc_10) rfl rfl hl.1 rfl (lv_room (Nat.le_of_ble_eq_true rfl)) dX7_caps_47 ⟨Nat.le_of_ble_eq_true rfl, Nat.le_of_ble_eq_true rfl⟩) hS (fun q _ h => hc_10.2.2 q h) hc_10.2.2 (fun u_10 t_10 H1 locs ht hvm h_10 hB hz1 hk1 hS => ?_)
          refine xl_5_3 hB (fun Vn_10 Gn_10 brn_10 bwn_10 btn_10 hP1 hD1 hF_10_0 => ?_)
          clear hB
          rw [ht] at hP1
          obtain ⟨hP, hD⟩ := va_joinP (wr := [(xo_7_rrrrrrrrrii x ro ta no ac im tr pl cs ak xf xg)]) (rx := [(xo_2_riiiii cs be (nI j_4) (-1) brn_10 bwn_10 btn_10), (xJ be cL 9 fb), (xo_3_iiiiiiiirrrrr no nv0 nv1 nv2 nv3 (nI nhh) nv5 (nI nww) (nI nkk) nb1 nb2 nb3 nb4 nb5), (xI nb1 cI 6 ng1), (xI nb2 cI 6 ng2), (xI nb3 cI 6 ng3), (xI nb4 cI 6 ng4), (xI nb5 cI 6 ng5)]) (pl1 := lvs cI 9 ad bd Vn_10 Gn_10) hP hD [7, 8, 1, 2, 3, 4, 5, 6] [0] rfl rfl (by decide +kernel) (by decide +kernel) hk1 hc_10.2.2 hP1 hD1
          generalize H1 = H at hP hS ⊢
          have hP : va_P (dC, dI) vwCl (([(xo_7_rrrrrrrrrii x ro ta no ac im tr pl cs ak xf xg), (xo_2_riiiii cs be (nI j_4) (-1) brn_10 bwn_10 btn_10), (xJ be cL 9 fb), (xo_3_iiiiiiiirrrrr no nv0 nv1 nv2 nv3 (nI nhh) nv5 (nI nww) (nI nkk) nb1 nb2 nb3 nb4 nb5), (xI nb1 cI 6 ng1), (xI nb2 cI 6 ng2), (xI nb3 cI 6 ng3), (xI nb4 cI 6 ng4), (xI nb5 cI 6 ng5)] : va_W) ++ lvs cI 9 ad bd Vn_10 Gn_10) H := hP
          have hD := dto hP hD
          refine lv_iload_n hx hb dX7_caps_50 rfl (lv_at hl 2 rfl) ?_
          refine lv_iconst (v := (-1)) hx hb dX7_caps_51 (by decide) ?_
          refine lv_icmp_ne (tgt := 63) hx hb dX7_caps_52 (by decide) (fun c_11 => ?_) (fun c_11 => ?_)
          · skip
            refine lv_iload_n hx hb dX7_caps_63 rfl (lv_at hl 2 rfl) ?_
            refine lv_bipush (v := (-2)) hx hb dX7_caps_64 (by decide) ?_
            refine lv_icmp_ne (tgt := 79) hx hb dX7_caps_66 (by decide) (fun c_12 => ?_) (fun c_12 => ?_)
            · skip
              refine lv_aload_n hx hb dX7_caps_79 rfl (lv_at hl 0 rfl) ?_
              refine va_get (D := (dC, dI)) (ci := 7) (v := .ref cs) (C := RX7) (T := TX7) (N := 11) hx hb hts i_X7_caps_X7 hown hK hP 0 rfl rfl 7 (by decide) (hts _ mx_X7_caps_5) (fun _ h9 => h9) rfl dX7_caps_80 ?_
              refine lv_iload_n hx hb dX7_caps_83 rfl (lv_at hl 2 rfl) ?_
              have hPc_13 := hP.sub (ws' := [(xo_2_riiiii cs be (nI j_4) (-1) brn_10 bwn_10 btn_10)]) [1] rfl
              refine vp_callSi (W.runV (As := [.int k1]) (rest := []) ⟨hx, hb, hml, hown, hts⟩ (r_X2_bestCap l dC dI cI cZ cL cJ cs be (nI j_4) (-1) brn_10 bwn_10 btn_10 k1 ) (cwV 1 hts gX7_caps_X2_bestCap rfl rfl rfl (by decide +kernel) ⟨Nat.le_of_ble_eq_true rfl, Nat.le_of_ble_eq_true rfl⟩) (pvP 2 1 hK hP rfl rfl hPc_13) rfl rfl hl.1 rfl (lv_room (Nat.le_of_ble_eq_true rfl)) dX7_caps_84 ⟨Nat.le_of_ble_eq_true rfl, Nat.le_of_ble_eq_true rfl⟩) (fun r_13 h_13 => ?_)
              have hX9 := cut2P (cx := [(xo_7_rrrrrrrrrii x ro ta no ac im tr pl cs ak xf xg), (xo_3_iiiiiiiirrrrr no nv0 nv1 nv2 nv3 (nI nhh) nv5 (nI nww) (nI nkk) nb1 nb2 nb3 nb4 nb5), (xI nb1 cI 6 ng1), (xI nb2 cI 6 ng2), (xI nb3 cI 6 ng3), (xI nb4 cI 6 ng4), (xI nb5 cI 6 ng5), (xo_2_riiiii cs be (nI j_4) (-1) brn_10 bwn_10 btn_10), (xJ be cL 9 fb)]) hP hD [0, 3, 4, 5, 6, 7, 8, 1, 2] (by decide +kernel) rfl
              exact W.iret (v := r_13) hx hb hr (fun t ht hW => ⟨⟨r_13, (), rfl, (lf_X7_caps_3 nhb nwb nkb hLv hfb f_1_1_0 f_4_1_1 hj_4 c_8 c_9 hF_10_0 c_11 c_12 h_13), ⟨Vn_10, Gn_10, (nI j_4), (-1), brn_10, bwn_10, btn_10, va_Ht ht hX9.1, hX9.2⟩⟩, hS.F ht⟩) hS.2.2 dX7_caps_87
            · skip
              refine lv_aload_n hx hb dX7_caps_69 rfl (lv_at hl 0 rfl) ?_
              refine va_get (D := (dC, dI)) (ci := 7) (v := .ref cs) (C := RX7) (T := TX7) (N := 11) hx hb hts i_X7_caps_X7 hown hK hP 0 rfl rfl 7 (by decide) (hts _ mx_X7_caps_5) (fun _ h9 => h9) rfl dX7_caps_70 ?_
              refine va_get (D := (dC, dI)) (ci := 2) (v := .int btn_10) (C := RX2) (T := TX2) (N := 6) hx hb hts i_X7_caps_X2 hown hK hP 1 rfl rfl 5 (by decide) (hts _ mx_X7_caps_7) (fun _ h9 => h9) rfl dX7_caps_73 ?_
              refine lv_goto (tgt := 87) hx hb dX7_caps_76 (by decide) ?_
              have hX9 := cut2P (cx := [(xo_7_rrrrrrrrrii x ro ta no ac im tr pl cs ak xf xg), (xo_3_iiiiiiiirrrrr no nv0 nv1 nv2 nv3 (nI nhh) nv5 (nI nww) (nI nkk) nb1 nb2 nb3 nb4 nb5), (xI nb1 cI 6 ng1), (xI nb2 cI 6 ng2), (xI nb3 cI 6 ng3), (xI nb4 cI 6 ng4), (xI nb5 cI 6 ng5), (xo_2_riiiii cs be (nI j_4) (-1) brn_10 bwn_10 btn_10), (xJ be cL 9 fb)]) hP hD [0, 3, 4, 5, 6, 7, 8, 1, 2] (by decide +kernel) rfl
              exact W.iret (v := btn_10) hx hb hr (fun t ht hW => ⟨⟨btn_10, (), rfl, (lf_X7_caps_4 nhb nwb nkb hLv hfb f_1_1_0 f_4_1_1 hj_4 c_8 c_9 hF_10_0 c_11 c_12), ⟨Vn_10, Gn_10, (nI j_4), (-1), brn_10, bwn_10, btn_10, va_Ht ht hX9.1, hX9.2⟩⟩, hS.F ht⟩) hS.2.2 dX7_caps_87
          · skip
            refine lv_aload_n hx hb dX7_caps_55 rfl (lv_at hl 0 rfl) ?_
            refine va_get (D := (dC, dI)) (ci := 7) (v := .ref cs) (C := RX7) (T := TX7) (N := 11) hx hb hts i_X7_caps_X7 hown hK hP 0 rfl rfl 7 (by decide) (hts _ mx_X7_caps_5) (fun _ h9 => h9) rfl dX7_caps_56 ?_
            refine va_get (D := (dC, dI)) (ci := 2) (v := .int bwn_10) (C := RX2) (T := TX2) (N := 6) hx hb hts i_X7_caps_X2 hown hK hP 1 rfl rfl 4 (by decide) (hts _ mx_X7_caps_6) (fun _ h9 => h9) rfl dX7_caps_59 ?_
            have hX9 := cut2P (cx := [(xo_7_rrrrrrrrrii x ro ta no ac im tr pl cs ak xf xg), (xo_3_iiiiiiiirrrrr no nv0 nv1 nv2 nv3 (nI nhh) nv5 (nI nww) (nI nkk) nb1 nb2 nb3 nb4 nb5), (xI nb1 cI 6 ng1), (xI nb2 cI 6 ng2), (xI nb3 cI 6 ng3), (xI nb4 cI 6 ng4), (xI nb5 cI 6 ng5), (xo_2_riiiii cs be (nI j_4) (-1) brn_10 bwn_10 btn_10), (xJ be cL 9 fb)]) hP hD [0, 3, 4, 5, 6, 7, 8, 1, 2] (by decide +kernel) rfl
            exact W.iret (v := bwn_10) hx hb hr (fun t ht hW => ⟨⟨bwn_10, (), rfl, (lf_X7_caps_5 nhb nwb nkb hLv hfb f_1_1_0 f_4_1_1 hj_4 c_8 c_9 hF_10_0 c_11), ⟨Vn_10, Gn_10, (nI j_4), (-1), brn_10, bwn_10, btn_10, va_Ht ht hX9.1, hX9.2⟩⟩, hS.F ht⟩) hS.2.2 dX7_caps_62
        · skip
          refine lv_ldc (own := RX7) (v := (-1000000)) hx hb hown (hts _ mx_X7_caps_4) dX7_caps_34 ?_
          have hX9 := cut2P (cx := [(xo_7_rrrrrrrrrii x ro ta no ac im tr pl cs ak xf xg), (xo_3_iiiiiiiirrrrr no nv0 nv1 nv2 nv3 (nI nhh) nv5 (nI nww) (nI nkk) nb1 nb2 nb3 nb4 nb5), (xI nb1 cI 6 ng1), (xI nb2 cI 6 ng2), (xI nb3 cI 6 ng3), (xI nb4 cI 6 ng4), (xI nb5 cI 6 ng5), (xo_2_riiiii cs be hrs wa br bw bt), (xJ be cL 9 fb)]) hP hD [0, 1, 2, 3, 4, 5, 6, 7, 8] (by decide +kernel) rfl
          exact W.iret (v := (-1000000)) hx hb hr (fun t ht hW => ⟨⟨(-1000000), (), rfl, (lf_X7_caps_6 nhb nwb nkb hLv hfb f_1_1_0 f_4_1_1 hj_4 c_8 c_9), ⟨V, G, hrs, wa, br, bw, bt, va_Ht ht hX9.1, hX9.2⟩⟩, hS.F ht⟩) hS.2.2 dX7_caps_36
      · skip
        refine lv_ldc (own := RX7) (v := (-1000001)) hx hb hown (hts _ mx_X7_caps_3) dX7_caps_26 ?_
        have hX9 := cut2P (cx := [(xo_7_rrrrrrrrrii x ro ta no ac im tr pl cs ak xf xg), (xo_3_iiiiiiiirrrrr no nv0 nv1 nv2 nv3 (nI nhh) nv5 (nI nww) (nI nkk) nb1 nb2 nb3 nb4 nb5), (xI nb1 cI 6 ng1), (xI nb2 cI 6 ng2), (xI nb3 cI 6 ng3), (xI nb4 cI 6 ng4), (xI nb5 cI 6 ng5), (xo_2_riiiii cs be hrs wa br bw bt), (xJ be cL 9 fb)]) hP hD [0, 1, 2, 3, 4, 5, 6, 7, 8] (by decide +kernel) rfl
        exact W.iret (v := (-1000001)) hx hb hr (fun t ht hW => ⟨⟨(-1000001), (), rfl, (lf_X7_caps_7 nhb nwb nkb hLv hfb f_1_1_0 f_4_1_1 hj_4 c_8), ⟨V, G, hrs, wa, br, bw, bt, va_Ht ht hX9.1, hX9.2⟩⟩, hS.F ht⟩) hS.2.2 dX7_caps_28
theorem lf_X7_had_1 {nv0 : Int32} {nv1 : Int32} {nv2 : Int32} {nv3 : Int32} {nv5 : Int32} {nhh : Nat} {nww : Nat} {nkk : Nat} {ng1 : Nat → Int32} {ng2 : Nat → Int32} {ng3 : Nat → Int32} {ng4 : Nat → Int32} {ng5 : Nat → Int32} {fb : Nat → Option Nat} {ad : Nat → Nat} {k0 : Int32} {k1 : Int32} (nhb : nhh ≤ 999) (nwb : nww ≤ 6) (nkb : nkk ≤ 6) (hLv : okLv (nrm nv0 nv1 nv2 nv3 nhh nv5 nww nkk ng1 ng2 ng3 ng4 ng5)) (hfb : ∀ i : Nat, i < 9 → fb i = some (ad i)) (f_1_0_0 : ¬ 0 < nv0) : (-1000002) = (a_had (nrm nv0 nv1 nv2 nv3 nhh nv5 nww nkk ng1 ng2 ng3 ng4 ng5) k0 k1) := by
  exact had_0 (((tX hLv nwb nkb (by omega)).1 f_1_0_0).1)
theorem lf_X7_had_2 {nv0 : Int32} {nv1 : Int32} {nv2 : Int32} {nv3 : Int32} {nv5 : Int32} {nhh : Nat} {nww : Nat} {nkk : Nat} {ng1 : Nat → Int32} {ng2 : Nat → Int32} {ng3 : Nat → Int32} {ng4 : Nat → Int32} {ng5 : Nat → Int32} {fb : Nat → Option Nat} {ad : Nat → Nat} {k0 : Int32} {k1 : Int32} (nhb : nhh ≤ 999) (nwb : nww ≤ 6) (nkb : nkk ≤ 6) (hLv : okLv (nrm nv0 nv1 nv2 nv3 nhh nv5 nww nkk ng1 ng2 ng3 ng4 ng5)) (hfb : ∀ i : Nat, i < 9 → fb i = some (ad i)) (f_1_1_0 : 0 < nv0) (c_4 : k0 < 0) : (-1000001) = (a_had (nrm nv0 nv1 nv2 nv3 nhh nv5 nww nkk ng1 ng2 ng3 ng4 ng5) k0 k1) := by
  exact had_n (((tX hLv nwb nkb (by omega)).2 f_1_1_0).1) (Or.inl (Or.inl c_4))
theorem lf_X7_had_3 {nv0 : Int32} {nv1 : Int32} {nv2 : Int32} {nv3 : Int32} {nv5 : Int32} {nhh : Nat} {nww : Nat} {nkk : Nat} {ng1 : Nat → Int32} {ng2 : Nat → Int32} {ng3 : Nat → Int32} {ng4 : Nat → Int32} {ng5 : Nat → Int32} {fb : Nat → Option Nat} {ad : Nat → Nat} {k0 : Int32} {k1 : Int32} {v_5 : Int32} (nhb : nhh ≤ 999) (nwb : nww ≤ 6) (nkb : nkk ≤ 6) (hLv : okLv (nrm nv0 nv1 nv2 nv3 nhh nv5 nww nkk ng1 ng2 ng3 ng4 ng5)) (hfb : ∀ i : Nat, i < 9 → fb i = some (ad i)) (f_1_1_0 : 0 < nv0) (c_4 : ¬ (k0 < 0)) (e_5 : v_5 = ((1 : Int32) <<< (((nI nkk) : Int32) &&& 31))) (c_6 : v_5 ≤ k0) : (-1000001) = (a_had (nrm nv0 nv1 nv2 nv3 nhh nv5 nww nkk ng1 ng2 ng3 ng4 ng5) k0 k1) := by
  first
  | exact had_n (((tX hLv nwb nkb (by omega)).2 f_1_1_0).1) (Or.inl (Or.inl c_4))
  | exact had_n (((tX hLv nwb nkb (by omega)).2 f_1_1_0).1) (Or.inl (Or.inr (by rw [nr4, ← e_5]; exact c_6)))
theorem lf_X7_had_4 {nv0 : Int32} {nv1 : Int32} {nv2 : Int32} {nv3 : Int32} {nv5 : Int32} {nhh : Nat} {nww : Nat} {nkk : Nat} {ng1 : Nat → Int32} {ng2 : Nat → Int32} {ng3 : Nat → Int32} {ng4 : Nat → Int32} {ng5 : Nat → Int32} {fb : Nat → Option Nat} {ad : Nat → Nat} {k0 : Int32} {k1 : Int32} {v_5 : Int32} (nhb : nhh ≤ 999) (nwb : nww ≤ 6) (nkb : nkk ≤ 6) (hLv : okLv (nrm nv0 nv1 nv2 nv3 nhh nv5 nww nkk ng1 ng2 ng3 ng4 ng5)) (hfb : ∀ i : Nat, i < 9 → fb i = some (ad i)) (f_1_1_0 : 0 < nv0) (c_4 : ¬ (k0 < 0)) (e_5 : v_5 = ((1 : Int32) <<< (((nI nkk) : Int32) &&& 31))) (c_6 : ¬ (v_5 ≤ k0)) (f_7_0_0 : (k1 < 1 ∨ 8 < k1)) : (-1000001) = (a_had (nrm nv0 nv1 nv2 nv3 nhh nv5 nww nkk ng1 ng2 ng3 ng4 ng5) k0 k1) := by
  first
  | exact had_n (((tX hLv nwb nkb (by omega)).2 f_1_1_0).1) (Or.inl (Or.inl c_4))
  | exact had_n (((tX hLv nwb nkb (by omega)).2 f_1_1_0).1) (Or.inl (Or.inr (by rw [nr4, ← e_5]; exact c_6)))
  | exact had_n (((tX hLv nwb nkb (by omega)).2 f_1_1_0).1) (Or.inr f_7_0_0)
theorem lf_X7_had_5 {nv0 : Int32} {nv1 : Int32} {nv2 : Int32} {nv3 : Int32} {nv5 : Int32} {nhh : Nat} {nww : Nat} {nkk : Nat} {ng1 : Nat → Int32} {ng2 : Nat → Int32} {ng3 : Nat → Int32} {ng4 : Nat → Int32} {ng5 : Nat → Int32} {fb : Nat → Option Nat} {ad : Nat → Nat} {k0 : Int32} {v_5 : Int32} {j_7 : Nat} {brn_11 : Int32} {bwn_11 : Int32} {btn_11 : Int32} (nhb : nhh ≤ 999) (nwb : nww ≤ 6) (nkb : nkk ≤ 6) (hLv : okLv (nrm nv0 nv1 nv2 nv3 nhh nv5 nww nkk ng1 ng2 ng3 ng4 ng5)) (hfb : ∀ i : Nat, i < 9 → fb i = some (ad i)) (f_1_1_0 : 0 < nv0) (c_4 : ¬ (k0 < 0)) (e_5 : v_5 = ((1 : Int32) <<< (((nI nkk) : Int32) &&& 31))) (c_6 : ¬ (v_5 ≤ k0)) (f_7_1_1 : ¬ ((nI j_7) < 1 ∨ 8 < (nI j_7))) (hj_7 : j_7 < 9) (hF_11_0 : trB k0 j_7 (nrm nv0 nv1 nv2 nv3 nhh nv5 nww nkk ng1 ng2 ng3 ng4 ng5) 0 0 (-1, 0, 0) = (bwn_11, btn_11, brn_11)) (c_12 : ¬ (bwn_11 = 0)) : btn_11 = (a_had (nrm nv0 nv1 nv2 nv3 nhh nv5 nww nkk ng1 ng2 ng3 ng4 ng5) k0 (nI j_7)) := by
  first
  | exact had_n (((tX hLv nwb nkb (by omega)).2 f_1_1_0).1) (Or.inl (Or.inl c_4))
  | exact had_n (((tX hLv nwb nkb (by omega)).2 f_1_1_0).1) (Or.inl (Or.inr (by rw [nr4, ← e_5]; exact c_6)))
  | exact (had_e (had_g (((tX hLv nwb nkb (by omega)).2 f_1_1_0).1) c_4 (by rw [nr4, ← e_5]; exact c_6) f_7_1_1 hj_7) hF_11_0).1 c_12
  | exact (had_e (had_g (((tX hLv nwb nkb (by omega)).2 f_1_1_0).1) c_4 (by rw [nr4, ← e_5]; exact c_6) f_7_1_1 hj_7) hF_11_0).2 c_12
theorem lf_X7_had_6 {nv0 : Int32} {nv1 : Int32} {nv2 : Int32} {nv3 : Int32} {nv5 : Int32} {nhh : Nat} {nww : Nat} {nkk : Nat} {ng1 : Nat → Int32} {ng2 : Nat → Int32} {ng3 : Nat → Int32} {ng4 : Nat → Int32} {ng5 : Nat → Int32} {fb : Nat → Option Nat} {ad : Nat → Nat} {k0 : Int32} {v_5 : Int32} {j_7 : Nat} {brn_11 : Int32} {bwn_11 : Int32} {btn_11 : Int32} (nhb : nhh ≤ 999) (nwb : nww ≤ 6) (nkb : nkk ≤ 6) (hLv : okLv (nrm nv0 nv1 nv2 nv3 nhh nv5 nww nkk ng1 ng2 ng3 ng4 ng5)) (hfb : ∀ i : Nat, i < 9 → fb i = some (ad i)) (f_1_1_0 : 0 < nv0) (c_4 : ¬ (k0 < 0)) (e_5 : v_5 = ((1 : Int32) <<< (((nI nkk) : Int32) &&& 31))) (c_6 : ¬ (v_5 ≤ k0)) (f_7_1_1 : ¬ ((nI j_7) < 1 ∨ 8 < (nI j_7))) (hj_7 : j_7 < 9) (hF_11_0 : trB k0 j_7 (nrm nv0 nv1 nv2 nv3 nhh nv5 nww nkk ng1 ng2 ng3 ng4 ng5) 0 0 (-1, 0, 0) = (bwn_11, btn_11, brn_11)) (c_12 : bwn_11 = 0) : (-1000000) = (a_had (nrm nv0 nv1 nv2 nv3 nhh nv5 nww nkk ng1 ng2 ng3 ng4 ng5) k0 (nI j_7)) := by
  first
  | exact had_n (((tX hLv nwb nkb (by omega)).2 f_1_1_0).1) (Or.inl (Or.inl c_4))
  | exact had_n (((tX hLv nwb nkb (by omega)).2 f_1_1_0).1) (Or.inl (Or.inr (by rw [nr4, ← e_5]; exact c_6)))
  | exact (had_e (had_g (((tX hLv nwb nkb (by omega)).2 f_1_1_0).1) c_4 (by rw [nr4, ← e_5]; exact c_6) f_7_1_1 hj_7) hF_11_0).1 c_12
  | exact (had_e (had_g (((tX hLv nwb nkb (by omega)).2 f_1_1_0).1) c_4 (by rw [nr4, ← e_5]; exact c_6) f_7_1_1 hj_7) hF_11_0).2 c_12
set_option maxHeartbeats 4000000 in
set_option maxRecDepth 100000 in
theorem r_X7_had (l : Launch) (dC : Nat → ClassId) (dI : Nat → Nat → Nat) (cI cZ cL cJ : ClassId) (sz : Nat) (x : Nat) (ro : Nat) (ta : Nat) (no : Nat) (ac : Nat) (im : Nat) (tr : Nat) (pl : Nat) (cs : Nat) (ak : Nat) (xf : Int32) (xg : Int32) (nv0 : Int32) (nv1 : Int32) (nv2 : Int32) (nv3 : Int32) (nv5 : Int32) (nhh : Nat) (nww : Nat) (nkk : Nat) (nb1 : Nat) (nb2 : Nat) (nb3 : Nat) (nb4 : Nat) (nb5 : Nat) (ng1 : Nat → Int32) (ng2 : Nat → Int32) (ng3 : Nat → Int32) (ng4 : Nat → Int32) (ng5 : Nat → Int32) (be : Nat) (hrs : Int32) (wa : Int32) (br : Int32) (bw : Int32) (bt : Int32) (fb : Nat → Option Nat) (ad : Nat → Nat) (bd : Nat → Nat → Nat) (V : Nat → Nat → Int32) (G : Nat → Nat → Nat → Int32) (k0 : Int32) (k1 : Int32) (nhb : nhh ≤ 999) (nwb : nww ≤ 6) (nkb : nkk ≤ 6) (hLv : okLv (nrm nv0 nv1 nv2 nv3 nhh nv5 nww nkk ng1 ng2 ng3 ng4 ng5)) (hfb : ∀ i : Nat, i < 9 → fb i = some (ad i)) : Met l yX7_had wsX7_had ({ frames := 16, cells := 0, slots := 0, locals := 3049 }) (va_Pc [.ref x, .int k0, .int k1] (fun U => U.heap.size = sz ∧ va_P (dC, dI) vwCl (([(xo_7_rrrrrrrrrii x ro ta no ac im tr pl cs ak xf xg), (xo_3_iiiiiiiirrrrr no nv0 nv1 nv2 nv3 (nI nhh) nv5 (nI nww) (nI nkk) nb1 nb2 nb3 nb4 nb5), (xI nb1 cI 6 ng1), (xI nb2 cI 6 ng2), (xI nb3 cI 6 ng3), (xI nb4 cI 6 ng4), (xI nb5 cI 6 ng5), (xo_2_riiiii cs be hrs wa br bw bt), (xJ be cL 9 fb)] : va_W) ++ lvs cI 9 ad bd V G) U.heap ∧ va_K (dC, dI) vwCl [(cI, .int), (cZ, .boolean), (cL, .object RX3), (cJ, .array .int)] U ∧ va_D (fun _ => True) (([(xo_7_rrrrrrrrrii x ro ta no ac im tr pl cs ak xf xg), (xo_3_iiiiiiiirrrrr no nv0 nv1 nv2 nv3 (nI nhh) nv5 (nI nww) (nI nkk) nb1 nb2 nb3 nb4 nb5), (xI nb1 cI 6 ng1), (xI nb2 cI 6 ng2), (xI nb3 cI 6 ng3), (xI nb4 cI 6 ng4), (xI nb5 cI 6 ng5), (xo_2_riiiii cs be hrs wa br bw bt), (xJ be cL 9 fb)] : va_W) ++ lvs cI 9 ad bd V G))) (va_Qi (fun r (_ : Unit) => r = (a_had (nrm nv0 nv1 nv2 nv3 nhh nv5 nww nkk ng1 ng2 ng3 ng4 ng5) k0 k1)) (fun (_ : Unit) t => ∃ (Vn : Nat → Nat → Int32) (Gn : Nat → Nat → Nat → Int32) (hrsn : Int32) (wan : Int32) (brn : Int32) (bwn : Int32) (btn : Int32), va_P (dC, dI) vwCl (([(xo_7_rrrrrrrrrii x ro ta no ac im tr pl cs ak xf xg), (xo_3_iiiiiiiirrrrr no nv0 nv1 nv2 nv3 (nI nhh) nv5 (nI nww) (nI nkk) nb1 nb2 nb3 nb4 nb5), (xI nb1 cI 6 ng1), (xI nb2 cI 6 ng2), (xI nb3 cI 6 ng3), (xI nb4 cI 6 ng4), (xI nb5 cI 6 ng5), (xo_2_riiiii cs be hrsn wan brn bwn btn), (xJ be cL 9 fb)] : va_W) ++ lvs cI 9 ad bd Vn Gn) t.heap ∧ va_D (va_A (([(xo_7_rrrrrrrrrii x ro ta no ac im tr pl cs ak xf xg), (xo_3_iiiiiiiirrrrr no nv0 nv1 nv2 nv3 (nI nhh) nv5 (nI nww) (nI nkk) nb1 nb2 nb3 nb4 nb5), (xI nb1 cI 6 ng1), (xI nb2 cI 6 ng2), (xI nb3 cI 6 ng3), (xI nb4 cI 6 ng4), (xI nb5 cI 6 ng5), (xo_2_riiiii cs be hrs wa br bw bt), (xJ be cL 9 fb)] : va_W) ++ lvs cI 9 ad bd V G) sz) (([(xo_7_rrrrrrrrrii x ro ta no ac im tr pl cs ak xf xg), (xo_3_iiiiiiiirrrrr no nv0 nv1 nv2 nv3 (nI nhh) nv5 (nI nww) (nI nkk) nb1 nb2 nb3 nb4 nb5), (xI nb1 cI 6 ng1), (xI nb2 cI 6 ng2), (xI nb3 cI 6 ng3), (xI nb4 cI 6 ng4), (xI nb5 cI 6 ng5), (xo_2_riiiii cs be hrsn wan brn bwn btn), (xJ be cL 9 fb)] : va_W) ++ lvs cI 9 ad bd Vn Gn)) (va_A (([(xo_7_rrrrrrrrrii x ro ta no ac im tr pl cs ak xf xg), (xo_3_iiiiiiiirrrrr no nv0 nv1 nv2 nv3 (nI nhh) nv5 (nI nww) (nI nkk) nb1 nb2 nb3 nb4 nb5), (xI nb1 cI 6 ng1), (xI nb2 cI 6 ng2), (xI nb3 cI 6 ng3), (xI nb4 cI 6 ng4), (xI nb5 cI 6 ng5), (xo_2_riiiii cs be hrs wa br bw bt), (xJ be cL 9 fb)] : va_W) ++ lvs cI 9 ad bd V G) sz)) 0 0 (va_A (([(xo_7_rrrrrrrrrii x ro ta no ac im tr pl cs ak xf xg), (xo_3_iiiiiiiirrrrr no nv0 nv1 nv2 nv3 (nI nhh) nv5 (nI nww) (nI nkk) nb1 nb2 nb3 nb4 nb5), (xI nb1 cI 6 ng1), (xI nb2 cI 6 ng2), (xI nb3 cI 6 ng3), (xI nb4 cI 6 ng4), (xI nb5 cI 6 ng5), (xo_2_riiiii cs be hrs wa br bw bt), (xJ be cL 9 fb)] : va_W) ++ lvs cI 9 ad bd V G) sz) := by
  refine Met.ofW (cc := cX7_had) (maxL := 3) (ret := (some .int)) (by decide) rfl ?_
  intro p e s m args below meth c s₁ B hml hv
  obtain ⟨rfl, hsz, hP, hK, hD0⟩ := hv
  have hx := B.exec
  have hb := B.bytes
  have hr := B.returns
  have hts := atoms_spec (ws := wsX7_had) B.pre
  have hown : s.vm.findClass RX7 = some m.cls := findClass_of_methodNamed B.named
  have hlocks := B.notSynchronized
  subst hsz
  have hD := hD0.self (sz := s.heap.size)
  generalize hAe : va_A (([(xo_7_rrrrrrrrrii x ro ta no ac im tr pl cs ak xf xg), (xo_3_iiiiiiiirrrrr no nv0 nv1 nv2 nv3 (nI nhh) nv5 (nI nww) (nI nkk) nb1 nb2 nb3 nb4 nb5), (xI nb1 cI 6 ng1), (xI nb2 cI 6 ng2), (xI nb3 cI 6 ng3), (xI nb4 cI 6 ng4), (xI nb5 cI 6 ng5), (xo_2_riiiii cs be hrs wa br bw bt), (xJ be cL 9 fb)] : va_W) ++ lvs cI 9 ad bd V G) s.heap.size = A at hD ⊢
  have hA : ∀ q : Nat, s.heap.size ≤ q → A q := fun q h => by rw [← hAe]; exact Or.inr h
  have hS : va_S A s.heap s.heap [] := va_S.rf
  have hP : va_P (dC, dI) vwCl (([(xo_7_rrrrrrrrrii x ro ta no ac im tr pl cs ak xf xg), (xo_3_iiiiiiiirrrrr no nv0 nv1 nv2 nv3 (nI nhh) nv5 (nI nww) (nI nkk) nb1 nb2 nb3 nb4 nb5), (xI nb1 cI 6 ng1), (xI nb2 cI 6 ng2), (xI nb3 cI 6 ng3), (xI nb4 cI 6 ng4), (xI nb5 cI 6 ng5), (xo_2_riiiii cs be hrs wa br bw bt), (xJ be cL 9 fb)] : va_W) ++ lvs cI 9 ad bd V G) s.heap := hP
  have hl := lv_entry ([.ref x, .int k0, .int k1]) (n := 3) (Nat.le_of_ble_eq_true rfl)
  rw [lg_entry_eq]
  generalize (lg_sl ([.ref x, .int k0, .int k1]) ++ List.replicate (3 - (lg_sl ([.ref x, .int k0, .int k1])).length) Slot.unset).toArray = ls at hl ⊢
  have hl : lv_has ls 3 [(0, .ref x), (1, .int k0), (2, .int k1)] := hl
  refine lv_aload_n hx hb dX7_had_0 rfl (lv_at hl 0 rfl) ?_
  refine va_get (D := (dC, dI)) (ci := 7) (v := .ref no) (C := RX7) (T := TX7) (N := 11) hx hb hts i_X7_had_X7 hown hK hP 0 rfl rfl 2 (by decide) (hts _ mx_X7_had_1) (fun _ h9 => h9) rfl dX7_had_1 ?_
  have hPc_1 := hP.sub (ws' := [(xo_3_iiiiiiiirrrrr no nv0 nv1 nv2 nv3 (nI nhh) nv5 (nI nww) (nI nkk) nb1 nb2 nb3 nb4 nb5), (xI nb1 cI 6 ng1), (xI nb2 cI 6 ng2), (xI nb3 cI 6 ng3), (xI nb4 cI 6 ng4), (xI nb5 cI 6 ng5)]) [1, 2, 3, 4, 5, 6] rfl
  refine vp_callSi (W.runV (As := []) (rest := []) ⟨hx, hb, hml, hown, hts⟩ (r_X3_isTold l dC dI cI cZ cL cJ no nv0 nv1 nv2 nv3 nv5 nhh nww nkk nb1 nb2 nb3 nb4 nb5 ng1 ng2 ng3 ng4 ng5 (by omega) (nwb) (nkb)) (cwV 0 hts gX7_had_X3_isTold rfl rfl rfl (by decide +kernel) ⟨Nat.le_of_ble_eq_true rfl, Nat.le_of_ble_eq_true rfl⟩) (pvP 3 1 hK hP rfl rfl hPc_1) rfl rfl hl.1 rfl (lv_room (Nat.le_of_ble_eq_true rfl)) dX7_had_4 ⟨Nat.le_of_ble_eq_true rfl, Nat.le_of_ble_eq_true rfl⟩) (fun r_1 h_1 => ?_)
  rcases h_1 with ⟨h_1, f_1_0_0⟩ | ⟨h_1, f_1_1_0⟩
  · subst h_1
    refine lv_if_ne (tgt := 13) hx hb dX7_had_7 (by decide) (fun c_ => absurd (by decide) c_) (fun _ => ?_)
    refine lv_ldc (own := RX7) (v := (-1000002)) hx hb hown (hts _ mx_X7_had_2) dX7_had_10 ?_
    have hX9 := cut2P (cx := [(xo_7_rrrrrrrrrii x ro ta no ac im tr pl cs ak xf xg), (xo_3_iiiiiiiirrrrr no nv0 nv1 nv2 nv3 (nI nhh) nv5 (nI nww) (nI nkk) nb1 nb2 nb3 nb4 nb5), (xI nb1 cI 6 ng1), (xI nb2 cI 6 ng2), (xI nb3 cI 6 ng3), (xI nb4 cI 6 ng4), (xI nb5 cI 6 ng5), (xo_2_riiiii cs be hrs wa br bw bt), (xJ be cL 9 fb)]) hP hD [0, 1, 2, 3, 4, 5, 6, 7, 8] (by decide +kernel) rfl
    exact W.iret (v := (-1000002)) hx hb hr (fun t ht hW => ⟨⟨(-1000002), (), rfl, (lf_X7_had_1 nhb nwb nkb hLv hfb f_1_0_0), ⟨V, G, hrs, wa, br, bw, bt, va_Ht ht hX9.1, hX9.2⟩⟩, hS.F ht⟩) hS.2.2 dX7_had_12
  · subst h_1
    refine lv_if_ne (tgt := 13) hx hb dX7_had_7 (by decide) (fun _ => ?_) (fun c_ => absurd c_ (by decide))
    refine lv_iload_n hx hb dX7_had_13 rfl (lv_at hl 1 rfl) ?_
    refine lv_if_lt (tgt := 37) hx hb dX7_had_14 (by decide) (fun c_4 => ?_) (fun c_4 => ?_)
    · skip
      refine lv_ldc (own := RX7) (v := (-1000001)) hx hb hown (hts _ mx_X7_had_4) dX7_had_37 ?_
      have hX9 := cut2P (cx := [(xo_7_rrrrrrrrrii x ro ta no ac im tr pl cs ak xf xg), (xo_3_iiiiiiiirrrrr no nv0 nv1 nv2 nv3 (nI nhh) nv5 (nI nww) (nI nkk) nb1 nb2 nb3 nb4 nb5), (xI nb1 cI 6 ng1), (xI nb2 cI 6 ng2), (xI nb3 cI 6 ng3), (xI nb4 cI 6 ng4), (xI nb5 cI 6 ng5), (xo_2_riiiii cs be hrs wa br bw bt), (xJ be cL 9 fb)]) hP hD [0, 1, 2, 3, 4, 5, 6, 7, 8] (by decide +kernel) rfl
      exact W.iret (v := (-1000001)) hx hb hr (fun t ht hW => ⟨⟨(-1000001), (), rfl, (lf_X7_had_2 nhb nwb nkb hLv hfb f_1_1_0 c_4), ⟨V, G, hrs, wa, br, bw, bt, va_Ht ht hX9.1, hX9.2⟩⟩, hS.F ht⟩) hS.2.2 dX7_had_39
    · skip
      refine lv_iload_n hx hb dX7_had_17 rfl (lv_at hl 1 rfl) ?_
      refine lv_iconst (v := 1) hx hb dX7_had_18 (by decide) ?_
      refine lv_aload_n hx hb dX7_had_19 rfl (lv_at hl 0 rfl) ?_
      refine va_get (D := (dC, dI)) (ci := 7) (v := .ref no) (C := RX7) (T := TX7) (N := 11) hx hb hts i_X7_had_X7 hown hK hP 0 rfl rfl 2 (by decide) (hts _ mx_X7_had_1) (fun _ h9 => h9) rfl dX7_had_20 ?_
      refine va_get (D := (dC, dI)) (ci := 3) (v := .int (nI nkk)) (C := RX3) (T := TX3) (N := 13) hx hb hts i_X7_had_X3 hown hK hP 1 rfl rfl 7 (by decide) (hts _ mx_X7_had_3) (fun _ h9 => h9) rfl dX7_had_23 ?_
      refine lv_ishl hx hb dX7_had_26 ?_
      refine lv_topi (fun v_5 e_5 => ?_)
      refine lv_icmp_ge (tgt := 37) hx hb dX7_had_27 (by decide) (fun c_6 => ?_) (fun c_6 => ?_)
      · skip
        refine lv_ldc (own := RX7) (v := (-1000001)) hx hb hown (hts _ mx_X7_had_4) dX7_had_37 ?_
        have hX9 := cut2P (cx := [(xo_7_rrrrrrrrrii x ro ta no ac im tr pl cs ak xf xg), (xo_3_iiiiiiiirrrrr no nv0 nv1 nv2 nv3 (nI nhh) nv5 (nI nww) (nI nkk) nb1 nb2 nb3 nb4 nb5), (xI nb1 cI 6 ng1), (xI nb2 cI 6 ng2), (xI nb3 cI 6 ng3), (xI nb4 cI 6 ng4), (xI nb5 cI 6 ng5), (xo_2_riiiii cs be hrs wa br bw bt), (xJ be cL 9 fb)]) hP hD [0, 1, 2, 3, 4, 5, 6, 7, 8] (by decide +kernel) rfl
        exact W.iret (v := (-1000001)) hx hb hr (fun t ht hW => ⟨⟨(-1000001), (), rfl, (lf_X7_had_3 nhb nwb nkb hLv hfb f_1_1_0 c_4 e_5 c_6), ⟨V, G, hrs, wa, br, bw, bt, va_Ht ht hX9.1, hX9.2⟩⟩, hS.F ht⟩) hS.2.2 dX7_had_39
      · skip
        refine lv_iload_n hx hb dX7_had_30 rfl (lv_at hl 2 rfl) ?_
        have hPc_7 := hP.sub (ws' := []) [] rfl
        refine vp_callSi (W.runS (As := [.int k1]) (rest := []) ⟨hx, hb, hml, hown, hts⟩ (r_X2_isLength l dC dI cI cZ cL cJ k1 ) (va_cwS 1 hts gX7_had_X2_isLength rfl rfl rfl (by decide +kernel) ⟨Nat.le_of_ble_eq_true rfl, Nat.le_of_ble_eq_true rfl⟩) (psP hK hPc_7) rfl rfl hl.1 rfl (lv_room (Nat.le_of_ble_eq_true rfl)) dX7_had_31 ⟨Nat.le_of_ble_eq_true rfl, Nat.le_of_ble_eq_true rfl⟩) (fun r_7 h_7 => ?_)
        rcases h_7 with ⟨h_7, f_7_0_0⟩ | ⟨h_7, f_7_1_0, f_7_1_1⟩
        · subst h_7
          refine lv_if_ne (tgt := 40) hx hb dX7_had_34 (by decide) (fun c_ => absurd (by decide) c_) (fun _ => ?_)
          refine lv_ldc (own := RX7) (v := (-1000001)) hx hb hown (hts _ mx_X7_had_4) dX7_had_37 ?_
          have hX9 := cut2P (cx := [(xo_7_rrrrrrrrrii x ro ta no ac im tr pl cs ak xf xg), (xo_3_iiiiiiiirrrrr no nv0 nv1 nv2 nv3 (nI nhh) nv5 (nI nww) (nI nkk) nb1 nb2 nb3 nb4 nb5), (xI nb1 cI 6 ng1), (xI nb2 cI 6 ng2), (xI nb3 cI 6 ng3), (xI nb4 cI 6 ng4), (xI nb5 cI 6 ng5), (xo_2_riiiii cs be hrs wa br bw bt), (xJ be cL 9 fb)]) hP hD [0, 1, 2, 3, 4, 5, 6, 7, 8] (by decide +kernel) rfl
          exact W.iret (v := (-1000001)) hx hb hr (fun t ht hW => ⟨⟨(-1000001), (), rfl, (lf_X7_had_4 nhb nwb nkb hLv hfb f_1_1_0 c_4 e_5 c_6 f_7_0_0), ⟨V, G, hrs, wa, br, bw, bt, va_Ht ht hX9.1, hX9.2⟩⟩, hS.F ht⟩) hS.2.2 dX7_had_39
        · subst h_7
          obtain ⟨j_7, hj_7, rfl⟩ := vp_in_of f_7_1_0 (by omega)
          refine lv_if_ne (tgt := 40) hx hb dX7_had_34 (by decide) (fun _ => ?_) (fun c_ => absurd c_ (by decide))
          refine lv_aload_n hx hb dX7_had_40 rfl (lv_at hl 0 rfl) ?_
          refine va_get (D := (dC, dI)) (ci := 7) (v := .ref cs) (C := RX7) (T := TX7) (N := 11) hx hb hts i_X7_had_X7 hown hK hP 0 rfl rfl 7 (by decide) (hts _ mx_X7_had_5) (fun _ h9 => h9) rfl dX7_had_41 ?_
          refine lv_aload_n hx hb dX7_had_44 rfl (lv_at hl 0 rfl) ?_
          refine va_get (D := (dC, dI)) (ci := 7) (v := .ref no) (C := RX7) (T := TX7) (N := 11) hx hb hts i_X7_had_X7 hown hK hP 0 rfl rfl 2 (by decide) (hts _ mx_X7_had_1) (fun _ h9 => h9) rfl dX7_had_45 ?_
          refine lv_iload_n hx hb dX7_had_48 rfl (lv_at hl 2 rfl) ?_
          refine lv_iload_n hx hb dX7_had_49 rfl (lv_at hl 1 rfl) ?_
          have hc_11 := cutP (cx := [(xo_2_riiiii cs be hrs wa br bw bt), (xJ be cL 9 fb), (xo_3_iiiiiiiirrrrr no nv0 nv1 nv2 nv3 (nI nhh) nv5 (nI nww) (nI nkk) nb1 nb2 nb3 nb4 nb5), (xI nb1 cI 6 ng1), (xI nb2 cI 6 ng2), (xI nb3 cI 6 ng3), (xI nb4 cI 6 ng4), (xI nb5 cI 6 ng5)]) hP hD hS hA [7, 8, 1, 2, 3, 4, 5, 6] (by decide +kernel) rfl
          refine va_callv (va_runV (As := [.ref no, .int (nI j_7), .int k0]) (rest := []) ⟨hx, hb, hml, hown, hts⟩ (r_X2_search l dC dI cI cZ cL cJ s.heap.size cs be hrs wa br bw bt fb ad bd V G no nv0 nv1 nv2 nv3 nv5 nhh nww nkk nb1 nb2 nb3 nb4 nb5 ng1 ng2 ng3 ng4 ng5 j_7 k0 (hfb) (nhb) (nwb) (nkb) (by omega) (tX_N hLv nwb nkb (by omega) (by assumption))) (cwV 3 hts gX7_had_X2_search rfl rfl rfl (by decide +kernel) ⟨Nat.le_of_ble_eq_true rfl, Nat.le_of_ble_eq_true rfl⟩) (pvW 2 7 hK hP rfl rfl hc_11) rfl rfl hl.1 rfl (lv_room (Nat.le_of_ble_eq_true rfl)) dX7_had_50 ⟨Nat.le_of_ble_eq_true rfl, Nat.le_of_ble_eq_true rfl⟩) hS (fun q _ h => hc_11.2.2 q h) hc_11.2.2 (fun u_11 t_11 H1 locs ht hvm h_11 hB hz1 hk1 hS => ?_)
          refine xl_5_3 hB (fun Vn_11 Gn_11 brn_11 bwn_11 btn_11 hP1 hD1 hF_11_0 => ?_)
          clear hB
          rw [ht] at hP1
          obtain ⟨hP, hD⟩ := va_joinP (wr := [(xo_7_rrrrrrrrrii x ro ta no ac im tr pl cs ak xf xg)]) (rx := [(xo_2_riiiii cs be (nI j_7) k0 brn_11 bwn_11 btn_11), (xJ be cL 9 fb), (xo_3_iiiiiiiirrrrr no nv0 nv1 nv2 nv3 (nI nhh) nv5 (nI nww) (nI nkk) nb1 nb2 nb3 nb4 nb5), (xI nb1 cI 6 ng1), (xI nb2 cI 6 ng2), (xI nb3 cI 6 ng3), (xI nb4 cI 6 ng4), (xI nb5 cI 6 ng5)]) (pl1 := lvs cI 9 ad bd Vn_11 Gn_11) hP hD [7, 8, 1, 2, 3, 4, 5, 6] [0] rfl rfl (by decide +kernel) (by decide +kernel) hk1 hc_11.2.2 hP1 hD1
          generalize H1 = H at hP hS ⊢
          have hP : va_P (dC, dI) vwCl (([(xo_7_rrrrrrrrrii x ro ta no ac im tr pl cs ak xf xg), (xo_2_riiiii cs be (nI j_7) k0 brn_11 bwn_11 btn_11), (xJ be cL 9 fb), (xo_3_iiiiiiiirrrrr no nv0 nv1 nv2 nv3 (nI nhh) nv5 (nI nww) (nI nkk) nb1 nb2 nb3 nb4 nb5), (xI nb1 cI 6 ng1), (xI nb2 cI 6 ng2), (xI nb3 cI 6 ng3), (xI nb4 cI 6 ng4), (xI nb5 cI 6 ng5)] : va_W) ++ lvs cI 9 ad bd Vn_11 Gn_11) H := hP
          have hD := dto hP hD
          refine lv_aload_n hx hb dX7_had_53 rfl (lv_at hl 0 rfl) ?_
          refine va_get (D := (dC, dI)) (ci := 7) (v := .ref cs) (C := RX7) (T := TX7) (N := 11) hx hb hts i_X7_had_X7 hown hK hP 0 rfl rfl 7 (by decide) (hts _ mx_X7_had_5) (fun _ h9 => h9) rfl dX7_had_54 ?_
          refine va_get (D := (dC, dI)) (ci := 2) (v := .int bwn_11) (C := RX2) (T := TX2) (N := 6) hx hb hts i_X7_had_X2 hown hK hP 1 rfl rfl 4 (by decide) (hts _ mx_X7_had_6) (fun _ h9 => h9) rfl dX7_had_57 ?_
          refine lv_if_ne (tgt := 68) hx hb dX7_had_60 (by decide) (fun c_12 => ?_) (fun c_12 => ?_)
          · skip
            refine lv_aload_n hx hb dX7_had_68 rfl (lv_at hl 0 rfl) ?_
            refine va_get (D := (dC, dI)) (ci := 7) (v := .ref cs) (C := RX7) (T := TX7) (N := 11) hx hb hts i_X7_had_X7 hown hK hP 0 rfl rfl 7 (by decide) (hts _ mx_X7_had_5) (fun _ h9 => h9) rfl dX7_had_69 ?_
            refine va_get (D := (dC, dI)) (ci := 2) (v := .int btn_11) (C := RX2) (T := TX2) (N := 6) hx hb hts i_X7_had_X2 hown hK hP 1 rfl rfl 5 (by decide) (hts _ mx_X7_had_8) (fun _ h9 => h9) rfl dX7_had_72 ?_
            have hX9 := cut2P (cx := [(xo_7_rrrrrrrrrii x ro ta no ac im tr pl cs ak xf xg), (xo_3_iiiiiiiirrrrr no nv0 nv1 nv2 nv3 (nI nhh) nv5 (nI nww) (nI nkk) nb1 nb2 nb3 nb4 nb5), (xI nb1 cI 6 ng1), (xI nb2 cI 6 ng2), (xI nb3 cI 6 ng3), (xI nb4 cI 6 ng4), (xI nb5 cI 6 ng5), (xo_2_riiiii cs be (nI j_7) k0 brn_11 bwn_11 btn_11), (xJ be cL 9 fb)]) hP hD [0, 3, 4, 5, 6, 7, 8, 1, 2] (by decide +kernel) rfl
            exact W.iret (v := btn_11) hx hb hr (fun t ht hW => ⟨⟨btn_11, (), rfl, (lf_X7_had_5 nhb nwb nkb hLv hfb f_1_1_0 c_4 e_5 c_6 f_7_1_1 hj_7 hF_11_0 c_12), ⟨Vn_11, Gn_11, (nI j_7), k0, brn_11, bwn_11, btn_11, va_Ht ht hX9.1, hX9.2⟩⟩, hS.F ht⟩) hS.2.2 dX7_had_75
          · skip
            refine lv_ldc (own := RX7) (v := (-1000000)) hx hb hown (hts _ mx_X7_had_7) dX7_had_63 ?_
            refine lv_goto (tgt := 75) hx hb dX7_had_65 (by decide) ?_
            have hX9 := cut2P (cx := [(xo_7_rrrrrrrrrii x ro ta no ac im tr pl cs ak xf xg), (xo_3_iiiiiiiirrrrr no nv0 nv1 nv2 nv3 (nI nhh) nv5 (nI nww) (nI nkk) nb1 nb2 nb3 nb4 nb5), (xI nb1 cI 6 ng1), (xI nb2 cI 6 ng2), (xI nb3 cI 6 ng3), (xI nb4 cI 6 ng4), (xI nb5 cI 6 ng5), (xo_2_riiiii cs be (nI j_7) k0 brn_11 bwn_11 btn_11), (xJ be cL 9 fb)]) hP hD [0, 3, 4, 5, 6, 7, 8, 1, 2] (by decide +kernel) rfl
            exact W.iret (v := (-1000000)) hx hb hr (fun t ht hW => ⟨⟨(-1000000), (), rfl, (lf_X7_had_6 nhb nwb nkb hLv hfb f_1_1_0 c_4 e_5 c_6 f_7_1_1 hj_7 hF_11_0 c_12), ⟨Vn_11, Gn_11, (nI j_7), k0, brn_11, bwn_11, btn_11, va_Ht ht hX9.1, hX9.2⟩⟩, hS.F ht⟩) hS.2.2 dX7_had_75
theorem lf_X4_comesTo_1 {nv0 : Int32} {nv1 : Int32} {nv2 : Int32} {nv3 : Int32} {nv5 : Int32} {nhh : Nat} {nww : Nat} {nkk : Nat} {ng1 : Nat → Int32} {ng2 : Nat → Int32} {ng3 : Nat → Int32} {ng4 : Nat → Int32} {ng5 : Nat → Int32} {t : Nat} {j : Nat} {f1n_1 : Nat → Int32} {f2n_1 : Nat → Int32} {f3n_1 : Nat → Int32} {f4n_1 : Nat → Int32} {f5n_1 : Nat → Int32} (nhb : nhh ≤ 999) (nwb : nww ≤ 6) (nkb : nkk ≤ 6) (htt : t ≤ 4) (hj : j ≤ 20) (hN : okN 999 (nrm nv0 nv1 nv2 nv3 nhh nv5 nww nkk ng1 ng2 ng3 ng4 ng5)) (hF_1_0 : (∀ jq : Nat, jq < 6 → f1n_1 jq = ng1 jq)) (hF_1_1 : (∀ jq : Nat, jq < 6 → f2n_1 jq = ng2 jq)) (hF_1_2 : (∀ jq : Nat, jq < 6 → f3n_1 jq = ng3 jq)) (hF_1_3 : (∀ jq : Nat, jq < 6 → f4n_1 jq = ng4 jq)) (hF_1_4 : (∀ jq : Nat, jq < 6 → f5n_1 jq = ng5 jq)) (hz_2 : 0 ≤ t) (hz2_2 : 0 ≤ 4) (hze_2 : 0 = if 4 < t then 4 else t) : (nrm nv0 nv1 nv2 nv3 nhh nv5 nww nkk f1n_1 f2n_1 f3n_1 f4n_1 f5n_1) = (nrm nv0 nv1 nv2 nv3 nhh nv5 nww nkk ng1 ng2 ng3 ng4 ng5) := by
  exact nr_eq nwb nkb hF_1_0 hF_1_1 hF_1_2 hF_1_3 hF_1_4
theorem lf_X4_comesTo_2 {nv0 : Int32} {nv1 : Int32} {nv2 : Int32} {nv3 : Int32} {nv5 : Int32} {nhh : Nat} {nww : Nat} {nkk : Nat} {ng1 : Nat → Int32} {ng2 : Nat → Int32} {ng3 : Nat → Int32} {ng4 : Nat → Int32} {ng5 : Nat → Int32} {t : Nat} {j : Nat} {f1n_1 : Nat → Int32} {f2n_1 : Nat → Int32} {f3n_1 : Nat → Int32} {f4n_1 : Nat → Int32} {f5n_1 : Nat → Int32} {v3n_4 : Int32} {g1n_4 : Nat → Int32} {r_4 : Int32} (nhb : nhh ≤ 999) (nwb : nww ≤ 6) (nkb : nkk ≤ 6) (htt : t ≤ 4) (hj : j ≤ 20) (hN : okN 999 (nrm nv0 nv1 nv2 nv3 nhh nv5 nww nkk ng1 ng2 ng3 ng4 ng5)) (hF_1_0 : (∀ jq : Nat, jq < 6 → f1n_1 jq = ng1 jq)) (hF_1_1 : (∀ jq : Nat, jq < 6 → f2n_1 jq = ng2 jq)) (hF_1_2 : (∀ jq : Nat, jq < 6 → f3n_1 jq = ng3 jq)) (hF_1_3 : (∀ jq : Nat, jq < 6 → f4n_1 jq = ng4 jq)) (hF_1_4 : (∀ jq : Nat, jq < 6 → f5n_1 jq = ng5 jq)) (hz_2 : 0 ≤ t) (hz2_2 : 0 ≤ 4) (hze_2 : 0 = if 4 < t then 4 else t) (hRe : (nrm nv0 nv1 nv2 nv3 nhh nv5 nww nkk f1n_1 f2n_1 f3n_1 f4n_1 f5n_1) = (nrm nv0 nv1 nv2 nv3 nhh nv5 nww nkk ng1 ng2 ng3 ng4 ng5)) (hF_4_0 : v3n_4 = nv3) (hF_4_1 : g1n_4 = f1n_1) (h_4 : r_4 = (btV j 0 true (nrm nv0 nv1 nv2 nv3 nhh nv5 nww nkk f1n_1 f2n_1 f3n_1 f4n_1 f5n_1))) : r_4 = (btV j t true (nrm nv0 nv1 nv2 nv3 nhh nv5 nww nkk ng1 ng2 ng3 ng4 ng5)) := by
  exact ct_e h_4 hRe hze_2 htt
theorem lf_X4_comesTo_3 {nv0 : Int32} {nv1 : Int32} {nv2 : Int32} {nv3 : Int32} {nv5 : Int32} {nhh : Nat} {nww : Nat} {nkk : Nat} {ng1 : Nat → Int32} {ng2 : Nat → Int32} {ng3 : Nat → Int32} {ng4 : Nat → Int32} {ng5 : Nat → Int32} {t : Nat} {j : Nat} {f1n_1 : Nat → Int32} {f2n_1 : Nat → Int32} {f3n_1 : Nat → Int32} {f4n_1 : Nat → Int32} {f5n_1 : Nat → Int32} (nhb : nhh ≤ 999) (nwb : nww ≤ 6) (nkb : nkk ≤ 6) (htt : t ≤ 4) (hj : j ≤ 20) (hN : okN 999 (nrm nv0 nv1 nv2 nv3 nhh nv5 nww nkk ng1 ng2 ng3 ng4 ng5)) (hF_1_0 : (∀ jq : Nat, jq < 6 → f1n_1 jq = ng1 jq)) (hF_1_1 : (∀ jq : Nat, jq < 6 → f2n_1 jq = ng2 jq)) (hF_1_2 : (∀ jq : Nat, jq < 6 → f3n_1 jq = ng3 jq)) (hF_1_3 : (∀ jq : Nat, jq < 6 → f4n_1 jq = ng4 jq)) (hF_1_4 : (∀ jq : Nat, jq < 6 → f5n_1 jq = ng5 jq)) (hz_2 : 1 ≤ t) (hz2_2 : 1 ≤ 4) (hze_2 : 1 = if 4 < t then 4 else t) : (nrm nv0 nv1 nv2 nv3 nhh nv5 nww nkk f1n_1 f2n_1 f3n_1 f4n_1 f5n_1) = (nrm nv0 nv1 nv2 nv3 nhh nv5 nww nkk ng1 ng2 ng3 ng4 ng5) := by
  exact nr_eq nwb nkb hF_1_0 hF_1_1 hF_1_2 hF_1_3 hF_1_4
theorem lf_X4_comesTo_4 {nv0 : Int32} {nv1 : Int32} {nv2 : Int32} {nv3 : Int32} {nv5 : Int32} {nhh : Nat} {nww : Nat} {nkk : Nat} {ng1 : Nat → Int32} {ng2 : Nat → Int32} {ng3 : Nat → Int32} {ng4 : Nat → Int32} {ng5 : Nat → Int32} {t : Nat} {j : Nat} {f1n_1 : Nat → Int32} {f2n_1 : Nat → Int32} {f3n_1 : Nat → Int32} {f4n_1 : Nat → Int32} {f5n_1 : Nat → Int32} {v3n_6 : Int32} {g1n_6 : Nat → Int32} {r_6 : Int32} (nhb : nhh ≤ 999) (nwb : nww ≤ 6) (nkb : nkk ≤ 6) (htt : t ≤ 4) (hj : j ≤ 20) (hN : okN 999 (nrm nv0 nv1 nv2 nv3 nhh nv5 nww nkk ng1 ng2 ng3 ng4 ng5)) (hF_1_0 : (∀ jq : Nat, jq < 6 → f1n_1 jq = ng1 jq)) (hF_1_1 : (∀ jq : Nat, jq < 6 → f2n_1 jq = ng2 jq)) (hF_1_2 : (∀ jq : Nat, jq < 6 → f3n_1 jq = ng3 jq)) (hF_1_3 : (∀ jq : Nat, jq < 6 → f4n_1 jq = ng4 jq)) (hF_1_4 : (∀ jq : Nat, jq < 6 → f5n_1 jq = ng5 jq)) (hz_2 : 1 ≤ t) (hz2_2 : 1 ≤ 4) (hze_2 : 1 = if 4 < t then 4 else t) (hRe : (nrm nv0 nv1 nv2 nv3 nhh nv5 nww nkk f1n_1 f2n_1 f3n_1 f4n_1 f5n_1) = (nrm nv0 nv1 nv2 nv3 nhh nv5 nww nkk ng1 ng2 ng3 ng4 ng5)) (hF_6_0 : v3n_6 = nv3) (hF_6_1 : g1n_6 = f1n_1) (h_6 : r_6 = (btV j 1 true (nrm nv0 nv1 nv2 nv3 nhh nv5 nww nkk f1n_1 f2n_1 f3n_1 f4n_1 f5n_1))) : r_6 = (btV j t true (nrm nv0 nv1 nv2 nv3 nhh nv5 nww nkk ng1 ng2 ng3 ng4 ng5)) := by
  exact ct_e h_6 hRe hze_2 htt
theorem lf_X4_comesTo_5 {nv0 : Int32} {nv1 : Int32} {nv2 : Int32} {nv3 : Int32} {nv5 : Int32} {nhh : Nat} {nww : Nat} {nkk : Nat} {ng1 : Nat → Int32} {ng2 : Nat → Int32} {ng3 : Nat → Int32} {ng4 : Nat → Int32} {ng5 : Nat → Int32} {t : Nat} {j : Nat} {f1n_1 : Nat → Int32} {f2n_1 : Nat → Int32} {f3n_1 : Nat → Int32} {f4n_1 : Nat → Int32} {f5n_1 : Nat → Int32} (nhb : nhh ≤ 999) (nwb : nww ≤ 6) (nkb : nkk ≤ 6) (htt : t ≤ 4) (hj : j ≤ 20) (hN : okN 999 (nrm nv0 nv1 nv2 nv3 nhh nv5 nww nkk ng1 ng2 ng3 ng4 ng5)) (hF_1_0 : (∀ jq : Nat, jq < 6 → f1n_1 jq = ng1 jq)) (hF_1_1 : (∀ jq : Nat, jq < 6 → f2n_1 jq = ng2 jq)) (hF_1_2 : (∀ jq : Nat, jq < 6 → f3n_1 jq = ng3 jq)) (hF_1_3 : (∀ jq : Nat, jq < 6 → f4n_1 jq = ng4 jq)) (hF_1_4 : (∀ jq : Nat, jq < 6 → f5n_1 jq = ng5 jq)) (hz_2 : 2 ≤ t) (hz2_2 : 2 ≤ 4) (hze_2 : 2 = if 4 < t then 4 else t) : (nrm nv0 nv1 nv2 nv3 nhh nv5 nww nkk f1n_1 f2n_1 f3n_1 f4n_1 f5n_1) = (nrm nv0 nv1 nv2 nv3 nhh nv5 nww nkk ng1 ng2 ng3 ng4 ng5) := by
  exact nr_eq nwb nkb hF_1_0 hF_1_1 hF_1_2 hF_1_3 hF_1_4
theorem lf_X4_comesTo_6 {nv0 : Int32} {nv1 : Int32} {nv2 : Int32} {nv3 : Int32} {nv5 : Int32} {nhh : Nat} {nww : Nat} {nkk : Nat} {ng1 : Nat → Int32} {ng2 : Nat → Int32} {ng3 : Nat → Int32} {ng4 : Nat → Int32} {ng5 : Nat → Int32} {t : Nat} {j : Nat} {f1n_1 : Nat → Int32} {f2n_1 : Nat → Int32} {f3n_1 : Nat → Int32} {f4n_1 : Nat → Int32} {f5n_1 : Nat → Int32} {v3n_8 : Int32} {g1n_8 : Nat → Int32} {r_8 : Int32} (nhb : nhh ≤ 999) (nwb : nww ≤ 6) (nkb : nkk ≤ 6) (htt : t ≤ 4) (hj : j ≤ 20) (hN : okN 999 (nrm nv0 nv1 nv2 nv3 nhh nv5 nww nkk ng1 ng2 ng3 ng4 ng5)) (hF_1_0 : (∀ jq : Nat, jq < 6 → f1n_1 jq = ng1 jq)) (hF_1_1 : (∀ jq : Nat, jq < 6 → f2n_1 jq = ng2 jq)) (hF_1_2 : (∀ jq : Nat, jq < 6 → f3n_1 jq = ng3 jq)) (hF_1_3 : (∀ jq : Nat, jq < 6 → f4n_1 jq = ng4 jq)) (hF_1_4 : (∀ jq : Nat, jq < 6 → f5n_1 jq = ng5 jq)) (hz_2 : 2 ≤ t) (hz2_2 : 2 ≤ 4) (hze_2 : 2 = if 4 < t then 4 else t) (hRe : (nrm nv0 nv1 nv2 nv3 nhh nv5 nww nkk f1n_1 f2n_1 f3n_1 f4n_1 f5n_1) = (nrm nv0 nv1 nv2 nv3 nhh nv5 nww nkk ng1 ng2 ng3 ng4 ng5)) (hF_8_0 : v3n_8 = nv3) (hF_8_1 : g1n_8 = f1n_1) (h_8 : r_8 = (btV j 2 true (nrm nv0 nv1 nv2 nv3 nhh nv5 nww nkk f1n_1 f2n_1 f3n_1 f4n_1 f5n_1))) : r_8 = (btV j t true (nrm nv0 nv1 nv2 nv3 nhh nv5 nww nkk ng1 ng2 ng3 ng4 ng5)) := by
  exact ct_e h_8 hRe hze_2 htt
theorem lf_X4_comesTo_7 {nv0 : Int32} {nv1 : Int32} {nv2 : Int32} {nv3 : Int32} {nv5 : Int32} {nhh : Nat} {nww : Nat} {nkk : Nat} {ng1 : Nat → Int32} {ng2 : Nat → Int32} {ng3 : Nat → Int32} {ng4 : Nat → Int32} {ng5 : Nat → Int32} {t : Nat} {j : Nat} {f1n_1 : Nat → Int32} {f2n_1 : Nat → Int32} {f3n_1 : Nat → Int32} {f4n_1 : Nat → Int32} {f5n_1 : Nat → Int32} (nhb : nhh ≤ 999) (nwb : nww ≤ 6) (nkb : nkk ≤ 6) (htt : t ≤ 4) (hj : j ≤ 20) (hN : okN 999 (nrm nv0 nv1 nv2 nv3 nhh nv5 nww nkk ng1 ng2 ng3 ng4 ng5)) (hF_1_0 : (∀ jq : Nat, jq < 6 → f1n_1 jq = ng1 jq)) (hF_1_1 : (∀ jq : Nat, jq < 6 → f2n_1 jq = ng2 jq)) (hF_1_2 : (∀ jq : Nat, jq < 6 → f3n_1 jq = ng3 jq)) (hF_1_3 : (∀ jq : Nat, jq < 6 → f4n_1 jq = ng4 jq)) (hF_1_4 : (∀ jq : Nat, jq < 6 → f5n_1 jq = ng5 jq)) (hz_2 : 3 ≤ t) (hz2_2 : 3 ≤ 4) (hze_2 : 3 = if 4 < t then 4 else t) : (nrm nv0 nv1 nv2 nv3 nhh nv5 nww nkk f1n_1 f2n_1 f3n_1 f4n_1 f5n_1) = (nrm nv0 nv1 nv2 nv3 nhh nv5 nww nkk ng1 ng2 ng3 ng4 ng5) := by
  exact nr_eq nwb nkb hF_1_0 hF_1_1 hF_1_2 hF_1_3 hF_1_4
theorem lf_X4_comesTo_8 {nv0 : Int32} {nv1 : Int32} {nv2 : Int32} {nv3 : Int32} {nv5 : Int32} {nhh : Nat} {nww : Nat} {nkk : Nat} {ng1 : Nat → Int32} {ng2 : Nat → Int32} {ng3 : Nat → Int32} {ng4 : Nat → Int32} {ng5 : Nat → Int32} {t : Nat} {j : Nat} {f1n_1 : Nat → Int32} {f2n_1 : Nat → Int32} {f3n_1 : Nat → Int32} {f4n_1 : Nat → Int32} {f5n_1 : Nat → Int32} {v3n_10 : Int32} {g1n_10 : Nat → Int32} {r_10 : Int32} (nhb : nhh ≤ 999) (nwb : nww ≤ 6) (nkb : nkk ≤ 6) (htt : t ≤ 4) (hj : j ≤ 20) (hN : okN 999 (nrm nv0 nv1 nv2 nv3 nhh nv5 nww nkk ng1 ng2 ng3 ng4 ng5)) (hF_1_0 : (∀ jq : Nat, jq < 6 → f1n_1 jq = ng1 jq)) (hF_1_1 : (∀ jq : Nat, jq < 6 → f2n_1 jq = ng2 jq)) (hF_1_2 : (∀ jq : Nat, jq < 6 → f3n_1 jq = ng3 jq)) (hF_1_3 : (∀ jq : Nat, jq < 6 → f4n_1 jq = ng4 jq)) (hF_1_4 : (∀ jq : Nat, jq < 6 → f5n_1 jq = ng5 jq)) (hz_2 : 3 ≤ t) (hz2_2 : 3 ≤ 4) (hze_2 : 3 = if 4 < t then 4 else t) (hRe : (nrm nv0 nv1 nv2 nv3 nhh nv5 nww nkk f1n_1 f2n_1 f3n_1 f4n_1 f5n_1) = (nrm nv0 nv1 nv2 nv3 nhh nv5 nww nkk ng1 ng2 ng3 ng4 ng5)) (hF_10_0 : v3n_10 = nv3) (hF_10_1 : g1n_10 = f1n_1) (h_10 : r_10 = (btV j 3 true (nrm nv0 nv1 nv2 nv3 nhh nv5 nww nkk f1n_1 f2n_1 f3n_1 f4n_1 f5n_1))) : r_10 = (btV j t true (nrm nv0 nv1 nv2 nv3 nhh nv5 nww nkk ng1 ng2 ng3 ng4 ng5)) := by
  exact ct_e h_10 hRe hze_2 htt
theorem lf_X4_comesTo_9 {nv0 : Int32} {nv1 : Int32} {nv2 : Int32} {nv3 : Int32} {nv5 : Int32} {nhh : Nat} {nww : Nat} {nkk : Nat} {ng1 : Nat → Int32} {ng2 : Nat → Int32} {ng3 : Nat → Int32} {ng4 : Nat → Int32} {ng5 : Nat → Int32} {t : Nat} {j : Nat} {f1n_1 : Nat → Int32} {f2n_1 : Nat → Int32} {f3n_1 : Nat → Int32} {f4n_1 : Nat → Int32} {f5n_1 : Nat → Int32} (nhb : nhh ≤ 999) (nwb : nww ≤ 6) (nkb : nkk ≤ 6) (htt : t ≤ 4) (hj : j ≤ 20) (hN : okN 999 (nrm nv0 nv1 nv2 nv3 nhh nv5 nww nkk ng1 ng2 ng3 ng4 ng5)) (hF_1_0 : (∀ jq : Nat, jq < 6 → f1n_1 jq = ng1 jq)) (hF_1_1 : (∀ jq : Nat, jq < 6 → f2n_1 jq = ng2 jq)) (hF_1_2 : (∀ jq : Nat, jq < 6 → f3n_1 jq = ng3 jq)) (hF_1_3 : (∀ jq : Nat, jq < 6 → f4n_1 jq = ng4 jq)) (hF_1_4 : (∀ jq : Nat, jq < 6 → f5n_1 jq = ng5 jq)) (hz_2 : 4 ≤ t) (hz2_2 : 4 ≤ 4) (hze_2 : 4 = if 4 < t then 4 else t) : (nrm nv0 nv1 nv2 nv3 nhh nv5 nww nkk f1n_1 f2n_1 f3n_1 f4n_1 f5n_1) = (nrm nv0 nv1 nv2 nv3 nhh nv5 nww nkk ng1 ng2 ng3 ng4 ng5) := by
  exact nr_eq nwb nkb hF_1_0 hF_1_1 hF_1_2 hF_1_3 hF_1_4
theorem lf_X4_comesTo_10 {nv0 : Int32} {nv1 : Int32} {nv2 : Int32} {nv3 : Int32} {nv5 : Int32} {nhh : Nat} {nww : Nat} {nkk : Nat} {ng1 : Nat → Int32} {ng2 : Nat → Int32} {ng3 : Nat → Int32} {ng4 : Nat → Int32} {ng5 : Nat → Int32} {t : Nat} {j : Nat} {f1n_1 : Nat → Int32} {f2n_1 : Nat → Int32} {f3n_1 : Nat → Int32} {f4n_1 : Nat → Int32} {f5n_1 : Nat → Int32} {v3n_12 : Int32} {g1n_12 : Nat → Int32} {r_12 : Int32} (nhb : nhh ≤ 999) (nwb : nww ≤ 6) (nkb : nkk ≤ 6) (htt : t ≤ 4) (hj : j ≤ 20) (hN : okN 999 (nrm nv0 nv1 nv2 nv3 nhh nv5 nww nkk ng1 ng2 ng3 ng4 ng5)) (hF_1_0 : (∀ jq : Nat, jq < 6 → f1n_1 jq = ng1 jq)) (hF_1_1 : (∀ jq : Nat, jq < 6 → f2n_1 jq = ng2 jq)) (hF_1_2 : (∀ jq : Nat, jq < 6 → f3n_1 jq = ng3 jq)) (hF_1_3 : (∀ jq : Nat, jq < 6 → f4n_1 jq = ng4 jq)) (hF_1_4 : (∀ jq : Nat, jq < 6 → f5n_1 jq = ng5 jq)) (hz_2 : 4 ≤ t) (hz2_2 : 4 ≤ 4) (hze_2 : 4 = if 4 < t then 4 else t) (hRe : (nrm nv0 nv1 nv2 nv3 nhh nv5 nww nkk f1n_1 f2n_1 f3n_1 f4n_1 f5n_1) = (nrm nv0 nv1 nv2 nv3 nhh nv5 nww nkk ng1 ng2 ng3 ng4 ng5)) (hF_12_0 : v3n_12 = nv3) (hF_12_1 : g1n_12 = f1n_1) (h_12 : r_12 = (btV j 4 true (nrm nv0 nv1 nv2 nv3 nhh nv5 nww nkk f1n_1 f2n_1 f3n_1 f4n_1 f5n_1))) : r_12 = (btV j t true (nrm nv0 nv1 nv2 nv3 nhh nv5 nww nkk ng1 ng2 ng3 ng4 ng5)) := by
  exact ct_e h_12 hRe hze_2 htt
set_option maxHeartbeats 4000000 in
set_option maxRecDepth 100000 in
theorem r_X4_comesTo (l : Launch) (dC : Nat → ClassId) (dI : Nat → Nat → Nat) (cI cZ cL cJ : ClassId) (sz : Nat) (pl : Nat) (bo : Nat) (ou : Nat) (phr : Int32) (bu0 : Int32) (bu1 : Int32) (bu2 : Int32) (bu3 : Int32) (bu4 : Int32) (bu5 : Int32) (bu6 : Int32) (bu7 : Int32) (ou0 : Int32) (ou1 : Int32) (ou2 : Int32) (ou3 : Int32) (ou4 : Int32) (ou5 : Int32) (ou6 : Int32) (ou7 : Int32) (bb1 : Nat) (ob1 : Nat) (bb2 : Nat) (ob2 : Nat) (bb3 : Nat) (ob3 : Nat) (bb4 : Nat) (ob4 : Nat) (bb5 : Nat) (ob5 : Nat) (bf1 : Nat → Int32) (of1 : Nat → Int32) (bf2 : Nat → Int32) (of2 : Nat → Int32) (bf3 : Nat → Int32) (of3 : Nat → Int32) (bf4 : Nat → Int32) (of4 : Nat → Int32) (bf5 : Nat → Int32) (of5 : Nat → Int32) (nv0 : Int32) (nv1 : Int32) (nv2 : Int32) (nv3 : Int32) (nv5 : Int32) (nhh : Nat) (nww : Nat) (nkk : Nat) (nb1 : Nat) (nb2 : Nat) (nb3 : Nat) (nb4 : Nat) (nb5 : Nat) (ng1 : Nat → Int32) (ng2 : Nat → Int32) (ng3 : Nat → Int32) (ng4 : Nat → Int32) (ng5 : Nat → Int32) (no : Nat) (t : Nat) (j : Nat) (nhb : nhh ≤ 999) (nwb : nww ≤ 6) (nkb : nkk ≤ 6) (htt : t ≤ 4) (hj : j ≤ 20) (hN : okN 999 (nrm nv0 nv1 nv2 nv3 nhh nv5 nww nkk ng1 ng2 ng3 ng4 ng5)) : Met l yX4_comesTo wsX4_comesTo ({ frames := 10, cells := 0, slots := 0, locals := 230 }) (va_Pc [.ref pl, .ref no, .int (nI t), .int (nI j)] (fun U => U.heap.size = sz ∧ va_P (dC, dI) vwCl [(xo_4_rri pl bo ou phr), (xo_3_iiiiiiiirrrrr bo bu0 bu1 bu2 bu3 bu4 bu5 bu6 bu7 bb1 bb2 bb3 bb4 bb5), (xI bb1 cI 6 bf1), (xI bb2 cI 6 bf2), (xI bb3 cI 6 bf3), (xI bb4 cI 6 bf4), (xI bb5 cI 6 bf5), (xo_3_iiiiiiiirrrrr ou ou0 ou1 ou2 ou3 ou4 ou5 ou6 ou7 ob1 ob2 ob3 ob4 ob5), (xI ob1 cI 6 of1), (xI ob2 cI 6 of2), (xI ob3 cI 6 of3), (xI ob4 cI 6 of4), (xI ob5 cI 6 of5), (xo_3_iiiiiiiirrrrr no nv0 nv1 nv2 nv3 (nI nhh) nv5 (nI nww) (nI nkk) nb1 nb2 nb3 nb4 nb5), (xI nb1 cI 6 ng1), (xI nb2 cI 6 ng2), (xI nb3 cI 6 ng3), (xI nb4 cI 6 ng4), (xI nb5 cI 6 ng5)] U.heap ∧ va_K (dC, dI) vwCl [(cI, .int), (cZ, .boolean), (cL, .object RX3), (cJ, .array .int)] U ∧ va_D (fun _ => True) [(xo_4_rri pl bo ou phr), (xo_3_iiiiiiiirrrrr bo bu0 bu1 bu2 bu3 bu4 bu5 bu6 bu7 bb1 bb2 bb3 bb4 bb5), (xI bb1 cI 6 bf1), (xI bb2 cI 6 bf2), (xI bb3 cI 6 bf3), (xI bb4 cI 6 bf4), (xI bb5 cI 6 bf5), (xo_3_iiiiiiiirrrrr ou ou0 ou1 ou2 ou3 ou4 ou5 ou6 ou7 ob1 ob2 ob3 ob4 ob5), (xI ob1 cI 6 of1), (xI ob2 cI 6 of2), (xI ob3 cI 6 of3), (xI ob4 cI 6 of4), (xI ob5 cI 6 of5), (xo_3_iiiiiiiirrrrr no nv0 nv1 nv2 nv3 (nI nhh) nv5 (nI nww) (nI nkk) nb1 nb2 nb3 nb4 nb5), (xI nb1 cI 6 ng1), (xI nb2 cI 6 ng2), (xI nb3 cI 6 ng3), (xI nb4 cI 6 ng4), (xI nb5 cI 6 ng5)])) (va_Qi (fun r (_ : Unit) => r = (btV j t true (nrm nv0 nv1 nv2 nv3 nhh nv5 nww nkk ng1 ng2 ng3 ng4 ng5))) (fun (_ : Unit) t => ∃ (phrn : Int32) (bu0n : Int32) (bu1n : Int32) (bu2n : Int32) (bu3n : Int32) (bu4n : Int32) (bu5n : Int32) (bu6n : Int32) (bu7n : Int32) (ou0n : Int32) (ou1n : Int32) (ou2n : Int32) (ou3n : Int32) (ou4n : Int32) (ou5n : Int32) (ou6n : Int32) (ou7n : Int32) (bf1n : Nat → Int32) (of1n : Nat → Int32) (bf2n : Nat → Int32) (of2n : Nat → Int32) (bf3n : Nat → Int32) (of3n : Nat → Int32) (bf4n : Nat → Int32) (of4n : Nat → Int32) (bf5n : Nat → Int32) (of5n : Nat → Int32), va_P (dC, dI) vwCl [(xo_4_rri pl bo ou phrn), (xo_3_iiiiiiiirrrrr bo bu0n bu1n bu2n bu3n bu4n bu5n bu6n bu7n bb1 bb2 bb3 bb4 bb5), (xI bb1 cI 6 bf1n), (xI bb2 cI 6 bf2n), (xI bb3 cI 6 bf3n), (xI bb4 cI 6 bf4n), (xI bb5 cI 6 bf5n), (xo_3_iiiiiiiirrrrr ou ou0n ou1n ou2n ou3n ou4n ou5n ou6n ou7n ob1 ob2 ob3 ob4 ob5), (xI ob1 cI 6 of1n), (xI ob2 cI 6 of2n), (xI ob3 cI 6 of3n), (xI ob4 cI 6 of4n), (xI ob5 cI 6 of5n), (xo_3_iiiiiiiirrrrr no nv0 nv1 nv2 nv3 (nI nhh) nv5 (nI nww) (nI nkk) nb1 nb2 nb3 nb4 nb5), (xI nb1 cI 6 ng1), (xI nb2 cI 6 ng2), (xI nb3 cI 6 ng3), (xI nb4 cI 6 ng4), (xI nb5 cI 6 ng5)] t.heap ∧ va_D (va_A [(xo_4_rri pl bo ou phr), (xo_3_iiiiiiiirrrrr bo bu0 bu1 bu2 bu3 bu4 bu5 bu6 bu7 bb1 bb2 bb3 bb4 bb5), (xI bb1 cI 6 bf1), (xI bb2 cI 6 bf2), (xI bb3 cI 6 bf3), (xI bb4 cI 6 bf4), (xI bb5 cI 6 bf5), (xo_3_iiiiiiiirrrrr ou ou0 ou1 ou2 ou3 ou4 ou5 ou6 ou7 ob1 ob2 ob3 ob4 ob5), (xI ob1 cI 6 of1), (xI ob2 cI 6 of2), (xI ob3 cI 6 of3), (xI ob4 cI 6 of4), (xI ob5 cI 6 of5), (xo_3_iiiiiiiirrrrr no nv0 nv1 nv2 nv3 (nI nhh) nv5 (nI nww) (nI nkk) nb1 nb2 nb3 nb4 nb5), (xI nb1 cI 6 ng1), (xI nb2 cI 6 ng2), (xI nb3 cI 6 ng3), (xI nb4 cI 6 ng4), (xI nb5 cI 6 ng5)] sz) [(xo_4_rri pl bo ou phrn), (xo_3_iiiiiiiirrrrr bo bu0n bu1n bu2n bu3n bu4n bu5n bu6n bu7n bb1 bb2 bb3 bb4 bb5), (xI bb1 cI 6 bf1n), (xI bb2 cI 6 bf2n), (xI bb3 cI 6 bf3n), (xI bb4 cI 6 bf4n), (xI bb5 cI 6 bf5n), (xo_3_iiiiiiiirrrrr ou ou0n ou1n ou2n ou3n ou4n ou5n ou6n ou7n ob1 ob2 ob3 ob4 ob5), (xI ob1 cI 6 of1n), (xI ob2 cI 6 of2n), (xI ob3 cI 6 of3n), (xI ob4 cI 6 of4n), (xI ob5 cI 6 of5n), (xo_3_iiiiiiiirrrrr no nv0 nv1 nv2 nv3 (nI nhh) nv5 (nI nww) (nI nkk) nb1 nb2 nb3 nb4 nb5), (xI nb1 cI 6 ng1), (xI nb2 cI 6 ng2), (xI nb3 cI 6 ng3), (xI nb4 cI 6 ng4), (xI nb5 cI 6 ng5)]) (va_A [(xo_4_rri pl bo ou phr), (xo_3_iiiiiiiirrrrr bo bu0 bu1 bu2 bu3 bu4 bu5 bu6 bu7 bb1 bb2 bb3 bb4 bb5), (xI bb1 cI 6 bf1), (xI bb2 cI 6 bf2), (xI bb3 cI 6 bf3), (xI bb4 cI 6 bf4), (xI bb5 cI 6 bf5), (xo_3_iiiiiiiirrrrr ou ou0 ou1 ou2 ou3 ou4 ou5 ou6 ou7 ob1 ob2 ob3 ob4 ob5), (xI ob1 cI 6 of1), (xI ob2 cI 6 of2), (xI ob3 cI 6 of3), (xI ob4 cI 6 of4), (xI ob5 cI 6 of5), (xo_3_iiiiiiiirrrrr no nv0 nv1 nv2 nv3 (nI nhh) nv5 (nI nww) (nI nkk) nb1 nb2 nb3 nb4 nb5), (xI nb1 cI 6 ng1), (xI nb2 cI 6 ng2), (xI nb3 cI 6 ng3), (xI nb4 cI 6 ng4), (xI nb5 cI 6 ng5)] sz)) 0 0 (va_A [(xo_4_rri pl bo ou phr), (xo_3_iiiiiiiirrrrr bo bu0 bu1 bu2 bu3 bu4 bu5 bu6 bu7 bb1 bb2 bb3 bb4 bb5), (xI bb1 cI 6 bf1), (xI bb2 cI 6 bf2), (xI bb3 cI 6 bf3), (xI bb4 cI 6 bf4), (xI bb5 cI 6 bf5), (xo_3_iiiiiiiirrrrr ou ou0 ou1 ou2 ou3 ou4 ou5 ou6 ou7 ob1 ob2 ob3 ob4 ob5), (xI ob1 cI 6 of1), (xI ob2 cI 6 of2), (xI ob3 cI 6 of3), (xI ob4 cI 6 of4), (xI ob5 cI 6 of5), (xo_3_iiiiiiiirrrrr no nv0 nv1 nv2 nv3 (nI nhh) nv5 (nI nww) (nI nkk) nb1 nb2 nb3 nb4 nb5), (xI nb1 cI 6 ng1), (xI nb2 cI 6 ng2), (xI nb3 cI 6 ng3), (xI nb4 cI 6 ng4), (xI nb5 cI 6 ng5)] sz) := by
  refine Met.ofW (cc := cX4_comesTo) (maxL := 4) (ret := (some .int)) (by decide) rfl ?_
  intro p e s m args below meth c s₁ B hml hv
  obtain ⟨rfl, hsz, hP, hK, hD0⟩ := hv
  have hx := B.exec
  have hb := B.bytes
  have hr := B.returns
  have hts := atoms_spec (ws := wsX4_comesTo) B.pre
  have hown : s.vm.findClass RX4 = some m.cls := findClass_of_methodNamed B.named
  have hlocks := B.notSynchronized
  subst hsz
  have hD := hD0.self (sz := s.heap.size)
  generalize hAe : va_A [(xo_4_rri pl bo ou phr), (xo_3_iiiiiiiirrrrr bo bu0 bu1 bu2 bu3 bu4 bu5 bu6 bu7 bb1 bb2 bb3 bb4 bb5), (xI bb1 cI 6 bf1), (xI bb2 cI 6 bf2), (xI bb3 cI 6 bf3), (xI bb4 cI 6 bf4), (xI bb5 cI 6 bf5), (xo_3_iiiiiiiirrrrr ou ou0 ou1 ou2 ou3 ou4 ou5 ou6 ou7 ob1 ob2 ob3 ob4 ob5), (xI ob1 cI 6 of1), (xI ob2 cI 6 of2), (xI ob3 cI 6 of3), (xI ob4 cI 6 of4), (xI ob5 cI 6 of5), (xo_3_iiiiiiiirrrrr no nv0 nv1 nv2 nv3 (nI nhh) nv5 (nI nww) (nI nkk) nb1 nb2 nb3 nb4 nb5), (xI nb1 cI 6 ng1), (xI nb2 cI 6 ng2), (xI nb3 cI 6 ng3), (xI nb4 cI 6 ng4), (xI nb5 cI 6 ng5)] s.heap.size = A at hD ⊢
  have hA : ∀ q : Nat, s.heap.size ≤ q → A q := fun q h => by rw [← hAe]; exact Or.inr h
  have hS : va_S A s.heap s.heap [] := va_S.rf
  have hP : va_P (dC, dI) vwCl [(xo_4_rri pl bo ou phr), (xo_3_iiiiiiiirrrrr bo bu0 bu1 bu2 bu3 bu4 bu5 bu6 bu7 bb1 bb2 bb3 bb4 bb5), (xI bb1 cI 6 bf1), (xI bb2 cI 6 bf2), (xI bb3 cI 6 bf3), (xI bb4 cI 6 bf4), (xI bb5 cI 6 bf5), (xo_3_iiiiiiiirrrrr ou ou0 ou1 ou2 ou3 ou4 ou5 ou6 ou7 ob1 ob2 ob3 ob4 ob5), (xI ob1 cI 6 of1), (xI ob2 cI 6 of2), (xI ob3 cI 6 of3), (xI ob4 cI 6 of4), (xI ob5 cI 6 of5), (xo_3_iiiiiiiirrrrr no nv0 nv1 nv2 nv3 (nI nhh) nv5 (nI nww) (nI nkk) nb1 nb2 nb3 nb4 nb5), (xI nb1 cI 6 ng1), (xI nb2 cI 6 ng2), (xI nb3 cI 6 ng3), (xI nb4 cI 6 ng4), (xI nb5 cI 6 ng5)] s.heap := hP
  have hl := lv_entry ([.ref pl, .ref no, .int (nI t), .int (nI j)]) (n := 4) (Nat.le_of_ble_eq_true rfl)
  rw [lg_entry_eq]
  generalize (lg_sl ([.ref pl, .ref no, .int (nI t), .int (nI j)]) ++ List.replicate (4 - (lg_sl ([.ref pl, .ref no, .int (nI t), .int (nI j)])).length) Slot.unset).toArray = ls at hl ⊢
  have hl : lv_has ls 4 [(0, .ref pl), (1, .ref no), (2, .int (nI t)), (3, .int (nI j))] := hl
  refine lv_aload_n hx hb dX4_comesTo_0 rfl (lv_at hl 0 rfl) ?_
  refine va_get (D := (dC, dI)) (ci := 4) (v := .ref bo) (C := RX4) (T := TX4) (N := 3) hx hb hts i_X4_comesTo_X4 hown hK hP 0 rfl rfl 0 (by decide) (hts _ mx_X4_comesTo_1) (fun _ h9 => h9) rfl dX4_comesTo_1 ?_
  refine lv_aload_n hx hb dX4_comesTo_4 rfl (lv_at hl 1 rfl) ?_
  have hc_1 := cutW (wc := [(xo_3_iiiiiiiirrrrr bo bu0 bu1 bu2 bu3 bu4 bu5 bu6 bu7 bb1 bb2 bb3 bb4 bb5), (xI bb1 cI 6 bf1), (xI bb2 cI 6 bf2), (xI bb3 cI 6 bf3), (xI bb4 cI 6 bf4), (xI bb5 cI 6 bf5), (xo_3_iiiiiiiirrrrr no nv0 nv1 nv2 nv3 (nI nhh) nv5 (nI nww) (nI nkk) nb1 nb2 nb3 nb4 nb5), (xI nb1 cI 6 ng1), (xI nb2 cI 6 ng2), (xI nb3 cI 6 ng3), (xI nb4 cI 6 ng4), (xI nb5 cI 6 ng5)]) hP hD hS hA [1, 2, 3, 4, 5, 6, 13, 14, 15, 16, 17, 18] (by decide +kernel) rfl
  refine va_callv (va_runV (As := [.ref no]) (rest := []) ⟨hx, hb, hml, hown, hts⟩ (r_X3_becomeLike l dC dI cI cZ cL cJ s.heap.size bo bu0 bu1 bu2 bu3 bu4 bu5 bu6 bu7 bb1 bb2 bb3 bb4 bb5 bf1 bf2 bf3 bf4 bf5 no nv0 nv1 nv2 nv3 (nI nhh) nv5 (nI nww) (nI nkk) nb1 nb2 nb3 nb4 nb5 ng1 ng2 ng3 ng4 ng5 ) (cwV 1 hts gX4_comesTo_X3_becomeLike rfl rfl rfl (by decide +kernel) ⟨Nat.le_of_ble_eq_true rfl, Nat.le_of_ble_eq_true rfl⟩) (pvW 3 1 hK hP rfl rfl hc_1) rfl rfl hl.1 rfl (lv_room (Nat.le_of_ble_eq_true rfl)) dX4_comesTo_5 ⟨Nat.le_of_ble_eq_true rfl, Nat.le_of_ble_eq_true rfl⟩) hS (fun q _ h => hc_1.2.2 q h) hc_1.2.2 (fun u_1 t_1 H1 locs ht hvm h_1 hB hz1 hk1 hS => ?_)
  refine xl_5_7 hB (fun f1n_1 f2n_1 f3n_1 f4n_1 f5n_1 hP1 hD1 hF_1_0 hF_1_1 hF_1_2 hF_1_3 hF_1_4 => ?_)
  clear hB
  rw [ht] at hP1
  obtain ⟨hP, hD⟩ := va_join (wr := [(xo_4_rri pl bo ou phr), (xo_3_iiiiiiiirrrrr ou ou0 ou1 ou2 ou3 ou4 ou5 ou6 ou7 ob1 ob2 ob3 ob4 ob5), (xI ob1 cI 6 of1), (xI ob2 cI 6 of2), (xI ob3 cI 6 of3), (xI ob4 cI 6 of4), (xI ob5 cI 6 of5)]) (w1 := [(xo_3_iiiiiiiirrrrr bo nv0 nv1 nv2 nv3 (nI nhh) nv5 (nI nww) (nI nkk) bb1 bb2 bb3 bb4 bb5), (xI bb1 cI 6 f1n_1), (xI bb2 cI 6 f2n_1), (xI bb3 cI 6 f3n_1), (xI bb4 cI 6 f4n_1), (xI bb5 cI 6 f5n_1), (xo_3_iiiiiiiirrrrr no nv0 nv1 nv2 nv3 (nI nhh) nv5 (nI nww) (nI nkk) nb1 nb2 nb3 nb4 nb5), (xI nb1 cI 6 ng1), (xI nb2 cI 6 ng2), (xI nb3 cI 6 ng3), (xI nb4 cI 6 ng4), (xI nb5 cI 6 ng5)]) hP hD [1, 2, 3, 4, 5, 6, 13, 14, 15, 16, 17, 18] [0, 7, 8, 9, 10, 11, 12] rfl rfl (by decide +kernel) (by decide +kernel) hk1 hc_1.2.2 hP1 hD1
  generalize H1 = H at hP hS ⊢
  have hP : va_P (dC, dI) vwCl [(xo_4_rri pl bo ou phr), (xo_3_iiiiiiiirrrrr ou ou0 ou1 ou2 ou3 ou4 ou5 ou6 ou7 ob1 ob2 ob3 ob4 ob5), (xI ob1 cI 6 of1), (xI ob2 cI 6 of2), (xI ob3 cI 6 of3), (xI ob4 cI 6 of4), (xI ob5 cI 6 of5), (xo_3_iiiiiiiirrrrr bo nv0 nv1 nv2 nv3 (nI nhh) nv5 (nI nww) (nI nkk) bb1 bb2 bb3 bb4 bb5), (xI bb1 cI 6 f1n_1), (xI bb2 cI 6 f2n_1), (xI bb3 cI 6 f3n_1), (xI bb4 cI 6 f4n_1), (xI bb5 cI 6 f5n_1), (xo_3_iiiiiiiirrrrr no nv0 nv1 nv2 nv3 (nI nhh) nv5 (nI nww) (nI nkk) nb1 nb2 nb3 nb4 nb5), (xI nb1 cI 6 ng1), (xI nb2 cI 6 ng2), (xI nb3 cI 6 ng3), (xI nb4 cI 6 ng4), (xI nb5 cI 6 ng5)] H := hP
  have hD := dto hP hD
  refine lv_aload_n hx hb dX4_comesTo_8 rfl (lv_at hl 0 rfl) ?_
  refine lv_iload_n hx hb dX4_comesTo_9 rfl (lv_at hl 3 rfl) ?_
  refine va_put (D := (dC, dI)) (ci := 4) (v := .int (nI j)) (ty := .int) (C := RX4) (T := TX4) (N := 3) hx hb hts i_X4_comesTo_X4 tyX4 tyX4_ok nmX4 hown hK hP hD hS 0 rfl rfl 2 (by decide) (hts _ mx_X4_comesTo_2) (fun _ h9 => h9) rfl (by decide +kernel) rfl rfl (Nat.le_of_ble_eq_true rfl) dX4_comesTo_10 (fun H locs hP hD hS => ?_)
  have hP : va_P (dC, dI) vwCl [(xo_4_rri pl bo ou (nI j)), (xo_3_iiiiiiiirrrrr ou ou0 ou1 ou2 ou3 ou4 ou5 ou6 ou7 ob1 ob2 ob3 ob4 ob5), (xI ob1 cI 6 of1), (xI ob2 cI 6 of2), (xI ob3 cI 6 of3), (xI ob4 cI 6 of4), (xI ob5 cI 6 of5), (xo_3_iiiiiiiirrrrr bo nv0 nv1 nv2 nv3 (nI nhh) nv5 (nI nww) (nI nkk) bb1 bb2 bb3 bb4 bb5), (xI bb1 cI 6 f1n_1), (xI bb2 cI 6 f2n_1), (xI bb3 cI 6 f3n_1), (xI bb4 cI 6 f4n_1), (xI bb5 cI 6 f5n_1), (xo_3_iiiiiiiirrrrr no nv0 nv1 nv2 nv3 (nI nhh) nv5 (nI nww) (nI nkk) nb1 nb2 nb3 nb4 nb5), (xI nb1 cI 6 ng1), (xI nb2 cI 6 ng2), (xI nb3 cI 6 ng3), (xI nb4 cI 6 ng4), (xI nb5 cI 6 ng5)] H := hP
  have hD := dto hP hD
  refine lv_aload_n hx hb dX4_comesTo_13 rfl (lv_at hl 0 rfl) ?_
  refine lv_iconst (v := 1) hx hb dX4_comesTo_14 (by decide) ?_
  refine lv_iload_n hx hb dX4_comesTo_15 rfl (lv_at hl 2 rfl) ?_
  refine lv_iconst (v := 4) hx hb dX4_comesTo_16 (by decide) ?_
  refine va_mmin hx hb (by rw [hml]; exact hl.1.symm) hown (hts _ mx_X4_comesTo_3) (hts _ mx_X4_comesTo_4) (hts _ mx_X4_comesTo_5) (hts _ mx_X4_comesTo_6) (Nat.le_of_ble_eq_true rfl) (Nat.le_of_ble_eq_true rfl) (Nat.zero_le _) (Nat.zero_le _) dX4_comesTo_17 ?_
  refine lv_topi (fun v_2 e_2 => ?_)
  obtain ⟨z_2, hz_2, hz2_2, hze_2, e2_2⟩  := mmin_nat (a := t) (b := 4) (by omega) (by omega)
  obtain rfl : v_2 = nI z_2 := e_2.trans e2_2
  rcases (show z_2 = 0 ∨ z_2 = 1 ∨ z_2 = 2 ∨ z_2 = 3 ∨ z_2 = 4 by omega) with e_z | e_z | e_z | e_z | e_z
  · subst e_z
    refine W.eq (g2 := F0 m 20 ls [.int 0, .int 1, .ref pl]) rfl ?_
    have hRe : (nrm nv0 nv1 nv2 nv3 nhh nv5 nww nkk f1n_1 f2n_1 f3n_1 f4n_1 f5n_1) = (nrm nv0 nv1 nv2 nv3 nhh nv5 nww nkk ng1 ng2 ng3 ng4 ng5) := (lf_X4_comesTo_1 nhb nwb nkb htt hj hN hF_1_0 hF_1_1 hF_1_2 hF_1_3 hF_1_4 hz_2 hz2_2 hze_2)
    have hRo : okN 999 (nrm nv0 nv1 nv2 nv3 nhh nv5 nww nkk f1n_1 f2n_1 f3n_1 f4n_1 f5n_1) := by rw [hRe]; exact hN
    have hc_4 := cutW (wc := [(xo_4_rri pl bo ou (nI j)), (xo_3_iiiiiiiirrrrr bo nv0 nv1 nv2 nv3 (nI nhh) nv5 (nI nww) (nI nkk) bb1 bb2 bb3 bb4 bb5), (xI bb1 cI 6 f1n_1), (xI bb2 cI 6 f2n_1), (xI bb3 cI 6 f3n_1), (xI bb4 cI 6 f4n_1), (xI bb5 cI 6 f5n_1), (xo_3_iiiiiiiirrrrr ou ou0 ou1 ou2 ou3 ou4 ou5 ou6 ou7 ob1 ob2 ob3 ob4 ob5), (xI ob1 cI 6 of1), (xI ob2 cI 6 of2), (xI ob3 cI 6 of3), (xI ob4 cI 6 of4), (xI ob5 cI 6 of5)]) hP hD hS hA [0, 7, 8, 9, 10, 11, 12, 1, 2, 3, 4, 5, 6] (by decide +kernel) rfl
    refine va_calli (va_runV (As := [.int 1, .int 0]) (rest := []) ⟨hx, hb, hml, hown, hts⟩ (r_X4_bf_0_1 l dC dI cI cZ cL cJ H.size pl j bo nv0 nv1 nv2 nv3 nv5 nhh nww nkk bb1 bb2 bb3 bb4 bb5 f1n_1 f2n_1 f3n_1 f4n_1 f5n_1 ou ou0 ou1 ou2 ou3 ou4 ou5 ou6 ou7 ob1 ob2 ob3 ob4 ob5 of1 of2 of3 of4 of5 (hj) (by omega) (nwb) (nkb) (hRo)) (cwV 2 hts gX4_comesTo_X4_bestFor rfl rfl rfl (by decide +kernel) ⟨Nat.le_of_ble_eq_true rfl, Nat.le_of_ble_eq_true rfl⟩) (pvW 4 0 hK hP rfl rfl hc_4) rfl rfl hl.1 rfl (lv_room (Nat.le_of_ble_eq_true rfl)) dX4_comesTo_20 ⟨Nat.le_of_ble_eq_true rfl, Nat.le_of_ble_eq_true rfl⟩) hS (fun q _ h => hc_4.2.2 q h) hc_4.2.2 (fun r_4 u_4 t_4 H1 locs ht hvm h_4 hB hz1 hk1 hS => ?_)
    refine xl_15_4 hB (fun v3n_4 u0n_4 u1n_4 u2n_4 u3n_4 u4n_4 u5n_4 u6n_4 u7n_4 g1n_4 f1n_4 f2n_4 f3n_4 f4n_4 f5n_4 hP1 hD1 hF_4_0 hF_4_1 => ?_)
    clear hB
    rw [ht] at hP1
    obtain ⟨hP, hD⟩ := va_join (wr := [(xo_3_iiiiiiiirrrrr no nv0 nv1 nv2 nv3 (nI nhh) nv5 (nI nww) (nI nkk) nb1 nb2 nb3 nb4 nb5), (xI nb1 cI 6 ng1), (xI nb2 cI 6 ng2), (xI nb3 cI 6 ng3), (xI nb4 cI 6 ng4), (xI nb5 cI 6 ng5)]) (w1 := [(xo_4_rri pl bo ou (nI j)), (xo_3_iiiiiiiirrrrr bo nv0 nv1 nv2 v3n_4 (nI nhh) nv5 (nI nww) (nI nkk) bb1 bb2 bb3 bb4 bb5), (xI bb1 cI 6 g1n_4), (xI bb2 cI 6 f2n_1), (xI bb3 cI 6 f3n_1), (xI bb4 cI 6 f4n_1), (xI bb5 cI 6 f5n_1), (xo_3_iiiiiiiirrrrr ou u0n_4 u1n_4 u2n_4 u3n_4 u4n_4 u5n_4 u6n_4 u7n_4 ob1 ob2 ob3 ob4 ob5), (xI ob1 cI 6 f1n_4), (xI ob2 cI 6 f2n_4), (xI ob3 cI 6 f3n_4), (xI ob4 cI 6 f4n_4), (xI ob5 cI 6 f5n_4)]) hP hD [0, 7, 8, 9, 10, 11, 12, 1, 2, 3, 4, 5, 6] [13, 14, 15, 16, 17, 18] rfl rfl (by decide +kernel) (by decide +kernel) hk1 hc_4.2.2 hP1 hD1
    generalize H1 = H at hP hS ⊢
    have hP : va_P (dC, dI) vwCl [(xo_3_iiiiiiiirrrrr no nv0 nv1 nv2 nv3 (nI nhh) nv5 (nI nww) (nI nkk) nb1 nb2 nb3 nb4 nb5), (xI nb1 cI 6 ng1), (xI nb2 cI 6 ng2), (xI nb3 cI 6 ng3), (xI nb4 cI 6 ng4), (xI nb5 cI 6 ng5), (xo_4_rri pl bo ou (nI j)), (xo_3_iiiiiiiirrrrr bo nv0 nv1 nv2 v3n_4 (nI nhh) nv5 (nI nww) (nI nkk) bb1 bb2 bb3 bb4 bb5), (xI bb1 cI 6 g1n_4), (xI bb2 cI 6 f2n_1), (xI bb3 cI 6 f3n_1), (xI bb4 cI 6 f4n_1), (xI bb5 cI 6 f5n_1), (xo_3_iiiiiiiirrrrr ou u0n_4 u1n_4 u2n_4 u3n_4 u4n_4 u5n_4 u6n_4 u7n_4 ob1 ob2 ob3 ob4 ob5), (xI ob1 cI 6 f1n_4), (xI ob2 cI 6 f2n_4), (xI ob3 cI 6 f3n_4), (xI ob4 cI 6 f4n_4), (xI ob5 cI 6 f5n_4)] H := hP
    have hD := dto hP hD
    have hX9 := cut2 (wc := [(xo_4_rri pl bo ou (nI j)), (xo_3_iiiiiiiirrrrr bo nv0 nv1 nv2 v3n_4 (nI nhh) nv5 (nI nww) (nI nkk) bb1 bb2 bb3 bb4 bb5), (xI bb1 cI 6 g1n_4), (xI bb2 cI 6 f2n_1), (xI bb3 cI 6 f3n_1), (xI bb4 cI 6 f4n_1), (xI bb5 cI 6 f5n_1), (xo_3_iiiiiiiirrrrr ou u0n_4 u1n_4 u2n_4 u3n_4 u4n_4 u5n_4 u6n_4 u7n_4 ob1 ob2 ob3 ob4 ob5), (xI ob1 cI 6 f1n_4), (xI ob2 cI 6 f2n_4), (xI ob3 cI 6 f3n_4), (xI ob4 cI 6 f4n_4), (xI ob5 cI 6 f5n_4), (xo_3_iiiiiiiirrrrr no nv0 nv1 nv2 nv3 (nI nhh) nv5 (nI nww) (nI nkk) nb1 nb2 nb3 nb4 nb5), (xI nb1 cI 6 ng1), (xI nb2 cI 6 ng2), (xI nb3 cI 6 ng3), (xI nb4 cI 6 ng4), (xI nb5 cI 6 ng5)]) hP hD [6, 7, 8, 9, 10, 11, 12, 13, 14, 15, 16, 17, 18, 0, 1, 2, 3, 4, 5] (by decide +kernel) rfl
    exact W.iret (v := r_4) hx hb hr (fun t ht hW => ⟨⟨r_4, (), rfl, (lf_X4_comesTo_2 nhb nwb nkb htt hj hN hF_1_0 hF_1_1 hF_1_2 hF_1_3 hF_1_4 hz_2 hz2_2 hze_2 hRe hF_4_0 hF_4_1 h_4), ⟨(nI j), nv0, nv1, nv2, v3n_4, (nI nhh), nv5, (nI nww), (nI nkk), u0n_4, u1n_4, u2n_4, u3n_4, u4n_4, u5n_4, u6n_4, u7n_4, g1n_4, f1n_4, f2n_1, f2n_4, f3n_1, f3n_4, f4n_1, f4n_4, f5n_1, f5n_4, va_Ht ht hX9.1, hX9.2⟩⟩, hS.F ht⟩) hS.2.2 dX4_comesTo_23
  · subst e_z
    refine W.eq (g2 := F0 m 20 ls [.int 1, .int 1, .ref pl]) rfl ?_
    have hRe : (nrm nv0 nv1 nv2 nv3 nhh nv5 nww nkk f1n_1 f2n_1 f3n_1 f4n_1 f5n_1) = (nrm nv0 nv1 nv2 nv3 nhh nv5 nww nkk ng1 ng2 ng3 ng4 ng5) := (lf_X4_comesTo_3 nhb nwb nkb htt hj hN hF_1_0 hF_1_1 hF_1_2 hF_1_3 hF_1_4 hz_2 hz2_2 hze_2)
    have hRo : okN 999 (nrm nv0 nv1 nv2 nv3 nhh nv5 nww nkk f1n_1 f2n_1 f3n_1 f4n_1 f5n_1) := by rw [hRe]; exact hN
    have hc_6 := cutW (wc := [(xo_4_rri pl bo ou (nI j)), (xo_3_iiiiiiiirrrrr bo nv0 nv1 nv2 nv3 (nI nhh) nv5 (nI nww) (nI nkk) bb1 bb2 bb3 bb4 bb5), (xI bb1 cI 6 f1n_1), (xI bb2 cI 6 f2n_1), (xI bb3 cI 6 f3n_1), (xI bb4 cI 6 f4n_1), (xI bb5 cI 6 f5n_1), (xo_3_iiiiiiiirrrrr ou ou0 ou1 ou2 ou3 ou4 ou5 ou6 ou7 ob1 ob2 ob3 ob4 ob5), (xI ob1 cI 6 of1), (xI ob2 cI 6 of2), (xI ob3 cI 6 of3), (xI ob4 cI 6 of4), (xI ob5 cI 6 of5)]) hP hD hS hA [0, 7, 8, 9, 10, 11, 12, 1, 2, 3, 4, 5, 6] (by decide +kernel) rfl
    refine va_calli (va_runV (As := [.int 1, .int 1]) (rest := []) ⟨hx, hb, hml, hown, hts⟩ (r_X4_bf_1_1 l dC dI cI cZ cL cJ H.size pl j bo nv0 nv1 nv2 nv3 nv5 nhh nww nkk bb1 bb2 bb3 bb4 bb5 f1n_1 f2n_1 f3n_1 f4n_1 f5n_1 ou ou0 ou1 ou2 ou3 ou4 ou5 ou6 ou7 ob1 ob2 ob3 ob4 ob5 of1 of2 of3 of4 of5 (hj) (by omega) (nwb) (nkb) (hRo)) (cwV 2 hts gX4_comesTo_X4_bestFor rfl rfl rfl (by decide +kernel) ⟨Nat.le_of_ble_eq_true rfl, Nat.le_of_ble_eq_true rfl⟩) (pvW 4 0 hK hP rfl rfl hc_6) rfl rfl hl.1 rfl (lv_room (Nat.le_of_ble_eq_true rfl)) dX4_comesTo_20 ⟨Nat.le_of_ble_eq_true rfl, Nat.le_of_ble_eq_true rfl⟩) hS (fun q _ h => hc_6.2.2 q h) hc_6.2.2 (fun r_6 u_6 t_6 H1 locs ht hvm h_6 hB hz1 hk1 hS => ?_)
    refine xl_15_4 hB (fun v3n_6 u0n_6 u1n_6 u2n_6 u3n_6 u4n_6 u5n_6 u6n_6 u7n_6 g1n_6 f1n_6 f2n_6 f3n_6 f4n_6 f5n_6 hP1 hD1 hF_6_0 hF_6_1 => ?_)
    clear hB
    rw [ht] at hP1
    obtain ⟨hP, hD⟩ := va_join (wr := [(xo_3_iiiiiiiirrrrr no nv0 nv1 nv2 nv3 (nI nhh) nv5 (nI nww) (nI nkk) nb1 nb2 nb3 nb4 nb5), (xI nb1 cI 6 ng1), (xI nb2 cI 6 ng2), (xI nb3 cI 6 ng3), (xI nb4 cI 6 ng4), (xI nb5 cI 6 ng5)]) (w1 := [(xo_4_rri pl bo ou (nI j)), (xo_3_iiiiiiiirrrrr bo nv0 nv1 nv2 v3n_6 (nI nhh) nv5 (nI nww) (nI nkk) bb1 bb2 bb3 bb4 bb5), (xI bb1 cI 6 g1n_6), (xI bb2 cI 6 f2n_1), (xI bb3 cI 6 f3n_1), (xI bb4 cI 6 f4n_1), (xI bb5 cI 6 f5n_1), (xo_3_iiiiiiiirrrrr ou u0n_6 u1n_6 u2n_6 u3n_6 u4n_6 u5n_6 u6n_6 u7n_6 ob1 ob2 ob3 ob4 ob5), (xI ob1 cI 6 f1n_6), (xI ob2 cI 6 f2n_6), (xI ob3 cI 6 f3n_6), (xI ob4 cI 6 f4n_6), (xI ob5 cI 6 f5n_6)]) hP hD [0, 7, 8, 9, 10, 11, 12, 1, 2, 3, 4, 5, 6] [13, 14, 15, 16, 17, 18] rfl rfl (by decide +kernel) (by decide +kernel) hk1 hc_6.2.2 hP1 hD1
    generalize H1 = H at hP hS ⊢
    have hP : va_P (dC, dI) vwCl [(xo_3_iiiiiiiirrrrr no nv0 nv1 nv2 nv3 (nI nhh) nv5 (nI nww) (nI nkk) nb1 nb2 nb3 nb4 nb5), (xI nb1 cI 6 ng1), (xI nb2 cI 6 ng2), (xI nb3 cI 6 ng3), (xI nb4 cI 6 ng4), (xI nb5 cI 6 ng5), (xo_4_rri pl bo ou (nI j)), (xo_3_iiiiiiiirrrrr bo nv0 nv1 nv2 v3n_6 (nI nhh) nv5 (nI nww) (nI nkk) bb1 bb2 bb3 bb4 bb5), (xI bb1 cI 6 g1n_6), (xI bb2 cI 6 f2n_1), (xI bb3 cI 6 f3n_1), (xI bb4 cI 6 f4n_1), (xI bb5 cI 6 f5n_1), (xo_3_iiiiiiiirrrrr ou u0n_6 u1n_6 u2n_6 u3n_6 u4n_6 u5n_6 u6n_6 u7n_6 ob1 ob2 ob3 ob4 ob5), (xI ob1 cI 6 f1n_6), (xI ob2 cI 6 f2n_6), (xI ob3 cI 6 f3n_6), (xI ob4 cI 6 f4n_6), (xI ob5 cI 6 f5n_6)] H := hP
    have hD := dto hP hD
    have hX9 := cut2 (wc := [(xo_4_rri pl bo ou (nI j)), (xo_3_iiiiiiiirrrrr bo nv0 nv1 nv2 v3n_6 (nI nhh) nv5 (nI nww) (nI nkk) bb1 bb2 bb3 bb4 bb5), (xI bb1 cI 6 g1n_6), (xI bb2 cI 6 f2n_1), (xI bb3 cI 6 f3n_1), (xI bb4 cI 6 f4n_1), (xI bb5 cI 6 f5n_1), (xo_3_iiiiiiiirrrrr ou u0n_6 u1n_6 u2n_6 u3n_6 u4n_6 u5n_6 u6n_6 u7n_6 ob1 ob2 ob3 ob4 ob5), (xI ob1 cI 6 f1n_6), (xI ob2 cI 6 f2n_6), (xI ob3 cI 6 f3n_6), (xI ob4 cI 6 f4n_6), (xI ob5 cI 6 f5n_6), (xo_3_iiiiiiiirrrrr no nv0 nv1 nv2 nv3 (nI nhh) nv5 (nI nww) (nI nkk) nb1 nb2 nb3 nb4 nb5), (xI nb1 cI 6 ng1), (xI nb2 cI 6 ng2), (xI nb3 cI 6 ng3), (xI nb4 cI 6 ng4), (xI nb5 cI 6 ng5)]) hP hD [6, 7, 8, 9, 10, 11, 12, 13, 14, 15, 16, 17, 18, 0, 1, 2, 3, 4, 5] (by decide +kernel) rfl
    exact W.iret (v := r_6) hx hb hr (fun t ht hW => ⟨⟨r_6, (), rfl, (lf_X4_comesTo_4 nhb nwb nkb htt hj hN hF_1_0 hF_1_1 hF_1_2 hF_1_3 hF_1_4 hz_2 hz2_2 hze_2 hRe hF_6_0 hF_6_1 h_6), ⟨(nI j), nv0, nv1, nv2, v3n_6, (nI nhh), nv5, (nI nww), (nI nkk), u0n_6, u1n_6, u2n_6, u3n_6, u4n_6, u5n_6, u6n_6, u7n_6, g1n_6, f1n_6, f2n_1, f2n_6, f3n_1, f3n_6, f4n_1, f4n_6, f5n_1, f5n_6, va_Ht ht hX9.1, hX9.2⟩⟩, hS.F ht⟩) hS.2.2 dX4_comesTo_23
  · subst e_z
    refine W.eq (g2 := F0 m 20 ls [.int 2, .int 1, .ref pl]) rfl ?_
    have hRe : (nrm nv0 nv1 nv2 nv3 nhh nv5 nww nkk f1n_1 f2n_1 f3n_1 f4n_1 f5n_1) = (nrm nv0 nv1 nv2 nv3 nhh nv5 nww nkk ng1 ng2 ng3 ng4 ng5) := (lf_X4_comesTo_5 nhb nwb nkb htt hj hN hF_1_0 hF_1_1 hF_1_2 hF_1_3 hF_1_4 hz_2 hz2_2 hze_2)
    have hRo : okN 999 (nrm nv0 nv1 nv2 nv3 nhh nv5 nww nkk f1n_1 f2n_1 f3n_1 f4n_1 f5n_1) := by rw [hRe]; exact hN
    have hc_8 := cutW (wc := [(xo_4_rri pl bo ou (nI j)), (xo_3_iiiiiiiirrrrr bo nv0 nv1 nv2 nv3 (nI nhh) nv5 (nI nww) (nI nkk) bb1 bb2 bb3 bb4 bb5), (xI bb1 cI 6 f1n_1), (xI bb2 cI 6 f2n_1), (xI bb3 cI 6 f3n_1), (xI bb4 cI 6 f4n_1), (xI bb5 cI 6 f5n_1), (xo_3_iiiiiiiirrrrr ou ou0 ou1 ou2 ou3 ou4 ou5 ou6 ou7 ob1 ob2 ob3 ob4 ob5), (xI ob1 cI 6 of1), (xI ob2 cI 6 of2), (xI ob3 cI 6 of3), (xI ob4 cI 6 of4), (xI ob5 cI 6 of5)]) hP hD hS hA [0, 7, 8, 9, 10, 11, 12, 1, 2, 3, 4, 5, 6] (by decide +kernel) rfl
    refine va_calli (va_runV (As := [.int 1, .int 2]) (rest := []) ⟨hx, hb, hml, hown, hts⟩ (r_X4_bf_2_1 l dC dI cI cZ cL cJ H.size pl j bo nv0 nv1 nv2 nv3 nv5 nhh nww nkk bb1 bb2 bb3 bb4 bb5 f1n_1 f2n_1 f3n_1 f4n_1 f5n_1 ou ou0 ou1 ou2 ou3 ou4 ou5 ou6 ou7 ob1 ob2 ob3 ob4 ob5 of1 of2 of3 of4 of5 (hj) (by omega) (nwb) (nkb) (hRo)) (cwV 2 hts gX4_comesTo_X4_bestFor rfl rfl rfl (by decide +kernel) ⟨Nat.le_of_ble_eq_true rfl, Nat.le_of_ble_eq_true rfl⟩) (pvW 4 0 hK hP rfl rfl hc_8) rfl rfl hl.1 rfl (lv_room (Nat.le_of_ble_eq_true rfl)) dX4_comesTo_20 ⟨Nat.le_of_ble_eq_true rfl, Nat.le_of_ble_eq_true rfl⟩) hS (fun q _ h => hc_8.2.2 q h) hc_8.2.2 (fun r_8 u_8 t_8 H1 locs ht hvm h_8 hB hz1 hk1 hS => ?_)
    refine xl_15_4 hB (fun v3n_8 u0n_8 u1n_8 u2n_8 u3n_8 u4n_8 u5n_8 u6n_8 u7n_8 g1n_8 f1n_8 f2n_8 f3n_8 f4n_8 f5n_8 hP1 hD1 hF_8_0 hF_8_1 => ?_)
    clear hB
    rw [ht] at hP1
    obtain ⟨hP, hD⟩ := va_join (wr := [(xo_3_iiiiiiiirrrrr no nv0 nv1 nv2 nv3 (nI nhh) nv5 (nI nww) (nI nkk) nb1 nb2 nb3 nb4 nb5), (xI nb1 cI 6 ng1), (xI nb2 cI 6 ng2), (xI nb3 cI 6 ng3), (xI nb4 cI 6 ng4), (xI nb5 cI 6 ng5)]) (w1 := [(xo_4_rri pl bo ou (nI j)), (xo_3_iiiiiiiirrrrr bo nv0 nv1 nv2 v3n_8 (nI nhh) nv5 (nI nww) (nI nkk) bb1 bb2 bb3 bb4 bb5), (xI bb1 cI 6 g1n_8), (xI bb2 cI 6 f2n_1), (xI bb3 cI 6 f3n_1), (xI bb4 cI 6 f4n_1), (xI bb5 cI 6 f5n_1), (xo_3_iiiiiiiirrrrr ou u0n_8 u1n_8 u2n_8 u3n_8 u4n_8 u5n_8 u6n_8 u7n_8 ob1 ob2 ob3 ob4 ob5), (xI ob1 cI 6 f1n_8), (xI ob2 cI 6 f2n_8), (xI ob3 cI 6 f3n_8), (xI ob4 cI 6 f4n_8), (xI ob5 cI 6 f5n_8)]) hP hD [0, 7, 8, 9, 10, 11, 12, 1, 2, 3, 4, 5, 6] [13, 14, 15, 16, 17, 18] rfl rfl (by decide +kernel) (by decide +kernel) hk1 hc_8.2.2 hP1 hD1
    generalize H1 = H at hP hS ⊢
    have hP : va_P (dC, dI) vwCl [(xo_3_iiiiiiiirrrrr no nv0 nv1 nv2 nv3 (nI nhh) nv5 (nI nww) (nI nkk) nb1 nb2 nb3 nb4 nb5), (xI nb1 cI 6 ng1), (xI nb2 cI 6 ng2), (xI nb3 cI 6 ng3), (xI nb4 cI 6 ng4), (xI nb5 cI 6 ng5), (xo_4_rri pl bo ou (nI j)), (xo_3_iiiiiiiirrrrr bo nv0 nv1 nv2 v3n_8 (nI nhh) nv5 (nI nww) (nI nkk) bb1 bb2 bb3 bb4 bb5), (xI bb1 cI 6 g1n_8), (xI bb2 cI 6 f2n_1), (xI bb3 cI 6 f3n_1), (xI bb4 cI 6 f4n_1), (xI bb5 cI 6 f5n_1), (xo_3_iiiiiiiirrrrr ou u0n_8 u1n_8 u2n_8 u3n_8 u4n_8 u5n_8 u6n_8 u7n_8 ob1 ob2 ob3 ob4 ob5), (xI ob1 cI 6 f1n_8), (xI ob2 cI 6 f2n_8), (xI ob3 cI 6 f3n_8), (xI ob4 cI 6 f4n_8), (xI ob5 cI 6 f5n_8)] H := hP
    have hD := dto hP hD
    have hX9 := cut2 (wc := [(xo_4_rri pl bo ou (nI j)), (xo_3_iiiiiiiirrrrr bo nv0 nv1 nv2 v3n_8 (nI nhh) nv5 (nI nww) (nI nkk) bb1 bb2 bb3 bb4 bb5), (xI bb1 cI 6 g1n_8), (xI bb2 cI 6 f2n_1), (xI bb3 cI 6 f3n_1), (xI bb4 cI 6 f4n_1), (xI bb5 cI 6 f5n_1), (xo_3_iiiiiiiirrrrr ou u0n_8 u1n_8 u2n_8 u3n_8 u4n_8 u5n_8 u6n_8 u7n_8 ob1 ob2 ob3 ob4 ob5), (xI ob1 cI 6 f1n_8), (xI ob2 cI 6 f2n_8), (xI ob3 cI 6 f3n_8), (xI ob4 cI 6 f4n_8), (xI ob5 cI 6 f5n_8), (xo_3_iiiiiiiirrrrr no nv0 nv1 nv2 nv3 (nI nhh) nv5 (nI nww) (nI nkk) nb1 nb2 nb3 nb4 nb5), (xI nb1 cI 6 ng1), (xI nb2 cI 6 ng2), (xI nb3 cI 6 ng3), (xI nb4 cI 6 ng4), (xI nb5 cI 6 ng5)]) hP hD [6, 7, 8, 9, 10, 11, 12, 13, 14, 15, 16, 17, 18, 0, 1, 2, 3, 4, 5] (by decide +kernel) rfl
    exact W.iret (v := r_8) hx hb hr (fun t ht hW => ⟨⟨r_8, (), rfl, (lf_X4_comesTo_6 nhb nwb nkb htt hj hN hF_1_0 hF_1_1 hF_1_2 hF_1_3 hF_1_4 hz_2 hz2_2 hze_2 hRe hF_8_0 hF_8_1 h_8), ⟨(nI j), nv0, nv1, nv2, v3n_8, (nI nhh), nv5, (nI nww), (nI nkk), u0n_8, u1n_8, u2n_8, u3n_8, u4n_8, u5n_8, u6n_8, u7n_8, g1n_8, f1n_8, f2n_1, f2n_8, f3n_1, f3n_8, f4n_1, f4n_8, f5n_1, f5n_8, va_Ht ht hX9.1, hX9.2⟩⟩, hS.F ht⟩) hS.2.2 dX4_comesTo_23
  · subst e_z
    refine W.eq (g2 := F0 m 20 ls [.int 3, .int 1, .ref pl]) rfl ?_
    have hRe : (nrm nv0 nv1 nv2 nv3 nhh nv5 nww nkk f1n_1 f2n_1 f3n_1 f4n_1 f5n_1) = (nrm nv0 nv1 nv2 nv3 nhh nv5 nww nkk ng1 ng2 ng3 ng4 ng5) := (lf_X4_comesTo_7 nhb nwb nkb htt hj hN hF_1_0 hF_1_1 hF_1_2 hF_1_3 hF_1_4 hz_2 hz2_2 hze_2)
    have hRo : okN 999 (nrm nv0 nv1 nv2 nv3 nhh nv5 nww nkk f1n_1 f2n_1 f3n_1 f4n_1 f5n_1) := by rw [hRe]; exact hN
    have hc_10 := cutW (wc := [(xo_4_rri pl bo ou (nI j)), (xo_3_iiiiiiiirrrrr bo nv0 nv1 nv2 nv3 (nI nhh) nv5 (nI nww) (nI nkk) bb1 bb2 bb3 bb4 bb5), (xI bb1 cI 6 f1n_1), (xI bb2 cI 6 f2n_1), (xI bb3 cI 6 f3n_1), (xI bb4 cI 6 f4n_1), (xI bb5 cI 6 f5n_1), (xo_3_iiiiiiiirrrrr ou ou0 ou1 ou2 ou3 ou4 ou5 ou6 ou7 ob1 ob2 ob3 ob4 ob5), (xI ob1 cI 6 of1), (xI ob2 cI 6 of2), (xI ob3 cI 6 of3), (xI ob4 cI 6 of4), (xI ob5 cI 6 of5)]) hP hD hS hA [0, 7, 8, 9, 10, 11, 12, 1, 2, 3, 4, 5, 6] (by decide +kernel) rfl
    refine va_calli (va_runV (As := [.int 1, .int 3]) (rest := []) ⟨hx, hb, hml, hown, hts⟩ (r_X4_bf_3_1 l dC dI cI cZ cL cJ H.size pl j bo nv0 nv1 nv2 nv3 nv5 nhh nww nkk bb1 bb2 bb3 bb4 bb5 f1n_1 f2n_1 f3n_1 f4n_1 f5n_1 ou ou0 ou1 ou2 ou3 ou4 ou5 ou6 ou7 ob1 ob2 ob3 ob4 ob5 of1 of2 of3 of4 of5 (hj) (by omega) (nwb) (nkb) (hRo)) (cwV 2 hts gX4_comesTo_X4_bestFor rfl rfl rfl (by decide +kernel) ⟨Nat.le_of_ble_eq_true rfl, Nat.le_of_ble_eq_true rfl⟩) (pvW 4 0 hK hP rfl rfl hc_10) rfl rfl hl.1 rfl (lv_room (Nat.le_of_ble_eq_true rfl)) dX4_comesTo_20 ⟨Nat.le_of_ble_eq_true rfl, Nat.le_of_ble_eq_true rfl⟩) hS (fun q _ h => hc_10.2.2 q h) hc_10.2.2 (fun r_10 u_10 t_10 H1 locs ht hvm h_10 hB hz1 hk1 hS => ?_)
    refine xl_15_4 hB (fun v3n_10 u0n_10 u1n_10 u2n_10 u3n_10 u4n_10 u5n_10 u6n_10 u7n_10 g1n_10 f1n_10 f2n_10 f3n_10 f4n_10 f5n_10 hP1 hD1 hF_10_0 hF_10_1 => ?_)
    clear hB
    rw [ht] at hP1
    obtain ⟨hP, hD⟩ := va_join (wr := [(xo_3_iiiiiiiirrrrr no nv0 nv1 nv2 nv3 (nI nhh) nv5 (nI nww) (nI nkk) nb1 nb2 nb3 nb4 nb5), (xI nb1 cI 6 ng1), (xI nb2 cI 6 ng2), (xI nb3 cI 6 ng3), (xI nb4 cI 6 ng4), (xI nb5 cI 6 ng5)]) (w1 := [(xo_4_rri pl bo ou (nI j)), (xo_3_iiiiiiiirrrrr bo nv0 nv1 nv2 v3n_10 (nI nhh) nv5 (nI nww) (nI nkk) bb1 bb2 bb3 bb4 bb5), (xI bb1 cI 6 g1n_10), (xI bb2 cI 6 f2n_1), (xI bb3 cI 6 f3n_1), (xI bb4 cI 6 f4n_1), (xI bb5 cI 6 f5n_1), (xo_3_iiiiiiiirrrrr ou u0n_10 u1n_10 u2n_10 u3n_10 u4n_10 u5n_10 u6n_10 u7n_10 ob1 ob2 ob3 ob4 ob5), (xI ob1 cI 6 f1n_10), (xI ob2 cI 6 f2n_10), (xI ob3 cI 6 f3n_10), (xI ob4 cI 6 f4n_10), (xI ob5 cI 6 f5n_10)]) hP hD [0, 7, 8, 9, 10, 11, 12, 1, 2, 3, 4, 5, 6] [13, 14, 15, 16, 17, 18] rfl rfl (by decide +kernel) (by decide +kernel) hk1 hc_10.2.2 hP1 hD1
    generalize H1 = H at hP hS ⊢
    have hP : va_P (dC, dI) vwCl [(xo_3_iiiiiiiirrrrr no nv0 nv1 nv2 nv3 (nI nhh) nv5 (nI nww) (nI nkk) nb1 nb2 nb3 nb4 nb5), (xI nb1 cI 6 ng1), (xI nb2 cI 6 ng2), (xI nb3 cI 6 ng3), (xI nb4 cI 6 ng4), (xI nb5 cI 6 ng5), (xo_4_rri pl bo ou (nI j)), (xo_3_iiiiiiiirrrrr bo nv0 nv1 nv2 v3n_10 (nI nhh) nv5 (nI nww) (nI nkk) bb1 bb2 bb3 bb4 bb5), (xI bb1 cI 6 g1n_10), (xI bb2 cI 6 f2n_1), (xI bb3 cI 6 f3n_1), (xI bb4 cI 6 f4n_1), (xI bb5 cI 6 f5n_1), (xo_3_iiiiiiiirrrrr ou u0n_10 u1n_10 u2n_10 u3n_10 u4n_10 u5n_10 u6n_10 u7n_10 ob1 ob2 ob3 ob4 ob5), (xI ob1 cI 6 f1n_10), (xI ob2 cI 6 f2n_10), (xI ob3 cI 6 f3n_10), (xI ob4 cI 6 f4n_10), (xI ob5 cI 6 f5n_10)] H := hP
    have hD := dto hP hD
    have hX9 := cut2 (wc := [(xo_4_rri pl bo ou (nI j)), (xo_3_iiiiiiiirrrrr bo nv0 nv1 nv2 v3n_10 (nI nhh) nv5 (nI nww) (nI nkk) bb1 bb2 bb3 bb4 bb5), (xI bb1 cI 6 g1n_10), (xI bb2 cI 6 f2n_1), (xI bb3 cI 6 f3n_1), (xI bb4 cI 6 f4n_1), (xI bb5 cI 6 f5n_1), (xo_3_iiiiiiiirrrrr ou u0n_10 u1n_10 u2n_10 u3n_10 u4n_10 u5n_10 u6n_10 u7n_10 ob1 ob2 ob3 ob4 ob5), (xI ob1 cI 6 f1n_10), (xI ob2 cI 6 f2n_10), (xI ob3 cI 6 f3n_10), (xI ob4 cI 6 f4n_10), (xI ob5 cI 6 f5n_10), (xo_3_iiiiiiiirrrrr no nv0 nv1 nv2 nv3 (nI nhh) nv5 (nI nww) (nI nkk) nb1 nb2 nb3 nb4 nb5), (xI nb1 cI 6 ng1), (xI nb2 cI 6 ng2), (xI nb3 cI 6 ng3), (xI nb4 cI 6 ng4), (xI nb5 cI 6 ng5)]) hP hD [6, 7, 8, 9, 10, 11, 12, 13, 14, 15, 16, 17, 18, 0, 1, 2, 3, 4, 5] (by decide +kernel) rfl
    exact W.iret (v := r_10) hx hb hr (fun t ht hW => ⟨⟨r_10, (), rfl, (lf_X4_comesTo_8 nhb nwb nkb htt hj hN hF_1_0 hF_1_1 hF_1_2 hF_1_3 hF_1_4 hz_2 hz2_2 hze_2 hRe hF_10_0 hF_10_1 h_10), ⟨(nI j), nv0, nv1, nv2, v3n_10, (nI nhh), nv5, (nI nww), (nI nkk), u0n_10, u1n_10, u2n_10, u3n_10, u4n_10, u5n_10, u6n_10, u7n_10, g1n_10, f1n_10, f2n_1, f2n_10, f3n_1, f3n_10, f4n_1, f4n_10, f5n_1, f5n_10, va_Ht ht hX9.1, hX9.2⟩⟩, hS.F ht⟩) hS.2.2 dX4_comesTo_23
  · subst e_z
    refine W.eq (g2 := F0 m 20 ls [.int 4, .int 1, .ref pl]) rfl ?_
    have hRe : (nrm nv0 nv1 nv2 nv3 nhh nv5 nww nkk f1n_1 f2n_1 f3n_1 f4n_1 f5n_1) = (nrm nv0 nv1 nv2 nv3 nhh nv5 nww nkk ng1 ng2 ng3 ng4 ng5) := (lf_X4_comesTo_9 nhb nwb nkb htt hj hN hF_1_0 hF_1_1 hF_1_2 hF_1_3 hF_1_4 hz_2 hz2_2 hze_2)
    have hRo : okN 999 (nrm nv0 nv1 nv2 nv3 nhh nv5 nww nkk f1n_1 f2n_1 f3n_1 f4n_1 f5n_1) := by rw [hRe]; exact hN
    have hc_12 := cutW (wc := [(xo_4_rri pl bo ou (nI j)), (xo_3_iiiiiiiirrrrr bo nv0 nv1 nv2 nv3 (nI nhh) nv5 (nI nww) (nI nkk) bb1 bb2 bb3 bb4 bb5), (xI bb1 cI 6 f1n_1), (xI bb2 cI 6 f2n_1), (xI bb3 cI 6 f3n_1), (xI bb4 cI 6 f4n_1), (xI bb5 cI 6 f5n_1), (xo_3_iiiiiiiirrrrr ou ou0 ou1 ou2 ou3 ou4 ou5 ou6 ou7 ob1 ob2 ob3 ob4 ob5), (xI ob1 cI 6 of1), (xI ob2 cI 6 of2), (xI ob3 cI 6 of3), (xI ob4 cI 6 of4), (xI ob5 cI 6 of5)]) hP hD hS hA [0, 7, 8, 9, 10, 11, 12, 1, 2, 3, 4, 5, 6] (by decide +kernel) rfl
    refine va_calli (va_runV (As := [.int 1, .int 4]) (rest := []) ⟨hx, hb, hml, hown, hts⟩ (r_X4_bf_4_1 l dC dI cI cZ cL cJ H.size pl j bo nv0 nv1 nv2 nv3 nv5 nhh nww nkk bb1 bb2 bb3 bb4 bb5 f1n_1 f2n_1 f3n_1 f4n_1 f5n_1 ou ou0 ou1 ou2 ou3 ou4 ou5 ou6 ou7 ob1 ob2 ob3 ob4 ob5 of1 of2 of3 of4 of5 (hj) (by omega) (nwb) (nkb) (hRo)) (cwV 2 hts gX4_comesTo_X4_bestFor rfl rfl rfl (by decide +kernel) ⟨Nat.le_of_ble_eq_true rfl, Nat.le_of_ble_eq_true rfl⟩) (pvW 4 0 hK hP rfl rfl hc_12) rfl rfl hl.1 rfl (lv_room (Nat.le_of_ble_eq_true rfl)) dX4_comesTo_20 ⟨Nat.le_of_ble_eq_true rfl, Nat.le_of_ble_eq_true rfl⟩) hS (fun q _ h => hc_12.2.2 q h) hc_12.2.2 (fun r_12 u_12 t_12 H1 locs ht hvm h_12 hB hz1 hk1 hS => ?_)
    refine xl_15_4 hB (fun v3n_12 u0n_12 u1n_12 u2n_12 u3n_12 u4n_12 u5n_12 u6n_12 u7n_12 g1n_12 f1n_12 f2n_12 f3n_12 f4n_12 f5n_12 hP1 hD1 hF_12_0 hF_12_1 => ?_)
    clear hB
    rw [ht] at hP1
    obtain ⟨hP, hD⟩ := va_join (wr := [(xo_3_iiiiiiiirrrrr no nv0 nv1 nv2 nv3 (nI nhh) nv5 (nI nww) (nI nkk) nb1 nb2 nb3 nb4 nb5), (xI nb1 cI 6 ng1), (xI nb2 cI 6 ng2), (xI nb3 cI 6 ng3), (xI nb4 cI 6 ng4), (xI nb5 cI 6 ng5)]) (w1 := [(xo_4_rri pl bo ou (nI j)), (xo_3_iiiiiiiirrrrr bo nv0 nv1 nv2 v3n_12 (nI nhh) nv5 (nI nww) (nI nkk) bb1 bb2 bb3 bb4 bb5), (xI bb1 cI 6 g1n_12), (xI bb2 cI 6 f2n_1), (xI bb3 cI 6 f3n_1), (xI bb4 cI 6 f4n_1), (xI bb5 cI 6 f5n_1), (xo_3_iiiiiiiirrrrr ou u0n_12 u1n_12 u2n_12 u3n_12 u4n_12 u5n_12 u6n_12 u7n_12 ob1 ob2 ob3 ob4 ob5), (xI ob1 cI 6 f1n_12), (xI ob2 cI 6 f2n_12), (xI ob3 cI 6 f3n_12), (xI ob4 cI 6 f4n_12), (xI ob5 cI 6 f5n_12)]) hP hD [0, 7, 8, 9, 10, 11, 12, 1, 2, 3, 4, 5, 6] [13, 14, 15, 16, 17, 18] rfl rfl (by decide +kernel) (by decide +kernel) hk1 hc_12.2.2 hP1 hD1
    generalize H1 = H at hP hS ⊢
    have hP : va_P (dC, dI) vwCl [(xo_3_iiiiiiiirrrrr no nv0 nv1 nv2 nv3 (nI nhh) nv5 (nI nww) (nI nkk) nb1 nb2 nb3 nb4 nb5), (xI nb1 cI 6 ng1), (xI nb2 cI 6 ng2), (xI nb3 cI 6 ng3), (xI nb4 cI 6 ng4), (xI nb5 cI 6 ng5), (xo_4_rri pl bo ou (nI j)), (xo_3_iiiiiiiirrrrr bo nv0 nv1 nv2 v3n_12 (nI nhh) nv5 (nI nww) (nI nkk) bb1 bb2 bb3 bb4 bb5), (xI bb1 cI 6 g1n_12), (xI bb2 cI 6 f2n_1), (xI bb3 cI 6 f3n_1), (xI bb4 cI 6 f4n_1), (xI bb5 cI 6 f5n_1), (xo_3_iiiiiiiirrrrr ou u0n_12 u1n_12 u2n_12 u3n_12 u4n_12 u5n_12 u6n_12 u7n_12 ob1 ob2 ob3 ob4 ob5), (xI ob1 cI 6 f1n_12), (xI ob2 cI 6 f2n_12), (xI ob3 cI 6 f3n_12), (xI ob4 cI 6 f4n_12), (xI ob5 cI 6 f5n_12)] H := hP
    have hD := dto hP hD
    have hX9 := cut2 (wc := [(xo_4_rri pl bo ou (nI j)), (xo_3_iiiiiiiirrrrr bo nv0 nv1 nv2 v3n_12 (nI nhh) nv5 (nI nww) (nI nkk) bb1 bb2 bb3 bb4 bb5), (xI bb1 cI 6 g1n_12), (xI bb2 cI 6 f2n_1), (xI bb3 cI 6 f3n_1), (xI bb4 cI 6 f4n_1), (xI bb5 cI 6 f5n_1), (xo_3_iiiiiiiirrrrr ou u0n_12 u1n_12 u2n_12 u3n_12 u4n_12 u5n_12 u6n_12 u7n_12 ob1 ob2 ob3 ob4 ob5), (xI ob1 cI 6 f1n_12), (xI ob2 cI 6 f2n_12), (xI ob3 cI 6 f3n_12), (xI ob4 cI 6 f4n_12), (xI ob5 cI 6 f5n_12), (xo_3_iiiiiiiirrrrr no nv0 nv1 nv2 nv3 (nI nhh) nv5 (nI nww) (nI nkk) nb1 nb2 nb3 nb4 nb5), (xI nb1 cI 6 ng1), (xI nb2 cI 6 ng2), (xI nb3 cI 6 ng3), (xI nb4 cI 6 ng4), (xI nb5 cI 6 ng5)]) hP hD [6, 7, 8, 9, 10, 11, 12, 13, 14, 15, 16, 17, 18, 0, 1, 2, 3, 4, 5] (by decide +kernel) rfl
    exact W.iret (v := r_12) hx hb hr (fun t ht hW => ⟨⟨r_12, (), rfl, (lf_X4_comesTo_10 nhb nwb nkb htt hj hN hF_1_0 hF_1_1 hF_1_2 hF_1_3 hF_1_4 hz_2 hz2_2 hze_2 hRe hF_12_0 hF_12_1 h_12), ⟨(nI j), nv0, nv1, nv2, v3n_12, (nI nhh), nv5, (nI nww), (nI nkk), u0n_12, u1n_12, u2n_12, u3n_12, u4n_12, u5n_12, u6n_12, u7n_12, g1n_12, f1n_12, f2n_1, f2n_12, f3n_1, f3n_12, f4n_1, f4n_12, f5n_1, f5n_12, va_Ht ht hX9.1, hX9.2⟩⟩, hS.F ht⟩) hS.2.2 dX4_comesTo_23
theorem lf_X7_byTurns_1 {nv0 : Int32} {nv1 : Int32} {nv2 : Int32} {nv3 : Int32} {nv5 : Int32} {nhh : Nat} {nww : Nat} {nkk : Nat} {ng1 : Nat → Int32} {ng2 : Nat → Int32} {ng3 : Nat → Int32} {ng4 : Nat → Int32} {ng5 : Nat → Int32} {k0 : Int32} {k1 : Int32} (nhb : nhh ≤ 999) (nwb : nww ≤ 6) (nkb : nkk ≤ 6) (hLv : okLv (nrm nv0 nv1 nv2 nv3 nhh nv5 nww nkk ng1 ng2 ng3 ng4 ng5)) (f_1_0_0 : ¬ 0 < nv0) : (-1000002) = (a_byt (nrm nv0 nv1 nv2 nv3 nhh nv5 nww nkk ng1 ng2 ng3 ng4 ng5) k0 k1) := by
  exact byt_0 (((tX hLv nwb nkb (by omega)).1 f_1_0_0).1)
theorem lf_X7_byTurns_2 {nv0 : Int32} {nv1 : Int32} {nv2 : Int32} {nv3 : Int32} {nv5 : Int32} {nhh : Nat} {nww : Nat} {nkk : Nat} {ng1 : Nat → Int32} {ng2 : Nat → Int32} {ng3 : Nat → Int32} {ng4 : Nat → Int32} {ng5 : Nat → Int32} {k0 : Int32} {k1 : Int32} (nhb : nhh ≤ 999) (nwb : nww ≤ 6) (nkb : nkk ≤ 6) (hLv : okLv (nrm nv0 nv1 nv2 nv3 nhh nv5 nww nkk ng1 ng2 ng3 ng4 ng5)) (f_1_1_0 : 0 < nv0) (c_4 : k0 < 0) : (-1000001) = (a_byt (nrm nv0 nv1 nv2 nv3 nhh nv5 nww nkk ng1 ng2 ng3 ng4 ng5) k0 k1) := by
  exact byt_n (((tX hLv nwb nkb (by omega)).2 f_1_1_0).1) (Or.inl (Or.inl c_4))
theorem lf_X7_byTurns_3 {nv0 : Int32} {nv1 : Int32} {nv2 : Int32} {nv3 : Int32} {nv5 : Int32} {nhh : Nat} {nww : Nat} {nkk : Nat} {ng1 : Nat → Int32} {ng2 : Nat → Int32} {ng3 : Nat → Int32} {ng4 : Nat → Int32} {ng5 : Nat → Int32} {k0 : Int32} {k1 : Int32} (nhb : nhh ≤ 999) (nwb : nww ≤ 6) (nkb : nkk ≤ 6) (hLv : okLv (nrm nv0 nv1 nv2 nv3 nhh nv5 nww nkk ng1 ng2 ng3 ng4 ng5)) (f_1_1_0 : 0 < nv0) (c_4 : ¬ (k0 < 0)) (c_5 : 4 < k0) : (-1000001) = (a_byt (nrm nv0 nv1 nv2 nv3 nhh nv5 nww nkk ng1 ng2 ng3 ng4 ng5) k0 k1) := by
  first
  | exact byt_n (((tX hLv nwb nkb (by omega)).2 f_1_1_0).1) (Or.inl (Or.inl c_4))
  | exact byt_n (((tX hLv nwb nkb (by omega)).2 f_1_1_0).1) (Or.inl (Or.inr c_5))
theorem lf_X7_byTurns_4 {nv0 : Int32} {nv1 : Int32} {nv2 : Int32} {nv3 : Int32} {nv5 : Int32} {nhh : Nat} {nww : Nat} {nkk : Nat} {ng1 : Nat → Int32} {ng2 : Nat → Int32} {ng3 : Nat → Int32} {ng4 : Nat → Int32} {ng5 : Nat → Int32} {k0 : Int32} {k1 : Int32} (nhb : nhh ≤ 999) (nwb : nww ≤ 6) (nkb : nkk ≤ 6) (hLv : okLv (nrm nv0 nv1 nv2 nv3 nhh nv5 nww nkk ng1 ng2 ng3 ng4 ng5)) (f_1_1_0 : 0 < nv0) (c_4 : ¬ (k0 < 0)) (c_5 : ¬ (4 < k0)) (c_6 : k1 < 1) : (-1000001) = (a_byt (nrm nv0 nv1 nv2 nv3 nhh nv5 nww nkk ng1 ng2 ng3 ng4 ng5) k0 k1) := by
  first
  | exact byt_n (((tX hLv nwb nkb (by omega)).2 f_1_1_0).1) (Or.inl (Or.inl c_4))
  | exact byt_n (((tX hLv nwb nkb (by omega)).2 f_1_1_0).1) (Or.inl (Or.inr c_5))
  | exact byt_n (((tX hLv nwb nkb (by omega)).2 f_1_1_0).1) (Or.inr (Or.inl c_6))
theorem lf_X7_byTurns_5 {nv0 : Int32} {nv1 : Int32} {nv2 : Int32} {nv3 : Int32} {nv5 : Int32} {nhh : Nat} {nww : Nat} {nkk : Nat} {ng1 : Nat → Int32} {ng2 : Nat → Int32} {ng3 : Nat → Int32} {ng4 : Nat → Int32} {ng5 : Nat → Int32} {j_8 : Nat} {j_9 : Nat} {r_10 : Int32} (nhb : nhh ≤ 999) (nwb : nww ≤ 6) (nkb : nkk ≤ 6) (hLv : okLv (nrm nv0 nv1 nv2 nv3 nhh nv5 nww nkk ng1 ng2 ng3 ng4 ng5)) (f_1_1_0 : 0 < nv0) (c_4 : ¬ ((nI j_8) < 0)) (c_5 : ¬ (4 < (nI j_8))) (c_6 : ¬ ((nI j_9) < 1)) (c_7 : (nI j_9) ≤ 20) (hj_8 : j_8 ≤ 4) (hj_9 : j_9 ≤ 20) (h_10 : r_10 = (btV j_9 j_8 true (nrm nv0 nv1 nv2 nv3 nhh nv5 nww nkk ng1 ng2 ng3 ng4 ng5))) : r_10 = (a_byt (nrm nv0 nv1 nv2 nv3 nhh nv5 nww nkk ng1 ng2 ng3 ng4 ng5) (nI j_8) (nI j_9)) := by
  first
  | exact byt_n (((tX hLv nwb nkb (by omega)).2 f_1_1_0).1) (Or.inl (Or.inl c_4))
  | exact byt_n (((tX hLv nwb nkb (by omega)).2 f_1_1_0).1) (Or.inl (Or.inr c_5))
  | exact byt_n (((tX hLv nwb nkb (by omega)).2 f_1_1_0).1) (Or.inr (Or.inl c_6))
  | exact byt_n (((tX hLv nwb nkb (by omega)).2 f_1_1_0).1) (Or.inr (Or.inr (i_nle.mp c_7)))
  | exact h_10.trans (byt_g (((tX hLv nwb nkb (by omega)).2 f_1_1_0).1) (fun q => q.elim (fun z => z.elim c_4 c_5) (fun z => z.elim c_6 (i_nlt.mpr c_7))) hj_8 hj_9).symm
theorem lf_X7_byTurns_6 {nv0 : Int32} {nv1 : Int32} {nv2 : Int32} {nv3 : Int32} {nv5 : Int32} {nhh : Nat} {nww : Nat} {nkk : Nat} {ng1 : Nat → Int32} {ng2 : Nat → Int32} {ng3 : Nat → Int32} {ng4 : Nat → Int32} {ng5 : Nat → Int32} {k0 : Int32} {k1 : Int32} (nhb : nhh ≤ 999) (nwb : nww ≤ 6) (nkb : nkk ≤ 6) (hLv : okLv (nrm nv0 nv1 nv2 nv3 nhh nv5 nww nkk ng1 ng2 ng3 ng4 ng5)) (f_1_1_0 : 0 < nv0) (c_4 : ¬ (k0 < 0)) (c_5 : ¬ (4 < k0)) (c_6 : ¬ (k1 < 1)) (c_7 : ¬ (k1 ≤ 20)) : (-1000001) = (a_byt (nrm nv0 nv1 nv2 nv3 nhh nv5 nww nkk ng1 ng2 ng3 ng4 ng5) k0 k1) := by
  first
  | exact byt_n (((tX hLv nwb nkb (by omega)).2 f_1_1_0).1) (Or.inl (Or.inl c_4))
  | exact byt_n (((tX hLv nwb nkb (by omega)).2 f_1_1_0).1) (Or.inl (Or.inr c_5))
  | exact byt_n (((tX hLv nwb nkb (by omega)).2 f_1_1_0).1) (Or.inr (Or.inl c_6))
  | exact byt_n (((tX hLv nwb nkb (by omega)).2 f_1_1_0).1) (Or.inr (Or.inr (i_nle.mp c_7)))
set_option maxHeartbeats 4000000 in
set_option maxRecDepth 100000 in
theorem r_X7_byTurns (l : Launch) (dC : Nat → ClassId) (dI : Nat → Nat → Nat) (cI cZ cL cJ : ClassId) (sz : Nat) (x : Nat) (ro : Nat) (ta : Nat) (no : Nat) (ac : Nat) (im : Nat) (tr : Nat) (pl : Nat) (cs : Nat) (ak : Nat) (xf : Int32) (xg : Int32) (bo : Nat) (ou : Nat) (phr : Int32) (bu0 : Int32) (bu1 : Int32) (bu2 : Int32) (bu3 : Int32) (bu4 : Int32) (bu5 : Int32) (bu6 : Int32) (bu7 : Int32) (ou0 : Int32) (ou1 : Int32) (ou2 : Int32) (ou3 : Int32) (ou4 : Int32) (ou5 : Int32) (ou6 : Int32) (ou7 : Int32) (bb1 : Nat) (ob1 : Nat) (bb2 : Nat) (ob2 : Nat) (bb3 : Nat) (ob3 : Nat) (bb4 : Nat) (ob4 : Nat) (bb5 : Nat) (ob5 : Nat) (bf1 : Nat → Int32) (of1 : Nat → Int32) (bf2 : Nat → Int32) (of2 : Nat → Int32) (bf3 : Nat → Int32) (of3 : Nat → Int32) (bf4 : Nat → Int32) (of4 : Nat → Int32) (bf5 : Nat → Int32) (of5 : Nat → Int32) (nv0 : Int32) (nv1 : Int32) (nv2 : Int32) (nv3 : Int32) (nv5 : Int32) (nhh : Nat) (nww : Nat) (nkk : Nat) (nb1 : Nat) (nb2 : Nat) (nb3 : Nat) (nb4 : Nat) (nb5 : Nat) (ng1 : Nat → Int32) (ng2 : Nat → Int32) (ng3 : Nat → Int32) (ng4 : Nat → Int32) (ng5 : Nat → Int32) (k0 : Int32) (k1 : Int32) (nhb : nhh ≤ 999) (nwb : nww ≤ 6) (nkb : nkk ≤ 6) (hLv : okLv (nrm nv0 nv1 nv2 nv3 nhh nv5 nww nkk ng1 ng2 ng3 ng4 ng5)) : Met l yX7_byTurns wsX7_byTurns ({ frames := 11, cells := 0, slots := 0, locals := 253 }) (va_Pc [.ref x, .int k0, .int k1] (fun U => U.heap.size = sz ∧ va_P (dC, dI) vwCl [(xo_7_rrrrrrrrrii x ro ta no ac im tr pl cs ak xf xg), (xo_4_rri pl bo ou phr), (xo_3_iiiiiiiirrrrr bo bu0 bu1 bu2 bu3 bu4 bu5 bu6 bu7 bb1 bb2 bb3 bb4 bb5), (xI bb1 cI 6 bf1), (xI bb2 cI 6 bf2), (xI bb3 cI 6 bf3), (xI bb4 cI 6 bf4), (xI bb5 cI 6 bf5), (xo_3_iiiiiiiirrrrr ou ou0 ou1 ou2 ou3 ou4 ou5 ou6 ou7 ob1 ob2 ob3 ob4 ob5), (xI ob1 cI 6 of1), (xI ob2 cI 6 of2), (xI ob3 cI 6 of3), (xI ob4 cI 6 of4), (xI ob5 cI 6 of5), (xo_3_iiiiiiiirrrrr no nv0 nv1 nv2 nv3 (nI nhh) nv5 (nI nww) (nI nkk) nb1 nb2 nb3 nb4 nb5), (xI nb1 cI 6 ng1), (xI nb2 cI 6 ng2), (xI nb3 cI 6 ng3), (xI nb4 cI 6 ng4), (xI nb5 cI 6 ng5)] U.heap ∧ va_K (dC, dI) vwCl [(cI, .int), (cZ, .boolean), (cL, .object RX3), (cJ, .array .int)] U ∧ va_D (fun _ => True) [(xo_7_rrrrrrrrrii x ro ta no ac im tr pl cs ak xf xg), (xo_4_rri pl bo ou phr), (xo_3_iiiiiiiirrrrr bo bu0 bu1 bu2 bu3 bu4 bu5 bu6 bu7 bb1 bb2 bb3 bb4 bb5), (xI bb1 cI 6 bf1), (xI bb2 cI 6 bf2), (xI bb3 cI 6 bf3), (xI bb4 cI 6 bf4), (xI bb5 cI 6 bf5), (xo_3_iiiiiiiirrrrr ou ou0 ou1 ou2 ou3 ou4 ou5 ou6 ou7 ob1 ob2 ob3 ob4 ob5), (xI ob1 cI 6 of1), (xI ob2 cI 6 of2), (xI ob3 cI 6 of3), (xI ob4 cI 6 of4), (xI ob5 cI 6 of5), (xo_3_iiiiiiiirrrrr no nv0 nv1 nv2 nv3 (nI nhh) nv5 (nI nww) (nI nkk) nb1 nb2 nb3 nb4 nb5), (xI nb1 cI 6 ng1), (xI nb2 cI 6 ng2), (xI nb3 cI 6 ng3), (xI nb4 cI 6 ng4), (xI nb5 cI 6 ng5)])) (va_Qi (fun r (_ : Unit) => r = (a_byt (nrm nv0 nv1 nv2 nv3 nhh nv5 nww nkk ng1 ng2 ng3 ng4 ng5) k0 k1)) (fun (_ : Unit) t => ∃ (phrn : Int32) (bu0n : Int32) (bu1n : Int32) (bu2n : Int32) (bu3n : Int32) (bu4n : Int32) (bu5n : Int32) (bu6n : Int32) (bu7n : Int32) (ou0n : Int32) (ou1n : Int32) (ou2n : Int32) (ou3n : Int32) (ou4n : Int32) (ou5n : Int32) (ou6n : Int32) (ou7n : Int32) (bf1n : Nat → Int32) (of1n : Nat → Int32) (bf2n : Nat → Int32) (of2n : Nat → Int32) (bf3n : Nat → Int32) (of3n : Nat → Int32) (bf4n : Nat → Int32) (of4n : Nat → Int32) (bf5n : Nat → Int32) (of5n : Nat → Int32), va_P (dC, dI) vwCl [(xo_7_rrrrrrrrrii x ro ta no ac im tr pl cs ak xf xg), (xo_4_rri pl bo ou phrn), (xo_3_iiiiiiiirrrrr bo bu0n bu1n bu2n bu3n bu4n bu5n bu6n bu7n bb1 bb2 bb3 bb4 bb5), (xI bb1 cI 6 bf1n), (xI bb2 cI 6 bf2n), (xI bb3 cI 6 bf3n), (xI bb4 cI 6 bf4n), (xI bb5 cI 6 bf5n), (xo_3_iiiiiiiirrrrr ou ou0n ou1n ou2n ou3n ou4n ou5n ou6n ou7n ob1 ob2 ob3 ob4 ob5), (xI ob1 cI 6 of1n), (xI ob2 cI 6 of2n), (xI ob3 cI 6 of3n), (xI ob4 cI 6 of4n), (xI ob5 cI 6 of5n), (xo_3_iiiiiiiirrrrr no nv0 nv1 nv2 nv3 (nI nhh) nv5 (nI nww) (nI nkk) nb1 nb2 nb3 nb4 nb5), (xI nb1 cI 6 ng1), (xI nb2 cI 6 ng2), (xI nb3 cI 6 ng3), (xI nb4 cI 6 ng4), (xI nb5 cI 6 ng5)] t.heap ∧ va_D (va_A [(xo_7_rrrrrrrrrii x ro ta no ac im tr pl cs ak xf xg), (xo_4_rri pl bo ou phr), (xo_3_iiiiiiiirrrrr bo bu0 bu1 bu2 bu3 bu4 bu5 bu6 bu7 bb1 bb2 bb3 bb4 bb5), (xI bb1 cI 6 bf1), (xI bb2 cI 6 bf2), (xI bb3 cI 6 bf3), (xI bb4 cI 6 bf4), (xI bb5 cI 6 bf5), (xo_3_iiiiiiiirrrrr ou ou0 ou1 ou2 ou3 ou4 ou5 ou6 ou7 ob1 ob2 ob3 ob4 ob5), (xI ob1 cI 6 of1), (xI ob2 cI 6 of2), (xI ob3 cI 6 of3), (xI ob4 cI 6 of4), (xI ob5 cI 6 of5), (xo_3_iiiiiiiirrrrr no nv0 nv1 nv2 nv3 (nI nhh) nv5 (nI nww) (nI nkk) nb1 nb2 nb3 nb4 nb5), (xI nb1 cI 6 ng1), (xI nb2 cI 6 ng2), (xI nb3 cI 6 ng3), (xI nb4 cI 6 ng4), (xI nb5 cI 6 ng5)] sz) [(xo_7_rrrrrrrrrii x ro ta no ac im tr pl cs ak xf xg), (xo_4_rri pl bo ou phrn), (xo_3_iiiiiiiirrrrr bo bu0n bu1n bu2n bu3n bu4n bu5n bu6n bu7n bb1 bb2 bb3 bb4 bb5), (xI bb1 cI 6 bf1n), (xI bb2 cI 6 bf2n), (xI bb3 cI 6 bf3n), (xI bb4 cI 6 bf4n), (xI bb5 cI 6 bf5n), (xo_3_iiiiiiiirrrrr ou ou0n ou1n ou2n ou3n ou4n ou5n ou6n ou7n ob1 ob2 ob3 ob4 ob5), (xI ob1 cI 6 of1n), (xI ob2 cI 6 of2n), (xI ob3 cI 6 of3n), (xI ob4 cI 6 of4n), (xI ob5 cI 6 of5n), (xo_3_iiiiiiiirrrrr no nv0 nv1 nv2 nv3 (nI nhh) nv5 (nI nww) (nI nkk) nb1 nb2 nb3 nb4 nb5), (xI nb1 cI 6 ng1), (xI nb2 cI 6 ng2), (xI nb3 cI 6 ng3), (xI nb4 cI 6 ng4), (xI nb5 cI 6 ng5)]) (va_A [(xo_7_rrrrrrrrrii x ro ta no ac im tr pl cs ak xf xg), (xo_4_rri pl bo ou phr), (xo_3_iiiiiiiirrrrr bo bu0 bu1 bu2 bu3 bu4 bu5 bu6 bu7 bb1 bb2 bb3 bb4 bb5), (xI bb1 cI 6 bf1), (xI bb2 cI 6 bf2), (xI bb3 cI 6 bf3), (xI bb4 cI 6 bf4), (xI bb5 cI 6 bf5), (xo_3_iiiiiiiirrrrr ou ou0 ou1 ou2 ou3 ou4 ou5 ou6 ou7 ob1 ob2 ob3 ob4 ob5), (xI ob1 cI 6 of1), (xI ob2 cI 6 of2), (xI ob3 cI 6 of3), (xI ob4 cI 6 of4), (xI ob5 cI 6 of5), (xo_3_iiiiiiiirrrrr no nv0 nv1 nv2 nv3 (nI nhh) nv5 (nI nww) (nI nkk) nb1 nb2 nb3 nb4 nb5), (xI nb1 cI 6 ng1), (xI nb2 cI 6 ng2), (xI nb3 cI 6 ng3), (xI nb4 cI 6 ng4), (xI nb5 cI 6 ng5)] sz)) 0 0 (va_A [(xo_7_rrrrrrrrrii x ro ta no ac im tr pl cs ak xf xg), (xo_4_rri pl bo ou phr), (xo_3_iiiiiiiirrrrr bo bu0 bu1 bu2 bu3 bu4 bu5 bu6 bu7 bb1 bb2 bb3 bb4 bb5), (xI bb1 cI 6 bf1), (xI bb2 cI 6 bf2), (xI bb3 cI 6 bf3), (xI bb4 cI 6 bf4), (xI bb5 cI 6 bf5), (xo_3_iiiiiiiirrrrr ou ou0 ou1 ou2 ou3 ou4 ou5 ou6 ou7 ob1 ob2 ob3 ob4 ob5), (xI ob1 cI 6 of1), (xI ob2 cI 6 of2), (xI ob3 cI 6 of3), (xI ob4 cI 6 of4), (xI ob5 cI 6 of5), (xo_3_iiiiiiiirrrrr no nv0 nv1 nv2 nv3 (nI nhh) nv5 (nI nww) (nI nkk) nb1 nb2 nb3 nb4 nb5), (xI nb1 cI 6 ng1), (xI nb2 cI 6 ng2), (xI nb3 cI 6 ng3), (xI nb4 cI 6 ng4), (xI nb5 cI 6 ng5)] sz) := by
  refine Met.ofW (cc := cX7_byTurns) (maxL := 3) (ret := (some .int)) (by decide) rfl ?_
  intro p e s m args below meth c s₁ B hml hv
  obtain ⟨rfl, hsz, hP, hK, hD0⟩ := hv
  have hx := B.exec
  have hb := B.bytes
  have hr := B.returns
  have hts := atoms_spec (ws := wsX7_byTurns) B.pre
  have hown : s.vm.findClass RX7 = some m.cls := findClass_of_methodNamed B.named
  have hlocks := B.notSynchronized
  subst hsz
  have hD := hD0.self (sz := s.heap.size)
  generalize hAe : va_A [(xo_7_rrrrrrrrrii x ro ta no ac im tr pl cs ak xf xg), (xo_4_rri pl bo ou phr), (xo_3_iiiiiiiirrrrr bo bu0 bu1 bu2 bu3 bu4 bu5 bu6 bu7 bb1 bb2 bb3 bb4 bb5), (xI bb1 cI 6 bf1), (xI bb2 cI 6 bf2), (xI bb3 cI 6 bf3), (xI bb4 cI 6 bf4), (xI bb5 cI 6 bf5), (xo_3_iiiiiiiirrrrr ou ou0 ou1 ou2 ou3 ou4 ou5 ou6 ou7 ob1 ob2 ob3 ob4 ob5), (xI ob1 cI 6 of1), (xI ob2 cI 6 of2), (xI ob3 cI 6 of3), (xI ob4 cI 6 of4), (xI ob5 cI 6 of5), (xo_3_iiiiiiiirrrrr no nv0 nv1 nv2 nv3 (nI nhh) nv5 (nI nww) (nI nkk) nb1 nb2 nb3 nb4 nb5), (xI nb1 cI 6 ng1), (xI nb2 cI 6 ng2), (xI nb3 cI 6 ng3), (xI nb4 cI 6 ng4), (xI nb5 cI 6 ng5)] s.heap.size = A at hD ⊢
  have hA : ∀ q : Nat, s.heap.size ≤ q → A q := fun q h => by rw [← hAe]; exact Or.inr h
  have hS : va_S A s.heap s.heap [] := va_S.rf
  have hP : va_P (dC, dI) vwCl [(xo_7_rrrrrrrrrii x ro ta no ac im tr pl cs ak xf xg), (xo_4_rri pl bo ou phr), (xo_3_iiiiiiiirrrrr bo bu0 bu1 bu2 bu3 bu4 bu5 bu6 bu7 bb1 bb2 bb3 bb4 bb5), (xI bb1 cI 6 bf1), (xI bb2 cI 6 bf2), (xI bb3 cI 6 bf3), (xI bb4 cI 6 bf4), (xI bb5 cI 6 bf5), (xo_3_iiiiiiiirrrrr ou ou0 ou1 ou2 ou3 ou4 ou5 ou6 ou7 ob1 ob2 ob3 ob4 ob5), (xI ob1 cI 6 of1), (xI ob2 cI 6 of2), (xI ob3 cI 6 of3), (xI ob4 cI 6 of4), (xI ob5 cI 6 of5), (xo_3_iiiiiiiirrrrr no nv0 nv1 nv2 nv3 (nI nhh) nv5 (nI nww) (nI nkk) nb1 nb2 nb3 nb4 nb5), (xI nb1 cI 6 ng1), (xI nb2 cI 6 ng2), (xI nb3 cI 6 ng3), (xI nb4 cI 6 ng4), (xI nb5 cI 6 ng5)] s.heap := hP
  have hl := lv_entry ([.ref x, .int k0, .int k1]) (n := 3) (Nat.le_of_ble_eq_true rfl)
  rw [lg_entry_eq]
  generalize (lg_sl ([.ref x, .int k0, .int k1]) ++ List.replicate (3 - (lg_sl ([.ref x, .int k0, .int k1])).length) Slot.unset).toArray = ls at hl ⊢
  have hl : lv_has ls 3 [(0, .ref x), (1, .int k0), (2, .int k1)] := hl
  refine lv_aload_n hx hb dX7_byTurns_0 rfl (lv_at hl 0 rfl) ?_
  refine va_get (D := (dC, dI)) (ci := 7) (v := .ref no) (C := RX7) (T := TX7) (N := 11) hx hb hts i_X7_byTurns_X7 hown hK hP 0 rfl rfl 2 (by decide) (hts _ mx_X7_byTurns_1) (fun _ h9 => h9) rfl dX7_byTurns_1 ?_
  have hPc_1 := hP.sub (ws' := [(xo_3_iiiiiiiirrrrr no nv0 nv1 nv2 nv3 (nI nhh) nv5 (nI nww) (nI nkk) nb1 nb2 nb3 nb4 nb5), (xI nb1 cI 6 ng1), (xI nb2 cI 6 ng2), (xI nb3 cI 6 ng3), (xI nb4 cI 6 ng4), (xI nb5 cI 6 ng5)]) [14, 15, 16, 17, 18, 19] rfl
  refine vp_callSi (W.runV (As := []) (rest := []) ⟨hx, hb, hml, hown, hts⟩ (r_X3_isTold l dC dI cI cZ cL cJ no nv0 nv1 nv2 nv3 nv5 nhh nww nkk nb1 nb2 nb3 nb4 nb5 ng1 ng2 ng3 ng4 ng5 (by omega) (nwb) (nkb)) (cwV 0 hts gX7_byTurns_X3_isTold rfl rfl rfl (by decide +kernel) ⟨Nat.le_of_ble_eq_true rfl, Nat.le_of_ble_eq_true rfl⟩) (pvP 3 14 hK hP rfl rfl hPc_1) rfl rfl hl.1 rfl (lv_room (Nat.le_of_ble_eq_true rfl)) dX7_byTurns_4 ⟨Nat.le_of_ble_eq_true rfl, Nat.le_of_ble_eq_true rfl⟩) (fun r_1 h_1 => ?_)
  rcases h_1 with ⟨h_1, f_1_0_0⟩ | ⟨h_1, f_1_1_0⟩
  · subst h_1
    refine lv_if_ne (tgt := 13) hx hb dX7_byTurns_7 (by decide) (fun c_ => absurd (by decide) c_) (fun _ => ?_)
    refine lv_ldc (own := RX7) (v := (-1000002)) hx hb hown (hts _ mx_X7_byTurns_2) dX7_byTurns_10 ?_
    have hX9 := cut2 (wc := [(xo_7_rrrrrrrrrii x ro ta no ac im tr pl cs ak xf xg), (xo_4_rri pl bo ou phr), (xo_3_iiiiiiiirrrrr bo bu0 bu1 bu2 bu3 bu4 bu5 bu6 bu7 bb1 bb2 bb3 bb4 bb5), (xI bb1 cI 6 bf1), (xI bb2 cI 6 bf2), (xI bb3 cI 6 bf3), (xI bb4 cI 6 bf4), (xI bb5 cI 6 bf5), (xo_3_iiiiiiiirrrrr ou ou0 ou1 ou2 ou3 ou4 ou5 ou6 ou7 ob1 ob2 ob3 ob4 ob5), (xI ob1 cI 6 of1), (xI ob2 cI 6 of2), (xI ob3 cI 6 of3), (xI ob4 cI 6 of4), (xI ob5 cI 6 of5), (xo_3_iiiiiiiirrrrr no nv0 nv1 nv2 nv3 (nI nhh) nv5 (nI nww) (nI nkk) nb1 nb2 nb3 nb4 nb5), (xI nb1 cI 6 ng1), (xI nb2 cI 6 ng2), (xI nb3 cI 6 ng3), (xI nb4 cI 6 ng4), (xI nb5 cI 6 ng5)]) hP hD [0, 1, 2, 3, 4, 5, 6, 7, 8, 9, 10, 11, 12, 13, 14, 15, 16, 17, 18, 19] (by decide +kernel) rfl
    exact W.iret (v := (-1000002)) hx hb hr (fun t ht hW => ⟨⟨(-1000002), (), rfl, (lf_X7_byTurns_1 nhb nwb nkb hLv f_1_0_0), ⟨phr, bu0, bu1, bu2, bu3, bu4, bu5, bu6, bu7, ou0, ou1, ou2, ou3, ou4, ou5, ou6, ou7, bf1, of1, bf2, of2, bf3, of3, bf4, of4, bf5, of5, va_Ht ht hX9.1, hX9.2⟩⟩, hS.F ht⟩) hS.2.2 dX7_byTurns_12
  · subst h_1
    refine lv_if_ne (tgt := 13) hx hb dX7_byTurns_7 (by decide) (fun _ => ?_) (fun c_ => absurd c_ (by decide))
    refine lv_iload_n hx hb dX7_byTurns_13 rfl (lv_at hl 1 rfl) ?_
    refine lv_if_lt (tgt := 33) hx hb dX7_byTurns_14 (by decide) (fun c_4 => ?_) (fun c_4 => ?_)
    · skip
      refine lv_ldc (own := RX7) (v := (-1000001)) hx hb hown (hts _ mx_X7_byTurns_3) dX7_byTurns_33 ?_
      have hX9 := cut2 (wc := [(xo_7_rrrrrrrrrii x ro ta no ac im tr pl cs ak xf xg), (xo_4_rri pl bo ou phr), (xo_3_iiiiiiiirrrrr bo bu0 bu1 bu2 bu3 bu4 bu5 bu6 bu7 bb1 bb2 bb3 bb4 bb5), (xI bb1 cI 6 bf1), (xI bb2 cI 6 bf2), (xI bb3 cI 6 bf3), (xI bb4 cI 6 bf4), (xI bb5 cI 6 bf5), (xo_3_iiiiiiiirrrrr ou ou0 ou1 ou2 ou3 ou4 ou5 ou6 ou7 ob1 ob2 ob3 ob4 ob5), (xI ob1 cI 6 of1), (xI ob2 cI 6 of2), (xI ob3 cI 6 of3), (xI ob4 cI 6 of4), (xI ob5 cI 6 of5), (xo_3_iiiiiiiirrrrr no nv0 nv1 nv2 nv3 (nI nhh) nv5 (nI nww) (nI nkk) nb1 nb2 nb3 nb4 nb5), (xI nb1 cI 6 ng1), (xI nb2 cI 6 ng2), (xI nb3 cI 6 ng3), (xI nb4 cI 6 ng4), (xI nb5 cI 6 ng5)]) hP hD [0, 1, 2, 3, 4, 5, 6, 7, 8, 9, 10, 11, 12, 13, 14, 15, 16, 17, 18, 19] (by decide +kernel) rfl
      exact W.iret (v := (-1000001)) hx hb hr (fun t ht hW => ⟨⟨(-1000001), (), rfl, (lf_X7_byTurns_2 nhb nwb nkb hLv f_1_1_0 c_4), ⟨phr, bu0, bu1, bu2, bu3, bu4, bu5, bu6, bu7, ou0, ou1, ou2, ou3, ou4, ou5, ou6, ou7, bf1, of1, bf2, of2, bf3, of3, bf4, of4, bf5, of5, va_Ht ht hX9.1, hX9.2⟩⟩, hS.F ht⟩) hS.2.2 dX7_byTurns_35
    · skip
      refine lv_iload_n hx hb dX7_byTurns_17 rfl (lv_at hl 1 rfl) ?_
      refine lv_iconst (v := 4) hx hb dX7_byTurns_18 (by decide) ?_
      refine lv_icmp_gt (tgt := 33) hx hb dX7_byTurns_19 (by decide) (fun c_5 => ?_) (fun c_5 => ?_)
      · skip
        refine lv_ldc (own := RX7) (v := (-1000001)) hx hb hown (hts _ mx_X7_byTurns_3) dX7_byTurns_33 ?_
        have hX9 := cut2 (wc := [(xo_7_rrrrrrrrrii x ro ta no ac im tr pl cs ak xf xg), (xo_4_rri pl bo ou phr), (xo_3_iiiiiiiirrrrr bo bu0 bu1 bu2 bu3 bu4 bu5 bu6 bu7 bb1 bb2 bb3 bb4 bb5), (xI bb1 cI 6 bf1), (xI bb2 cI 6 bf2), (xI bb3 cI 6 bf3), (xI bb4 cI 6 bf4), (xI bb5 cI 6 bf5), (xo_3_iiiiiiiirrrrr ou ou0 ou1 ou2 ou3 ou4 ou5 ou6 ou7 ob1 ob2 ob3 ob4 ob5), (xI ob1 cI 6 of1), (xI ob2 cI 6 of2), (xI ob3 cI 6 of3), (xI ob4 cI 6 of4), (xI ob5 cI 6 of5), (xo_3_iiiiiiiirrrrr no nv0 nv1 nv2 nv3 (nI nhh) nv5 (nI nww) (nI nkk) nb1 nb2 nb3 nb4 nb5), (xI nb1 cI 6 ng1), (xI nb2 cI 6 ng2), (xI nb3 cI 6 ng3), (xI nb4 cI 6 ng4), (xI nb5 cI 6 ng5)]) hP hD [0, 1, 2, 3, 4, 5, 6, 7, 8, 9, 10, 11, 12, 13, 14, 15, 16, 17, 18, 19] (by decide +kernel) rfl
        exact W.iret (v := (-1000001)) hx hb hr (fun t ht hW => ⟨⟨(-1000001), (), rfl, (lf_X7_byTurns_3 nhb nwb nkb hLv f_1_1_0 c_4 c_5), ⟨phr, bu0, bu1, bu2, bu3, bu4, bu5, bu6, bu7, ou0, ou1, ou2, ou3, ou4, ou5, ou6, ou7, bf1, of1, bf2, of2, bf3, of3, bf4, of4, bf5, of5, va_Ht ht hX9.1, hX9.2⟩⟩, hS.F ht⟩) hS.2.2 dX7_byTurns_35
      · skip
        refine lv_iload_n hx hb dX7_byTurns_22 rfl (lv_at hl 2 rfl) ?_
        refine lv_iconst (v := 1) hx hb dX7_byTurns_23 (by decide) ?_
        refine lv_icmp_lt (tgt := 33) hx hb dX7_byTurns_24 (by decide) (fun c_6 => ?_) (fun c_6 => ?_)
        · skip
          refine lv_ldc (own := RX7) (v := (-1000001)) hx hb hown (hts _ mx_X7_byTurns_3) dX7_byTurns_33 ?_
          have hX9 := cut2 (wc := [(xo_7_rrrrrrrrrii x ro ta no ac im tr pl cs ak xf xg), (xo_4_rri pl bo ou phr), (xo_3_iiiiiiiirrrrr bo bu0 bu1 bu2 bu3 bu4 bu5 bu6 bu7 bb1 bb2 bb3 bb4 bb5), (xI bb1 cI 6 bf1), (xI bb2 cI 6 bf2), (xI bb3 cI 6 bf3), (xI bb4 cI 6 bf4), (xI bb5 cI 6 bf5), (xo_3_iiiiiiiirrrrr ou ou0 ou1 ou2 ou3 ou4 ou5 ou6 ou7 ob1 ob2 ob3 ob4 ob5), (xI ob1 cI 6 of1), (xI ob2 cI 6 of2), (xI ob3 cI 6 of3), (xI ob4 cI 6 of4), (xI ob5 cI 6 of5), (xo_3_iiiiiiiirrrrr no nv0 nv1 nv2 nv3 (nI nhh) nv5 (nI nww) (nI nkk) nb1 nb2 nb3 nb4 nb5), (xI nb1 cI 6 ng1), (xI nb2 cI 6 ng2), (xI nb3 cI 6 ng3), (xI nb4 cI 6 ng4), (xI nb5 cI 6 ng5)]) hP hD [0, 1, 2, 3, 4, 5, 6, 7, 8, 9, 10, 11, 12, 13, 14, 15, 16, 17, 18, 19] (by decide +kernel) rfl
          exact W.iret (v := (-1000001)) hx hb hr (fun t ht hW => ⟨⟨(-1000001), (), rfl, (lf_X7_byTurns_4 nhb nwb nkb hLv f_1_1_0 c_4 c_5 c_6), ⟨phr, bu0, bu1, bu2, bu3, bu4, bu5, bu6, bu7, ou0, ou1, ou2, ou3, ou4, ou5, ou6, ou7, bf1, of1, bf2, of2, bf3, of3, bf4, of4, bf5, of5, va_Ht ht hX9.1, hX9.2⟩⟩, hS.F ht⟩) hS.2.2 dX7_byTurns_35
        · skip
          refine lv_iload_n hx hb dX7_byTurns_27 rfl (lv_at hl 2 rfl) ?_
          refine lv_bipush (v := 20) hx hb dX7_byTurns_28 (by decide) ?_
          refine lv_icmp_le (tgt := 36) hx hb dX7_byTurns_30 (by decide) (fun c_7 => ?_) (fun c_7 => ?_)
          · skip
            obtain ⟨j_8, hj_8, rfl⟩ := nat_le (n := 4) c_4 rfl (le_nlt c_5) (by decide)
            obtain ⟨j_9, hj_9, rfl⟩ := nat_le (n := 20) (nn_1 c_6) rfl c_7 (by decide)
            refine lv_aload_n hx hb dX7_byTurns_36 rfl (lv_at hl 0 rfl) ?_
            refine va_get (D := (dC, dI)) (ci := 7) (v := .ref pl) (C := RX7) (T := TX7) (N := 11) hx hb hts i_X7_byTurns_X7 hown hK hP 0 rfl rfl 6 (by decide) (hts _ mx_X7_byTurns_4) (fun _ h9 => h9) rfl dX7_byTurns_37 ?_
            refine lv_aload_n hx hb dX7_byTurns_40 rfl (lv_at hl 0 rfl) ?_
            refine va_get (D := (dC, dI)) (ci := 7) (v := .ref no) (C := RX7) (T := TX7) (N := 11) hx hb hts i_X7_byTurns_X7 hown hK hP 0 rfl rfl 2 (by decide) (hts _ mx_X7_byTurns_1) (fun _ h9 => h9) rfl dX7_byTurns_41 ?_
            refine lv_iload_n hx hb dX7_byTurns_44 rfl (lv_at hl 1 rfl) ?_
            refine lv_iload_n hx hb dX7_byTurns_45 rfl (lv_at hl 2 rfl) ?_
            have hc_10 := cutW (wc := [(xo_4_rri pl bo ou phr), (xo_3_iiiiiiiirrrrr bo bu0 bu1 bu2 bu3 bu4 bu5 bu6 bu7 bb1 bb2 bb3 bb4 bb5), (xI bb1 cI 6 bf1), (xI bb2 cI 6 bf2), (xI bb3 cI 6 bf3), (xI bb4 cI 6 bf4), (xI bb5 cI 6 bf5), (xo_3_iiiiiiiirrrrr ou ou0 ou1 ou2 ou3 ou4 ou5 ou6 ou7 ob1 ob2 ob3 ob4 ob5), (xI ob1 cI 6 of1), (xI ob2 cI 6 of2), (xI ob3 cI 6 of3), (xI ob4 cI 6 of4), (xI ob5 cI 6 of5), (xo_3_iiiiiiiirrrrr no nv0 nv1 nv2 nv3 (nI nhh) nv5 (nI nww) (nI nkk) nb1 nb2 nb3 nb4 nb5), (xI nb1 cI 6 ng1), (xI nb2 cI 6 ng2), (xI nb3 cI 6 ng3), (xI nb4 cI 6 ng4), (xI nb5 cI 6 ng5)]) hP hD hS hA [1, 2, 3, 4, 5, 6, 7, 8, 9, 10, 11, 12, 13, 14, 15, 16, 17, 18, 19] (by decide +kernel) rfl
            refine va_calli (va_runV (As := [.ref no, .int (nI j_8), .int (nI j_9)]) (rest := []) ⟨hx, hb, hml, hown, hts⟩ (r_X4_comesTo l dC dI cI cZ cL cJ s.heap.size pl bo ou phr bu0 bu1 bu2 bu3 bu4 bu5 bu6 bu7 ou0 ou1 ou2 ou3 ou4 ou5 ou6 ou7 bb1 ob1 bb2 ob2 bb3 ob3 bb4 ob4 bb5 ob5 bf1 of1 bf2 of2 bf3 of3 bf4 of4 bf5 of5 nv0 nv1 nv2 nv3 nv5 nhh nww nkk nb1 nb2 nb3 nb4 nb5 ng1 ng2 ng3 ng4 ng5 no j_8 j_9 (nhb) (nwb) (nkb) (by omega) (by omega) (tX_N hLv nwb nkb (by omega) (by assumption))) (cwV 3 hts gX7_byTurns_X4_comesTo rfl rfl rfl (by decide +kernel) ⟨Nat.le_of_ble_eq_true rfl, Nat.le_of_ble_eq_true rfl⟩) (pvW 4 1 hK hP rfl rfl hc_10) rfl rfl hl.1 rfl (lv_room (Nat.le_of_ble_eq_true rfl)) dX7_byTurns_46 ⟨Nat.le_of_ble_eq_true rfl, Nat.le_of_ble_eq_true rfl⟩) hS (fun q _ h => hc_10.2.2 q h) hc_10.2.2 (fun r_10 u_10 t_10 H1 locs ht hvm h_10 hB hz1 hk1 hS => ?_)
            refine xl_27_2 hB (fun phrn_10 bu0n_10 bu1n_10 bu2n_10 bu3n_10 bu4n_10 bu5n_10 bu6n_10 bu7n_10 ou0n_10 ou1n_10 ou2n_10 ou3n_10 ou4n_10 ou5n_10 ou6n_10 ou7n_10 bf1n_10 of1n_10 bf2n_10 of2n_10 bf3n_10 of3n_10 bf4n_10 of4n_10 bf5n_10 of5n_10 hP1 hD1 => ?_)
            clear hB
            rw [ht] at hP1
            obtain ⟨hP, hD⟩ := va_join (wr := [(xo_7_rrrrrrrrrii x ro ta no ac im tr pl cs ak xf xg)]) (w1 := [(xo_4_rri pl bo ou phrn_10), (xo_3_iiiiiiiirrrrr bo bu0n_10 bu1n_10 bu2n_10 bu3n_10 bu4n_10 bu5n_10 bu6n_10 bu7n_10 bb1 bb2 bb3 bb4 bb5), (xI bb1 cI 6 bf1n_10), (xI bb2 cI 6 bf2n_10), (xI bb3 cI 6 bf3n_10), (xI bb4 cI 6 bf4n_10), (xI bb5 cI 6 bf5n_10), (xo_3_iiiiiiiirrrrr ou ou0n_10 ou1n_10 ou2n_10 ou3n_10 ou4n_10 ou5n_10 ou6n_10 ou7n_10 ob1 ob2 ob3 ob4 ob5), (xI ob1 cI 6 of1n_10), (xI ob2 cI 6 of2n_10), (xI ob3 cI 6 of3n_10), (xI ob4 cI 6 of4n_10), (xI ob5 cI 6 of5n_10), (xo_3_iiiiiiiirrrrr no nv0 nv1 nv2 nv3 (nI nhh) nv5 (nI nww) (nI nkk) nb1 nb2 nb3 nb4 nb5), (xI nb1 cI 6 ng1), (xI nb2 cI 6 ng2), (xI nb3 cI 6 ng3), (xI nb4 cI 6 ng4), (xI nb5 cI 6 ng5)]) hP hD [1, 2, 3, 4, 5, 6, 7, 8, 9, 10, 11, 12, 13, 14, 15, 16, 17, 18, 19] [0] rfl rfl (by decide +kernel) (by decide +kernel) hk1 hc_10.2.2 hP1 hD1
            generalize H1 = H at hP hS ⊢
            have hP : va_P (dC, dI) vwCl [(xo_7_rrrrrrrrrii x ro ta no ac im tr pl cs ak xf xg), (xo_4_rri pl bo ou phrn_10), (xo_3_iiiiiiiirrrrr bo bu0n_10 bu1n_10 bu2n_10 bu3n_10 bu4n_10 bu5n_10 bu6n_10 bu7n_10 bb1 bb2 bb3 bb4 bb5), (xI bb1 cI 6 bf1n_10), (xI bb2 cI 6 bf2n_10), (xI bb3 cI 6 bf3n_10), (xI bb4 cI 6 bf4n_10), (xI bb5 cI 6 bf5n_10), (xo_3_iiiiiiiirrrrr ou ou0n_10 ou1n_10 ou2n_10 ou3n_10 ou4n_10 ou5n_10 ou6n_10 ou7n_10 ob1 ob2 ob3 ob4 ob5), (xI ob1 cI 6 of1n_10), (xI ob2 cI 6 of2n_10), (xI ob3 cI 6 of3n_10), (xI ob4 cI 6 of4n_10), (xI ob5 cI 6 of5n_10), (xo_3_iiiiiiiirrrrr no nv0 nv1 nv2 nv3 (nI nhh) nv5 (nI nww) (nI nkk) nb1 nb2 nb3 nb4 nb5), (xI nb1 cI 6 ng1), (xI nb2 cI 6 ng2), (xI nb3 cI 6 ng3), (xI nb4 cI 6 ng4), (xI nb5 cI 6 ng5)] H := hP
            have hD := dto hP hD
            have hX9 := cut2 (wc := [(xo_7_rrrrrrrrrii x ro ta no ac im tr pl cs ak xf xg), (xo_4_rri pl bo ou phrn_10), (xo_3_iiiiiiiirrrrr bo bu0n_10 bu1n_10 bu2n_10 bu3n_10 bu4n_10 bu5n_10 bu6n_10 bu7n_10 bb1 bb2 bb3 bb4 bb5), (xI bb1 cI 6 bf1n_10), (xI bb2 cI 6 bf2n_10), (xI bb3 cI 6 bf3n_10), (xI bb4 cI 6 bf4n_10), (xI bb5 cI 6 bf5n_10), (xo_3_iiiiiiiirrrrr ou ou0n_10 ou1n_10 ou2n_10 ou3n_10 ou4n_10 ou5n_10 ou6n_10 ou7n_10 ob1 ob2 ob3 ob4 ob5), (xI ob1 cI 6 of1n_10), (xI ob2 cI 6 of2n_10), (xI ob3 cI 6 of3n_10), (xI ob4 cI 6 of4n_10), (xI ob5 cI 6 of5n_10), (xo_3_iiiiiiiirrrrr no nv0 nv1 nv2 nv3 (nI nhh) nv5 (nI nww) (nI nkk) nb1 nb2 nb3 nb4 nb5), (xI nb1 cI 6 ng1), (xI nb2 cI 6 ng2), (xI nb3 cI 6 ng3), (xI nb4 cI 6 ng4), (xI nb5 cI 6 ng5)]) hP hD [0, 1, 2, 3, 4, 5, 6, 7, 8, 9, 10, 11, 12, 13, 14, 15, 16, 17, 18, 19] (by decide +kernel) rfl
            exact W.iret (v := r_10) hx hb hr (fun t ht hW => ⟨⟨r_10, (), rfl, (lf_X7_byTurns_5 nhb nwb nkb hLv f_1_1_0 c_4 c_5 c_6 c_7 hj_8 hj_9 h_10), ⟨phrn_10, bu0n_10, bu1n_10, bu2n_10, bu3n_10, bu4n_10, bu5n_10, bu6n_10, bu7n_10, ou0n_10, ou1n_10, ou2n_10, ou3n_10, ou4n_10, ou5n_10, ou6n_10, ou7n_10, bf1n_10, of1n_10, bf2n_10, of2n_10, bf3n_10, of3n_10, bf4n_10, of4n_10, bf5n_10, of5n_10, va_Ht ht hX9.1, hX9.2⟩⟩, hS.F ht⟩) hS.2.2 dX7_byTurns_49
          · skip
            refine lv_ldc (own := RX7) (v := (-1000001)) hx hb hown (hts _ mx_X7_byTurns_3) dX7_byTurns_33 ?_
            have hX9 := cut2 (wc := [(xo_7_rrrrrrrrrii x ro ta no ac im tr pl cs ak xf xg), (xo_4_rri pl bo ou phr), (xo_3_iiiiiiiirrrrr bo bu0 bu1 bu2 bu3 bu4 bu5 bu6 bu7 bb1 bb2 bb3 bb4 bb5), (xI bb1 cI 6 bf1), (xI bb2 cI 6 bf2), (xI bb3 cI 6 bf3), (xI bb4 cI 6 bf4), (xI bb5 cI 6 bf5), (xo_3_iiiiiiiirrrrr ou ou0 ou1 ou2 ou3 ou4 ou5 ou6 ou7 ob1 ob2 ob3 ob4 ob5), (xI ob1 cI 6 of1), (xI ob2 cI 6 of2), (xI ob3 cI 6 of3), (xI ob4 cI 6 of4), (xI ob5 cI 6 of5), (xo_3_iiiiiiiirrrrr no nv0 nv1 nv2 nv3 (nI nhh) nv5 (nI nww) (nI nkk) nb1 nb2 nb3 nb4 nb5), (xI nb1 cI 6 ng1), (xI nb2 cI 6 ng2), (xI nb3 cI 6 ng3), (xI nb4 cI 6 ng4), (xI nb5 cI 6 ng5)]) hP hD [0, 1, 2, 3, 4, 5, 6, 7, 8, 9, 10, 11, 12, 13, 14, 15, 16, 17, 18, 19] (by decide +kernel) rfl
            exact W.iret (v := (-1000001)) hx hb hr (fun t ht hW => ⟨⟨(-1000001), (), rfl, (lf_X7_byTurns_6 nhb nwb nkb hLv f_1_1_0 c_4 c_5 c_6 c_7), ⟨phr, bu0, bu1, bu2, bu3, bu4, bu5, bu6, bu7, ou0, ou1, ou2, ou3, ou4, ou5, ou6, ou7, bf1, of1, bf2, of2, bf3, of3, bf4, of4, bf5, of5, va_Ht ht hX9.1, hX9.2⟩⟩, hS.F ht⟩) hS.2.2 dX7_byTurns_35
-- 44.mod1_d
section MS
variable {p : Program} {l : Launch} {e : Env} {R : Room} {s : State} {m : MethodId} {args : Array Value} {below : List Frame} {meth : Method} {c : Code} {H : Heap} {locs : List Loc} {cells slots : Nat} {Q : State → Prop} {pc : Nat} {ls : Array Slot}
/-- a loop whose head is at pc, with a measure -/
theorem lp_ms {σ : Type} (I : σ → Heap → List Loc → Array Slot → Prop) (μ : σ → Nat)
    (hs : ∀ (st : σ) (H : Heap) (locs : List Loc) (ls : Array Slot), I st H locs ls → (∀ (st2 : σ) (H2 : Heap) (locs2 : List Loc) (ls2 : Array Slot), μ st2 < μ st → I st2 H2 locs2 ls2 → W p l e R s m args below meth c H2 locs2 cells slots Q (F0 m pc ls2 [])) → W p l e R s m args below meth c H locs cells slots Q (F0 m pc ls []))
    (st : σ) (h : I st H locs ls) : W p l e R s m args below meth c H locs cells slots Q (F0 m pc ls []) := by
  have key : ∀ (n : Nat) (st : σ) (H : Heap) (locs : List Loc) (ls : Array Slot), μ st < n → I st H locs ls → W p l e R s m args below meth c H locs cells slots Q (F0 m pc ls []) := by
    intro n
    induction n with
    | zero => intro st H locs ls hn _; omega
    | succ n ih =>
      intro st H locs ls hn h
      exact hs st H locs ls h (fun st2 H2 locs2 ls2 hm h2 => ih st2 H2 locs2 ls2 (by omega) h2)
  exact key (μ st + 1) st H locs ls (by omega) h
end MS
/-- the model's level: winds, sounds, hour and cells in their bounds, every sound's loudness 1 to 20 -/
noncomputable def okM (f : Nat → Int32) (w k h : Nat) : Prop := f 3 = nI w ∧ f 4 = nI k ∧ f 5 = nI h ∧ w ≤ 6 ∧ k ≤ 6 ∧ (1 ≤ k ↔ 1 ≤ w) ∧ (∃ c : Nat, c ≤ 15 ∧ (1 ≤ k → 1 ≤ c) ∧ f 0 = nI c) ∧ ∀ s : Nat, s < k → ∃ L : Nat, 1 ≤ L ∧ L ≤ 20 ∧ f (32 + s) = nI L
theorem okM_same {f g : Nat → Int32} {w k h : Nat} (hM : okM f w k h) (o : ∀ j : Nat, j = 0 ∨ j = 3 ∨ j = 4 ∨ j = 5 ∨ 32 ≤ j ∧ j < 38 → g j = f j) : okM g w k h := by
  obtain ⟨a3, a4, a5, a6, a7, a8, ⟨c, c1, c2, c3⟩, a9⟩ := hM
  exact ⟨by rw [o 3 (by omega)]; exact a3, by rw [o 4 (by omega)]; exact a4, by rw [o 5 (by omega)]; exact a5, a6, a7, a8, ⟨c, c1, c2, by rw [o 0 (by omega)]; exact c3⟩, fun s hs => by rw [o _ (by omega)]; exact a9 s hs⟩
theorem okM_off {f g : Nat → Int32} {w k h i : Nat} {v : Int32} (hM : okM f w k h) (e : upd f (nI i).toNatClampNeg v = g) (hi : i < 32) (h0 : i ≠ 0) (h3 : i ≠ 3) (h4 : i ≠ 4) (h5 : i ≠ 5) : okM g w k h := by
  rw [nI_clamp (by omega)] at e
  refine okM_same hM (fun j hj => ?_)
  rw [← e]
  unfold upd
  rw [if_neg (by omega)]
theorem okM_loud {f g : Nat → Int32} {w k h i L : Nat} (hM : okM f w k h) (e : upd f (nI (32 + i)).toNatClampNeg (nI L) = g) (hi : i < 6) (h1 : 1 ≤ L) (h2 : L ≤ 20) : okM g w k h := by
  obtain ⟨a3, a4, a5, a6, a7, a8, ⟨c, c1, c2, c3⟩, a9⟩ := hM
  rw [nI_clamp (by omega)] at e
  have o : ∀ j : Nat, j ≠ 32 + i → g j = f j := fun j hj => by rw [← e]; unfold upd; rw [if_neg hj]
  refine ⟨by rw [o 3 (by omega)]; exact a3, by rw [o 4 (by omega)]; exact a4, by rw [o 5 (by omega)]; exact a5, a6, a7, a8, ⟨c, c1, c2, by rw [o 0 (by omega)]; exact c3⟩, fun s hs => ?_⟩
  by_cases q : s = i
  · subst q
    exact ⟨L, h1, h2, by rw [← e]; unfold upd; rw [if_pos rfl]⟩
  · rw [o _ (by omega)]
    exact a9 s hs
theorem okM_hour {f g : Nat → Int32} {w k h h2 : Nat} (hM : okM f w k h) (e : upd f (5 : Int32).toNatClampNeg (nI h2) = g) : okM g w k h2 := by
  obtain ⟨a3, a4, a5, a6, a7, a8, ⟨c, c1, c2, c3⟩, a9⟩ := hM
  have e5 : upd f 5 (nI h2) = g := e
  have o : ∀ j : Nat, j ≠ 5 → g j = f j := fun j hj => by rw [← e5]; unfold upd; rw [if_neg hj]
  exact ⟨by rw [o 3 (by omega)]; exact a3, by rw [o 4 (by omega)]; exact a4, by rw [← e5]; unfold upd; rw [if_pos rfl], a6, a7, a8, ⟨c, c1, c2, by rw [o 0 (by omega)]; exact c3⟩, fun s hs => by rw [o _ (by omega)]; exact a9 s hs⟩
theorem okM_eq {f g : Nat → Int32} {w k h : Nat} (hM : okM f w k h) (e : ∀ j : Nat, j < 38 → g j = f j) : okM g w k h := okM_same hM (fun j hj => e j (by omega))
theorem in64 {x : Int32} {lo n : Nat} {L U : Int64} (hL : L.toInt = lo) (hU : U.toInt = n) (hn : n < 2 ^ 30) (h : ¬ (x.toInt64 < L ∨ U < x.toInt64)) : ∃ j : Nat, j ≤ n ∧ lo ≤ j ∧ x = nI j := by
  have h1 : ¬ x.toInt64 < L := fun q => h (Or.inl q)
  have h2 : ¬ U < x.toInt64 := fun q => h (Or.inr q)
  rw [Int64.lt_iff_toInt_lt, Int32.toInt_toInt64, hL] at h1
  rw [Int64.lt_iff_toInt_lt, Int32.toInt_toInt64, hU] at h2
  obtain ⟨j, hj, rfl⟩ := nat_of (x := x) (n := n + 1) (by omega) (by omega) (by omega)
  rw [nI_toInt (by omega)] at h1
  exact ⟨j, by omega, by omega, rfl⟩
theorem in32 {x l u : Int32} {L U : Int64} (hL : l.toInt64 = L) (hU : u.toInt64 = U) : (x.toInt64 < L ∨ U < x.toInt64) ↔ (x < l ∨ u < x) := by
  rw [← hL, ← hU, w_lt, w_lt]
theorem mW_M {f : RF} {w k h : Nat} (hM : okM f w k h) (hh : h < 2 ^ 31) : mW f = f (8 + h % w) ∧ (f 4).toNatClampNeg = k ∧ f 5 = nI h := by
  obtain ⟨a3, a4, a5, a6, a7, -⟩ := hM
  unfold mW
  rw [a3, a5, a4, nI_clamp hh, nI_clamp (by omega), nI_clamp (by omega)]
  exact ⟨rfl, rfl, rfl⟩
theorem snd_no {s v : Int32} {k : Nat} (hk : k ≤ 1000) (e : v = nI k - 1) (h : s.toInt64 < 0 ∨ v.toInt64 < s.toInt64) : ¬ sB (nI k) s := by
  intro g
  rcases h with q | q
  · exact g.1 ((w_lt s 0).mp q)
  · rw [w_lt, e] at q
    obtain ⟨j, hj, rfl⟩ := vp_in_of (in_of g.1 g.2 (by omega)) (by omega)
    rw [Int32.lt_iff_toInt_lt, nI_toInt (by omega)] at q
    have e1 : (nI k - 1).toInt = (k : Int) - 1 := pk_sub_toInt (a := k) (b := 1) (by omega) (by decide)
    rw [e1] at q
    omega
theorem snd_in {s v : Int32} {k : Nat} (hk : k ≤ 1000) (e : v = nI k - 1) (h : ¬ (s.toInt64 < 0 ∨ v.toInt64 < s.toInt64)) : vp_in s k := by
  have h1 : ¬ s.toInt64 < (0 : Int32).toInt64 := fun q => h (Or.inl q)
  have h2 : ¬ v.toInt64 < s.toInt64 := fun q => h (Or.inr q)
  rw [w_lt] at h1 h2
  rw [vp_in_iff]
  rw [Int32.lt_iff_toInt_lt] at h1 h2
  have e1 : (nI k - 1).toInt = (k : Int) - 1 := pk_sub_toInt (a := k) (b := 1) (by omega) (by decide)
  rw [e, e1] at h2
  have e2 : (0 : Int32).toInt = 0 := rfl
  rw [e2] at h1
  constructor <;> omega
/-- from -1 on -/
theorem m1_in {s v : Int32} {k : Nat} (hk : k ≤ 1000) (e : v = nI k - 1) (h : ¬ (s.toInt64 < -1 ∨ v.toInt64 < s.toInt64)) : s = -1 ∨ vp_in s k := by
  have h1 : ¬ s.toInt64 < (-1 : Int32).toInt64 := fun q => h (Or.inl q)
  have h2 : ¬ v.toInt64 < s.toInt64 := fun q => h (Or.inr q)
  rw [w_lt] at h1 h2
  rw [vp_in_iff]
  rw [Int32.lt_iff_toInt_lt] at h1 h2
  have e1 : (nI k - 1).toInt = (k : Int) - 1 := pk_sub_toInt (a := k) (b := 1) (by omega) (by decide)
  rw [e, e1] at h2
  have e2 : (-1 : Int32).toInt = -1 := rfl
  rw [e2] at h1
  by_cases q : s.toInt = -1
  · exact Or.inl (Int32.toInt_inj.mp q)
  · exact Or.inr ⟨by omega, by omega⟩
/-- i from 0 to q - b: places of a row -/
theorem dif_in {i v : Int32} {q b : Nat} (hq : q ≤ 40) (hb : b ≤ 1000) (e : v = nI q - nI b) (h : ¬ (i.toInt64 < 0 ∨ v.toInt64 < i.toInt64)) : hpF i (nI b) := by
  have h1 : ¬ i.toInt64 < (0 : Int32).toInt64 := fun q => h (Or.inl q)
  have h2 : ¬ v.toInt64 < i.toInt64 := fun q => h (Or.inr q)
  rw [w_lt] at h1 h2
  obtain ⟨a, ha, rfl⟩ := nI_of h1
  refine ⟨a, b, rfl, rfl, ?_⟩
  rw [Int32.lt_iff_toInt_lt] at h2
  have e1 : (nI q - nI b).toInt = (q : Int) - b := pk_sub_toInt (by omega) (by omega)
  rw [e, e1, nI_toInt ha] at h2
  omega
theorem cp_in {i n : Int32} {v : Int64} {q : Nat} (hq : q ≤ 40) (hn : ¬ n < 0) (e : v = (nI q).toInt64 - n.toInt64) (h : ¬ (i.toInt64 < 0 ∨ v < i.toInt64)) : hpF i n := by
  have h1 : ¬ i.toInt64 < (0 : Int32).toInt64 := fun q => h (Or.inl q)
  have h2 : ¬ v < i.toInt64 := fun q => h (Or.inr q)
  rw [w_lt] at h1
  obtain ⟨a, ha, rfl⟩ := nI_of h1
  obtain ⟨b, hb, rfl⟩ := nI_of hn
  refine ⟨a, b, rfl, rfl, ?_⟩
  rw [e, Int64.lt_iff_toInt_lt, Int64.toInt_sub, Int32.toInt_toInt64, Int32.toInt_toInt64, Int32.toInt_toInt64, nI_toInt ha, nI_toInt hb, nI_toInt (by omega)] at h2
  have e1 : ((q : Int) - b).bmod (2 ^ 64) = (q : Int) - b := by
    apply Int.bmod_eq_of_le <;> omega
  rw [e1] at h2
  omega
theorem and_nat {a b : Nat} (ha : a < 2 ^ 31) (hb : b < 2 ^ 31) : ∃ z : Nat, z ≤ b ∧ z = a &&& b ∧ nI a &&& nI b = nI z := by
  have h1 : a &&& b ≤ b := Nat.and_le_right
  refine ⟨a &&& b, h1, rfl, ?_⟩
  apply Int32.toBitVec_inj.mp
  apply BitVec.eq_of_toNat_eq
  rw [Int32.toBitVec_and, BitVec.toNat_and, pk_tn (by omega), pk_tn (by omega), pk_tn (by omega)]
/-- a counter that goes down: n - 1, n - 2, .. -/
noncomputable def cdn (n i : Nat) : Int32 := nI n - 1 - nI i
theorem cdn_toInt {n i : Nat} (hn : n ≤ 1000) (hi : i ≤ 1000) : (cdn n i).toInt = (n : Int) - 1 - i := by
  unfold cdn
  have e1 : (nI n - 1).toInt = (n : Int) - 1 := pk_sub_toInt (a := n) (b := 1) (by omega) (by decide)
  rw [Int32.toInt_sub, e1, nI_toInt (by omega)]
  apply Int.bmod_eq_of_le <;> omega
theorem cdn_0 (n : Nat) : nI n - 1 = cdn n 0 := by
  show nI n - 1 = nI n - 1 - nI 0
  rw [nI_0, Int32.sub_zero]
theorem cdn_lt {n i : Nat} (hn : n ≤ 1000) (hi : i < n) : ¬ cdn n i < 0 := by
  rw [Int32.lt_iff_toInt_lt, cdn_toInt hn (by omega)]
  have e2 : (0 : Int32).toInt = 0 := rfl
  rw [e2]
  omega
theorem cdn_end {n : Nat} (hn : n ≤ 1000) : cdn n n < 0 := by
  rw [Int32.lt_iff_toInt_lt, cdn_toInt hn hn]
  have e2 : (0 : Int32).toInt = 0 := rfl
  rw [e2]
  omega
theorem cdn_s {n i : Nat} (hn : n ≤ 1000) (hi : i < n) : cdn n i + Int32.ofInt (-1) = cdn n (i + 1) := by
  apply Int32.toInt_inj.mp
  rw [Int32.toInt_add, cdn_toInt hn (by omega), cdn_toInt hn (by omega)]
  have e3 : (Int32.ofInt (-1)).toInt = -1 := by decide
  rw [e3]
  have e4 : ((n : Int) - 1 - i + -1).bmod (2 ^ 32) = (n : Int) - 1 - i + -1 := by
    apply Int.bmod_eq_of_le <;> omega
  rw [e4]
  omega
theorem cdn_shl {n i : Nat} (hn : n ≤ 4) (hi : i < n) : ∃ sh : Nat, (1 : Int32) <<< (cdn n i &&& 31) = nI sh ∧ sh ≤ 8 := by
  have e1 : cdn n i = nI (n - 1 - i) := by
    apply Int32.toInt_inj.mp
    rw [cdn_toInt (by omega) (by omega), nI_toInt (by omega)]
    omega
  rw [e1]
  rcases (show n - 1 - i = 0 ∨ n - 1 - i = 1 ∨ n - 1 - i = 2 ∨ n - 1 - i = 3 by omega) with q | q | q | q <;> rw [q]
  · exact ⟨1, by decide, by omega⟩
  · exact ⟨2, by decide, by omega⟩
  · exact ⟨4, by decide, by omega⟩
  · exact ⟨8, by decide, by omega⟩
/-- bit y of x -/
noncomputable def hasB (x y : Int32) : Prop := x >>> (y &&& 31) &&& 1 = 1
theorem lrem_lt {x y : Int64} (hy : ¬ y = 0) : (x - x / y * y).toInt.natAbs < y.toInt.natAbs := by
  have h0 : y.toInt ≠ 0 := fun q => hy (Int64.toInt_inj.mp q)
  have e1 : (x - x / y * y).toInt = (x.toInt.tmod y.toInt).bmod (2 ^ 64) := by
    rw [Int64.toInt_sub, Int64.toInt_mul, Int64.toInt_div, Int.sub_bmod_bmod, Int.mul_comm ((x.toInt.tdiv y.toInt).bmod (2 ^ 64)), ← Int.sub_bmod_bmod, Int.mul_bmod_bmod, Int.sub_bmod_bmod, Int.tmod_def]
  have h1 : (x.toInt.tmod y.toInt).natAbs = x.toInt.natAbs % y.toInt.natAbs := Int.natAbs_tmod _ _
  have h2 : x.toInt.natAbs % y.toInt.natAbs < y.toInt.natAbs := Nat.mod_lt _ (by omega)
  have h3 := y.toInt_lt
  have h4 := y.le_toInt
  rw [e1, Int.bmod_eq_of_le (by omega) (by omega), h1]
  exact h2
theorem rem_nz {x y : Int64} (h : ¬ y = 0) : ¬ y = 0 ∨ ¬ x = 0 := Or.inl h
theorem lsum_n {n : Int32} {i z : Nat} (h : ∀ s : Nat, s < i → hasB n (nI s) → 1 ≤ z) (f : ¬ hasB n (nI i)) : ∀ s : Nat, s < i + 1 → hasB n (nI s) → 1 ≤ z + 0 := by
  intro s hs hb
  by_cases q : s = i
  · rw [q] at hb
    exact absurd hb f
  · exact h s (by omega) hb

theorem mm0 {f : RF} : m38 f 0 = f 0 := rfl
theorem mm1 {f : RF} : m38 f 1 = f 1 := rfl
theorem mm2 {f : RF} : m38 f 2 = f 2 := rfl
theorem mm3 {f : RF} : m38 f 3 = f 3 := rfl
theorem mm4 {f : RF} : m38 f 4 = f 4 := rfl
theorem mm5 {f : RF} : m38 f 5 = f 5 := rfl
theorem mm6 {f : RF} : m38 f 6 = f 6 := rfl
theorem mm7 {f : RF} : m38 f 7 = f 7 := rfl
theorem cell_nz {f : RF} {w k h : Nat} (hM : okM f w k h) (hk : 1 ≤ k) : ¬ f 0 = 0 := by
  obtain ⟨-, -, -, -, -, -, ⟨c, c1, c2, c3⟩, -⟩ := hM
  rw [c3]
  exact nI_ne0 (c2 hk) (by omega)
theorem guS_M {f : RF} {w k h : Nat} (hM : okM f w k h) {j : Nat} (hw : 1 ≤ w) (hh : h < 2 ^ 31) : guS (m38 f) j = f (8 + (h + j) % w) := by
  obtain ⟨a3, a4, a5, a6, -⟩ := hM
  have h9 : (h + j) % w < w := Nat.mod_lt _ (by omega)
  unfold guS
  rw [mm5, mm3, a3, a5, nI_clamp hh, nI_clamp (by omega), m38_at (by omega)]
theorem th_M {f : RF} {w k h : Nat} (hM : okM f w k h) {n : Int32} : thS (m38 f) n = thR (fun s => f (26 + s)) n k := by
  obtain ⟨a3, a4, a5, a6, a7, -⟩ := hM
  unfold thS
  rw [mm4, a4, nI_clamp (by omega)]
  exact thR_c k (fun i hi => m38_at (by omega))
theorem prR_M {fn fz : RF} (hs : ∀ j : Nat, j < 8 → fz j = -1 ∨ ∃ q : Nat, q ≤ 40 ∧ fz j = nI q) (hl : ∀ j : Nat, j < 8 → ¬ fz j = -1 → ¬ fn j = -1) (i : Nat) (hi : i < 8) : (mbl fn fz i = -1 ↔ ¬ 0 ≤ fz i) := by
  unfold mbl
  rcases hs i hi with e | ⟨q, hq, e⟩
  · rw [if_neg (fun z => z.2 e), e]
    exact ⟨fun _ => by decide, fun _ => rfl⟩
  · have n1 : ¬ fz i = -1 := by
      rw [e]
      exact fun z => nI_pos (n := q) (by omega) (by rw [z]; decide)
    rw [if_pos ⟨hi, n1⟩, e]
    exact ⟨fun z => absurd z (hl i hi n1), fun z => absurd (nI_pos' (by omega)) z⟩
theorem on_step : ∀ s : Nat, s < 64 → 0 < s → onN s = onN (s &&& (s - 1)) + 1 := by decide +kernel
theorem on_nI {c : Int32} {s z j : Nat} (h : c + nI (onN s) = nI (onN j)) (hs : s < 64) (h0 : 0 < s) (e : z = s &&& (s - 1)) : c + 1 + nI (onN z) = nI (onN j) := by
  rw [← h, on_step s hs h0, ← e, ← nI_add, Int32.add_assoc, Int32.add_comm 1]
  rfl
theorem bd2_iff {a : Int32} : (a < 0 ∨ 1 < a) ↔ bd2 a := by
  have e1 : (1 : Int32).toInt = 1 := rfl
  have e2 : (2 : Int32).toInt = 2 := rfl
  unfold bd2
  rw [Int32.lt_iff_toInt_lt (x := 1), Int32.lt_iff_toInt_lt (x := a) (y := 2), e1, e2]
  constructor
  · rintro (q | q)
    · exact Or.inl q
    · exact Or.inr (by omega)
  · rintro (q | q)
    · exact Or.inl q
    · exact Or.inr (by omega)
theorem nb2 {n : Nat} (hn : n ≤ 1) : ¬ bd2 (nI n) := by
  rcases (show n = 0 ∨ n = 1 by omega) with rfl | rfl <;> decide
theorem akM_c {f : RF} {w : Nat} {x : Int32} {s : T16} (h : w < 6) : akM (m38 f) w x s = akM f w x s := by
  unfold akM szM mkM vsM sdM dsM vmM mkM lentM sdM dsM vmM lentM
  rw [m38_at (by omega), m38_at (by omega), m38_at (by omega)]
theorem trc_M {a : Int32} {z : Nat} (hz : z ≤ 16) : (a < 0 ∨ nI z - 1 < a) ↔ (a < 0 ∨ nI z ≤ a) := by
  have e1 : (nI z - 1).toInt = (z : Int) - 1 := pk_sub_toInt (a := z) (b := 1) (by omega) (by decide)
  have e0 : (0 : Int32).toInt = 0 := rfl
  rw [Int32.lt_iff_toInt_lt, Int32.lt_iff_toInt_lt, Int32.le_iff_toInt_le, e1, e0, nI_toInt (by omega)]
  omega
/-! an hour's leaves -/
theorem upd_id (f : RF) (k : Nat) : upd f k (f k) = f := by
  funext j
  unfold upd
  split
  · rename_i h
    rw [h]
  · rfl
theorem dr_lost {fs g1 g2 g3 : RF} {i L : Nat} {v : Int32} (h3 : g3 = upd g2 (32 + i) (nI L)) (h2 : g2 = upd g1 (20 + i) v) (h1 : g1 = upd fs (26 + i) 2) (e : v = g1 (20 + i)) (hL : g2 (32 + i) = nI L) : g3 = upd fs (26 + i) 2 := by
  rw [h3, ← hL, upd_id, h2, e, upd_id, h1]
theorem mDr_1 {fs : RF} {i : Nat} {n v : Int32} (t : toM fs i n = v) (h : ¬ iC (fs 0) v) : mDr fs i n = upd fs (26 + i) 2 := by
  have h1 : lostM fs i n := Or.inl (by rw [t]; exact h)
  unfold mDr
  rw [if_pos h1]
theorem mDr_2 {fs : RF} {i : Nat} {n l : Int32} (h : loM fs i = l) (h0 : l = 0) : mDr fs i n = upd fs (26 + i) 2 := by
  have h1 : lostM fs i n := Or.inr (h.trans h0)
  unfold mDr
  rw [if_pos h1]
theorem mDr_3 {fs : RF} {i : Nat} {n v l : Int32} (t : toM fs i n = v) (h : iC (fs 0) v) (hl : loM fs i = l) (h0 : ¬ l = 0) : mDr fs i n = upd (upd (upd fs (26 + i) 0) (20 + i) v) (32 + i) l := by
  have h1 : ¬ lostM fs i n := by
    rintro (q | q)
    · rw [t] at q
      exact q h
    · exact h0 (hl.symm.trans q)
  unfold mDr
  rw [if_neg h1, t, hl]
theorem lo4 {fs : RF} {i L : Nat} {k : Int32} (e : k = fs (14 + i)) (c : k = 4) (hL : fs (32 + i) = nI L) (h1 : 1 ≤ L) : loM fs i = nI (L - 1) := by
  unfold loM lbM
  rw [← e, if_pos c, hL]
  exact pk_sub (b := 1) h1
theorem lo5 {fs : RF} {i L : Nat} {k : Int32} (e : k = fs (14 + i)) (c : ¬ k = 4) (c5 : k = 5) (hL : fs (32 + i) = nI L) (h20 : L < 20) : loM fs i = nI (L + 1) := by
  unfold loM lbM
  have h : nI L < 20 := (nI_ltI (a := L) (b := 20) (by omega) (by decide)).mpr h20
  rw [← e, if_neg c, hL, if_pos ⟨c5, h⟩]
  exact nI_add L 1
theorem lo5b {fs : RF} {i L : Nat} {k : Int32} (e : k = fs (14 + i)) (c : ¬ k = 4) (hL : fs (32 + i) = nI L) (h20 : ¬ L < 20) (hL2 : L ≤ 20) : loM fs i = nI L := by
  unfold loM lbM
  have h : ¬ nI L < 20 := fun q => h20 ((nI_ltI (a := L) (b := 20) (by omega) (by decide)).mp q)
  rw [← e, if_neg c, hL, if_neg (fun q => h q.2)]
theorem lon {fs : RF} {i L : Nat} {k : Int32} (e : k = fs (14 + i)) (c : ¬ k = 4) (c5 : ¬ k = 5) (hL : fs (32 + i) = nI L) : loM fs i = nI L := by
  unfold loM lbM
  rw [← e, if_neg c, hL, if_neg (fun q => c5 q.1)]
theorem mSt_n {n : Int32} {i : Nat} {F : RF} {G : Int32} (c : ¬ F (26 + i) = 0) : mSt n i (F, G) = (F, G) := by
  have h1 : mD1 F i n = F := if_neg c
  unfold mSt
  rw [h1, if_neg (fun q => c q.1)]
theorem mSt_l {n : Int32} {i : Nat} {F F2 : RF} {G : Int32} (c : F (26 + i) = 0) (hF : F2 = mDr F i n) (h : ¬ F2 (26 + i) = 0 ∨ n = 0 ∨ ¬ amM F2 i) : mSt n i (F, G) = (F2, G) := by
  have h1 : mD1 F i n = F2 := (if_pos c).trans hF.symm
  have h2 : ¬ (F2 (26 + i) = 0 ∧ ¬ n = 0 ∧ amM F2 i) := by
    rintro ⟨a, b, d⟩
    rcases h with q | q | q
    · exact q a
    · exact b q
    · exact q d
  unfold mSt
  rw [h1, if_neg h2]
theorem mSt_g {n v w : Int32} {i : Nat} {F F2 g : RF} {G : Int32} (c : F (26 + i) = 0) (hF : F2 = mDr F i n) (h1 : F2 (26 + i) = 0) (h2 : ¬ n = 0) (h3 : amM F2 i) (hu : g = upd F2 (26 + i) 1) (e : v = g (32 + i)) (e2 : w = G + v) : mSt n i (F, G) = (g, w) := by
  have h4 : mD1 F i n = F2 := (if_pos c).trans hF.symm
  have h5 : v = F2 (32 + i) := by rw [e, hu, pk_un (by omega)]
  unfold mSt
  rw [h4, if_pos ⟨h1, h2, h3⟩, e2, h5, hu]
theorem oh_1 {n : Int32} {i : Nat} {s : MG} {F : RF} {G : Int32} (haf : mHs n i s = (F, G)) {r : MG} (h : mSt n i (F, G) = r) : mHs n (i + 1) s = r := by
  show mSt n i (mHs n i s) = r
  rw [haf]
  exact h
theorem oh_e {F fs : RF} {G : Int32} {k h : Nat} (hk : (fs 4).toNatClampNeg = k) (haf : mHs (mW fs - 2) k (fs, 0) = (F, G)) (h5 : F 5 = nI h) : mH fs = upd (upd F 7 (limX (F 7) G)) 5 (nI (h + 1)) := by
  unfold mH
  rw [hk, haf]
  show upd (upd F 7 (limX (F 7) G)) 5 (F 5 + 1) = _
  rw [h5]
  exact congrArg _ (nI_add h 1)
theorem oh_e1 {F fs : RF} {G : Int32} {k h : Nat} (hk : (fs 4).toNatClampNeg = k) (haf : mHs (mW fs - 2) k (fs, 0) = (F, G)) (h5 : F 5 = nI h) (c : F 7 + G ≤ 999) : upd (upd F 7 (F 7 + G)) 5 (nI (h + 1)) = mH fs := by
  have e : limX (F 7) G = F 7 + G := if_neg (i_nlt.mpr c)
  rw [oh_e hk haf h5, e]
theorem oh_e2 {F fs : RF} {G : Int32} {k h : Nat} (hk : (fs 4).toNatClampNeg = k) (haf : mHs (mW fs - 2) k (fs, 0) = (F, G)) (h5 : F 5 = nI h) (c : ¬ F 7 + G ≤ 999) : upd (upd F 7 999) 5 (nI (h + 1)) = mH fs := by
  have e : limX (F 7) G = 999 := if_pos (i_nle.mp c)
  rw [oh_e hk haf h5, e]
theorem n0 {a : Nat} (h : a = 0) : nI a = 0 := by
  rw [h]
  rfl
theorem dr_kept {fs g1 g2 g3 : RF} {i : Nat} {v l : Int32} (h3 : g3 = upd g2 (32 + i) l) (h2 : g2 = upd g1 (20 + i) v) (h1 : g1 = upd fs (26 + i) 0) : g3 = upd (upd (upd fs (26 + i) 0) (20 + i) v) (32 + i) l := by
  rw [h3, h2, h1]
theorem dX8_asLane_0 : decode cX8_asLane 0 = .ok (.iload_n 0, 1) := dq_26 (by decide +kernel)
theorem dX8_asLane_1 : decode cX8_asLane 1 = .ok (.ifCond .ne 13, 3) := dq_154 (b1 := 0) (b2 := 13) (by decide +kernel) (by decide)
theorem dX8_asLane_10 : decode cX8_asLane 10 = .ok (.ishr, 1) := dq_122 (by decide +kernel)
theorem dX8_asLane_11 : decode cX8_asLane 11 = .ok (.goto 19, 3) := dq_167 (b1 := 0) (b2 := 19) (by decide +kernel) (by decide)
theorem dX8_asLane_14 : decode cX8_asLane 14 = .ok (.iload_n 0, 1) := dq_26 (by decide +kernel)
theorem dX8_asLane_15 : decode cX8_asLane 15 = .ok (.iconst 1, 1) := dq_4 (by decide +kernel)
theorem dX8_asLane_16 : decode cX8_asLane 16 = .ok (.if_icmp .ne 13, 3) := dq_160 (b1 := 0) (b2 := 13) (by decide +kernel) (by decide)
theorem dX8_asLane_19 : decode cX8_asLane 19 = .ok (.iload_n 1, 1) := dq_27 (by decide +kernel)
theorem dX8_asLane_20 : decode cX8_asLane 20 = .ok (.bipush 16, 2) := dq_16 (b1 := 16) (by decide +kernel) (by decide)
theorem dX8_asLane_22 : decode cX8_asLane 22 = .ok (.ishl, 1) := dq_120 (by decide +kernel)
theorem dX8_asLane_23 : decode cX8_asLane 23 = .ok (.bipush 16, 2) := dq_16 (b1 := 16) (by decide +kernel) (by decide)
theorem dX8_asLane_25 : decode cX8_asLane 25 = .ok (.ishr, 1) := dq_122 (by decide +kernel)
theorem dX8_asLane_26 : decode cX8_asLane 26 = .ok (.goto 4, 3) := dq_167 (b1 := 0) (b2 := 4) (by decide +kernel) (by decide)
theorem dX8_asLane_29 : decode cX8_asLane 29 = .ok (.iload_n 1, 1) := dq_27 (by decide +kernel)
theorem dX8_asLane_30 : decode cX8_asLane 30 = .ok (.ireturn, 1) := dq_172 (by decide +kernel)
theorem dX8_asLane_4 : decode cX8_asLane 4 = .ok (.iload_n 1, 1) := dq_27 (by decide +kernel)
theorem dX8_asLane_5 : decode cX8_asLane 5 = .ok (.bipush 24, 2) := dq_16 (b1 := 24) (by decide +kernel) (by decide)
theorem dX8_asLane_7 : decode cX8_asLane 7 = .ok (.ishl, 1) := dq_120 (by decide +kernel)
theorem dX8_asLane_8 : decode cX8_asLane 8 = .ok (.bipush 24, 2) := dq_16 (b1 := 24) (by decide +kernel) (by decide)
theorem dX8_drift_0 : decode cX8_drift 0 = .ok (.aload_n 0, 1) := dq_42 (by decide +kernel)
theorem dX8_drift_1 : decode cX8_drift 1 = .ok (.getfield 19, 3) := dq_180 (b1 := 0) (b2 := 19) (by decide +kernel) (by decide)
theorem dX8_drift_10 : decode cX8_drift 10 = .ok (.aload_n 0, 1) := dq_42 (by decide +kernel)
theorem dX8_drift_101 : decode cX8_drift 101 = .ok (.ifCond .ne 7, 3) := dq_154 (b1 := 0) (b2 := 7) (by decide +kernel) (by decide)
theorem dX8_drift_104 : decode cX8_drift 104 = .ok (.iconst 1, 1) := dq_4 (by decide +kernel)
theorem dX8_drift_105 : decode cX8_drift 105 = .ok (.goto 4, 3) := dq_167 (b1 := 0) (b2 := 4) (by decide +kernel) (by decide)
theorem dX8_drift_108 : decode cX8_drift 108 = .ok (.iconst 0, 1) := dq_3 (by decide +kernel)
theorem dX8_drift_109 : decode cX8_drift 109 = .ok (.istore 6, 2) := dq_54 (b1 := 6) (by decide +kernel) (by decide)
theorem dX8_drift_11 : decode cX8_drift 11 = .ok (.getfield 19, 3) := dq_180 (b1 := 0) (b2 := 19) (by decide +kernel) (by decide)
theorem dX8_drift_111 : decode cX8_drift 111 = .ok (.aload_n 0, 1) := dq_42 (by decide +kernel)
theorem dX8_drift_112 : decode cX8_drift 112 = .ok (.getfield 19, 3) := dq_180 (b1 := 0) (b2 := 19) (by decide +kernel) (by decide)
theorem dX8_drift_115 : decode cX8_drift 115 = .ok (.bipush 26, 2) := dq_16 (b1 := 26) (by decide +kernel) (by decide)
theorem dX8_drift_117 : decode cX8_drift 117 = .ok (.iload_n 1, 1) := dq_27 (by decide +kernel)
theorem dX8_drift_118 : decode cX8_drift 118 = .ok (.iadd, 1) := dq_96 (by decide +kernel)
theorem dX8_drift_119 : decode cX8_drift 119 = .ok (.iload 6, 2) := dq_21 (b1 := 6) (by decide +kernel) (by decide)
theorem dX8_drift_121 : decode cX8_drift 121 = .ok (.ifCond .eq 7, 3) := dq_153 (b1 := 0) (b2 := 7) (by decide +kernel) (by decide)
theorem dX8_drift_124 : decode cX8_drift 124 = .ok (.iconst 2, 1) := dq_5 (by decide +kernel)
theorem dX8_drift_125 : decode cX8_drift 125 = .ok (.goto 4, 3) := dq_167 (b1 := 0) (b2 := 4) (by decide +kernel) (by decide)
theorem dX8_drift_128 : decode cX8_drift 128 = .ok (.iconst 0, 1) := dq_3 (by decide +kernel)
theorem dX8_drift_129 : decode cX8_drift 129 = .ok (.iastore, 1) := dq_79 (by decide +kernel)
theorem dX8_drift_130 : decode cX8_drift 130 = .ok (.aload_n 0, 1) := dq_42 (by decide +kernel)
theorem dX8_drift_131 : decode cX8_drift 131 = .ok (.getfield 19, 3) := dq_180 (b1 := 0) (b2 := 19) (by decide +kernel) (by decide)
theorem dX8_drift_134 : decode cX8_drift 134 = .ok (.bipush 20, 2) := dq_16 (b1 := 20) (by decide +kernel) (by decide)
theorem dX8_drift_136 : decode cX8_drift 136 = .ok (.iload_n 1, 1) := dq_27 (by decide +kernel)
theorem dX8_drift_137 : decode cX8_drift 137 = .ok (.iadd, 1) := dq_96 (by decide +kernel)
theorem dX8_drift_138 : decode cX8_drift 138 = .ok (.iload 6, 2) := dq_21 (b1 := 6) (by decide +kernel) (by decide)
theorem dX8_drift_14 : decode cX8_drift 14 = .ok (.bipush 20, 2) := dq_16 (b1 := 20) (by decide +kernel) (by decide)
theorem dX8_drift_140 : decode cX8_drift 140 = .ok (.ifCond .eq 15, 3) := dq_153 (b1 := 0) (b2 := 15) (by decide +kernel) (by decide)
theorem dX8_drift_143 : decode cX8_drift 143 = .ok (.aload_n 0, 1) := dq_42 (by decide +kernel)
theorem dX8_drift_144 : decode cX8_drift 144 = .ok (.getfield 19, 3) := dq_180 (b1 := 0) (b2 := 19) (by decide +kernel) (by decide)
theorem dX8_drift_147 : decode cX8_drift 147 = .ok (.bipush 20, 2) := dq_16 (b1 := 20) (by decide +kernel) (by decide)
theorem dX8_drift_149 : decode cX8_drift 149 = .ok (.iload_n 1, 1) := dq_27 (by decide +kernel)
theorem dX8_drift_150 : decode cX8_drift 150 = .ok (.iadd, 1) := dq_96 (by decide +kernel)
theorem dX8_drift_151 : decode cX8_drift 151 = .ok (.iaload, 1) := dq_46 (by decide +kernel)
theorem dX8_drift_152 : decode cX8_drift 152 = .ok (.goto 5, 3) := dq_167 (b1 := 0) (b2 := 5) (by decide +kernel) (by decide)
theorem dX8_drift_155 : decode cX8_drift 155 = .ok (.iload 4, 2) := dq_21 (b1 := 4) (by decide +kernel) (by decide)
theorem dX8_drift_157 : decode cX8_drift 157 = .ok (.iastore, 1) := dq_79 (by decide +kernel)
theorem dX8_drift_158 : decode cX8_drift 158 = .ok (.aload_n 0, 1) := dq_42 (by decide +kernel)
theorem dX8_drift_159 : decode cX8_drift 159 = .ok (.getfield 19, 3) := dq_180 (b1 := 0) (b2 := 19) (by decide +kernel) (by decide)
theorem dX8_drift_16 : decode cX8_drift 16 = .ok (.iload_n 1, 1) := dq_27 (by decide +kernel)
theorem dX8_drift_162 : decode cX8_drift 162 = .ok (.bipush 32, 2) := dq_16 (b1 := 32) (by decide +kernel) (by decide)
theorem dX8_drift_164 : decode cX8_drift 164 = .ok (.iload_n 1, 1) := dq_27 (by decide +kernel)
theorem dX8_drift_165 : decode cX8_drift 165 = .ok (.iadd, 1) := dq_96 (by decide +kernel)
theorem dX8_drift_166 : decode cX8_drift 166 = .ok (.iload 6, 2) := dq_21 (b1 := 6) (by decide +kernel) (by decide)
theorem dX8_drift_168 : decode cX8_drift 168 = .ok (.ifCond .eq 15, 3) := dq_153 (b1 := 0) (b2 := 15) (by decide +kernel) (by decide)
theorem dX8_drift_17 : decode cX8_drift 17 = .ok (.iadd, 1) := dq_96 (by decide +kernel)
theorem dX8_drift_171 : decode cX8_drift 171 = .ok (.aload_n 0, 1) := dq_42 (by decide +kernel)
theorem dX8_drift_172 : decode cX8_drift 172 = .ok (.getfield 19, 3) := dq_180 (b1 := 0) (b2 := 19) (by decide +kernel) (by decide)
theorem dX8_drift_175 : decode cX8_drift 175 = .ok (.bipush 32, 2) := dq_16 (b1 := 32) (by decide +kernel) (by decide)
theorem dX8_drift_177 : decode cX8_drift 177 = .ok (.iload_n 1, 1) := dq_27 (by decide +kernel)
theorem dX8_drift_178 : decode cX8_drift 178 = .ok (.iadd, 1) := dq_96 (by decide +kernel)
theorem dX8_drift_179 : decode cX8_drift 179 = .ok (.iaload, 1) := dq_46 (by decide +kernel)
theorem dX8_drift_18 : decode cX8_drift 18 = .ok (.iaload, 1) := dq_46 (by decide +kernel)
theorem dX8_drift_180 : decode cX8_drift 180 = .ok (.goto 5, 3) := dq_167 (b1 := 0) (b2 := 5) (by decide +kernel) (by decide)
theorem dX8_drift_183 : decode cX8_drift 183 = .ok (.iload 5, 2) := dq_21 (b1 := 5) (by decide +kernel) (by decide)
theorem dX8_drift_185 : decode cX8_drift 185 = .ok (.iastore, 1) := dq_79 (by decide +kernel)
theorem dX8_drift_186 : decode cX8_drift 186 = .ok (.return_, 1) := dq_177 (by decide +kernel)
theorem dX8_drift_19 : decode cX8_drift 19 = .ok (.iload_n 3, 1) := dq_29 (by decide +kernel)
theorem dX8_drift_20 : decode cX8_drift 20 = .ok (.iload_n 2, 1) := dq_28 (by decide +kernel)
theorem dX8_drift_21 : decode cX8_drift 21 = .ok (.invokestatic 145, 3) := dq_184 (b1 := 0) (b2 := 145) (by decide +kernel) (by decide)
theorem dX8_drift_24 : decode cX8_drift 24 = .ok (.iadd, 1) := dq_96 (by decide +kernel)
theorem dX8_drift_25 : decode cX8_drift 25 = .ok (.istore 4, 2) := dq_54 (b1 := 4) (by decide +kernel) (by decide)
theorem dX8_drift_27 : decode cX8_drift 27 = .ok (.iload_n 3, 1) := dq_29 (by decide +kernel)
theorem dX8_drift_28 : decode cX8_drift 28 = .ok (.iconst 4, 1) := dq_7 (by decide +kernel)
theorem dX8_drift_29 : decode cX8_drift 29 = .ok (.if_icmp .ne 17, 3) := dq_160 (b1 := 0) (b2 := 17) (by decide +kernel) (by decide)
theorem dX8_drift_32 : decode cX8_drift 32 = .ok (.aload_n 0, 1) := dq_42 (by decide +kernel)
theorem dX8_drift_33 : decode cX8_drift 33 = .ok (.getfield 19, 3) := dq_180 (b1 := 0) (b2 := 19) (by decide +kernel) (by decide)
theorem dX8_drift_36 : decode cX8_drift 36 = .ok (.bipush 32, 2) := dq_16 (b1 := 32) (by decide +kernel) (by decide)
theorem dX8_drift_38 : decode cX8_drift 38 = .ok (.iload_n 1, 1) := dq_27 (by decide +kernel)
theorem dX8_drift_39 : decode cX8_drift 39 = .ok (.iadd, 1) := dq_96 (by decide +kernel)
theorem dX8_drift_4 : decode cX8_drift 4 = .ok (.bipush 14, 2) := dq_16 (b1 := 14) (by decide +kernel) (by decide)
theorem dX8_drift_40 : decode cX8_drift 40 = .ok (.iaload, 1) := dq_46 (by decide +kernel)
theorem dX8_drift_41 : decode cX8_drift 41 = .ok (.iconst 1, 1) := dq_4 (by decide +kernel)
theorem dX8_drift_42 : decode cX8_drift 42 = .ok (.isub, 1) := dq_100 (by decide +kernel)
theorem dX8_drift_43 : decode cX8_drift 43 = .ok (.goto 45, 3) := dq_167 (b1 := 0) (b2 := 45) (by decide +kernel) (by decide)
theorem dX8_drift_46 : decode cX8_drift 46 = .ok (.iload_n 3, 1) := dq_29 (by decide +kernel)
theorem dX8_drift_47 : decode cX8_drift 47 = .ok (.iconst 5, 1) := dq_8 (by decide +kernel)
theorem dX8_drift_48 : decode cX8_drift 48 = .ok (.if_icmp .ne 31, 3) := dq_160 (b1 := 0) (b2 := 31) (by decide +kernel) (by decide)
theorem dX8_drift_51 : decode cX8_drift 51 = .ok (.aload_n 0, 1) := dq_42 (by decide +kernel)
theorem dX8_drift_52 : decode cX8_drift 52 = .ok (.getfield 19, 3) := dq_180 (b1 := 0) (b2 := 19) (by decide +kernel) (by decide)
theorem dX8_drift_55 : decode cX8_drift 55 = .ok (.bipush 32, 2) := dq_16 (b1 := 32) (by decide +kernel) (by decide)
theorem dX8_drift_57 : decode cX8_drift 57 = .ok (.iload_n 1, 1) := dq_27 (by decide +kernel)
theorem dX8_drift_58 : decode cX8_drift 58 = .ok (.iadd, 1) := dq_96 (by decide +kernel)
theorem dX8_drift_59 : decode cX8_drift 59 = .ok (.iaload, 1) := dq_46 (by decide +kernel)
theorem dX8_drift_6 : decode cX8_drift 6 = .ok (.iload_n 1, 1) := dq_27 (by decide +kernel)
theorem dX8_drift_60 : decode cX8_drift 60 = .ok (.bipush 20, 2) := dq_16 (b1 := 20) (by decide +kernel) (by decide)
theorem dX8_drift_62 : decode cX8_drift 62 = .ok (.if_icmp .ge 17, 3) := dq_162 (b1 := 0) (b2 := 17) (by decide +kernel) (by decide)
theorem dX8_drift_65 : decode cX8_drift 65 = .ok (.aload_n 0, 1) := dq_42 (by decide +kernel)
theorem dX8_drift_66 : decode cX8_drift 66 = .ok (.getfield 19, 3) := dq_180 (b1 := 0) (b2 := 19) (by decide +kernel) (by decide)
theorem dX8_drift_69 : decode cX8_drift 69 = .ok (.bipush 32, 2) := dq_16 (b1 := 32) (by decide +kernel) (by decide)
theorem dX8_drift_7 : decode cX8_drift 7 = .ok (.iadd, 1) := dq_96 (by decide +kernel)
theorem dX8_drift_71 : decode cX8_drift 71 = .ok (.iload_n 1, 1) := dq_27 (by decide +kernel)
theorem dX8_drift_72 : decode cX8_drift 72 = .ok (.iadd, 1) := dq_96 (by decide +kernel)
theorem dX8_drift_73 : decode cX8_drift 73 = .ok (.iaload, 1) := dq_46 (by decide +kernel)
theorem dX8_drift_74 : decode cX8_drift 74 = .ok (.iconst 1, 1) := dq_4 (by decide +kernel)
theorem dX8_drift_75 : decode cX8_drift 75 = .ok (.iadd, 1) := dq_96 (by decide +kernel)
theorem dX8_drift_76 : decode cX8_drift 76 = .ok (.goto 12, 3) := dq_167 (b1 := 0) (b2 := 12) (by decide +kernel) (by decide)
theorem dX8_drift_79 : decode cX8_drift 79 = .ok (.aload_n 0, 1) := dq_42 (by decide +kernel)
theorem dX8_drift_8 : decode cX8_drift 8 = .ok (.iaload, 1) := dq_46 (by decide +kernel)
theorem dX8_drift_80 : decode cX8_drift 80 = .ok (.getfield 19, 3) := dq_180 (b1 := 0) (b2 := 19) (by decide +kernel) (by decide)
theorem dX8_drift_83 : decode cX8_drift 83 = .ok (.bipush 32, 2) := dq_16 (b1 := 32) (by decide +kernel) (by decide)
theorem dX8_drift_85 : decode cX8_drift 85 = .ok (.iload_n 1, 1) := dq_27 (by decide +kernel)
theorem dX8_drift_86 : decode cX8_drift 86 = .ok (.iadd, 1) := dq_96 (by decide +kernel)
theorem dX8_drift_87 : decode cX8_drift 87 = .ok (.iaload, 1) := dq_46 (by decide +kernel)
theorem dX8_drift_88 : decode cX8_drift 88 = .ok (.istore 5, 2) := dq_54 (b1 := 5) (by decide +kernel) (by decide)
theorem dX8_drift_9 : decode cX8_drift 9 = .ok (.istore_n 3, 1) := dq_62 (by decide +kernel)
theorem dX8_drift_90 : decode cX8_drift 90 = .ok (.aload_n 0, 1) := dq_42 (by decide +kernel)
theorem dX8_drift_91 : decode cX8_drift 91 = .ok (.iload 4, 2) := dq_21 (b1 := 4) (by decide +kernel) (by decide)
theorem dX8_drift_93 : decode cX8_drift 93 = .ok (.invokevirtual 148, 3) := dq_182 (b1 := 0) (b2 := 148) (by decide +kernel) (by decide)
theorem dX8_drift_96 : decode cX8_drift 96 = .ok (.ifCond .eq 8, 3) := dq_153 (b1 := 0) (b2 := 8) (by decide +kernel) (by decide)
theorem dX8_drift_99 : decode cX8_drift 99 = .ok (.iload 5, 2) := dq_21 (b1 := 5) (by decide +kernel) (by decide)
theorem dX8_drifts_0 : decode cX8_drifts 0 = .ok (.iload_n 0, 1) := dq_26 (by decide +kernel)
theorem dX8_drifts_1 : decode cX8_drifts 1 = .ok (.iconst 1, 1) := dq_4 (by decide +kernel)
theorem dX8_drifts_10 : decode cX8_drifts 10 = .ok (.iconst 2, 1) := dq_5 (by decide +kernel)
theorem dX8_drifts_11 : decode cX8_drifts 11 = .ok (.if_icmp .ne 9, 3) := dq_160 (b1 := 0) (b2 := 9) (by decide +kernel) (by decide)
theorem dX8_drifts_14 : decode cX8_drifts 14 = .ok (.iload_n 1, 1) := dq_27 (by decide +kernel)
theorem dX8_drifts_15 : decode cX8_drifts 15 = .ok (.iconst 2, 1) := dq_5 (by decide +kernel)
theorem dX8_drifts_16 : decode cX8_drifts 16 = .ok (.idiv, 1) := dq_108 (by decide +kernel)
theorem dX8_drifts_17 : decode cX8_drifts 17 = .ok (.goto 25, 3) := dq_167 (b1 := 0) (b2 := 25) (by decide +kernel) (by decide)
theorem dX8_drifts_2 : decode cX8_drifts 2 = .ok (.if_icmp .ne 7, 3) := dq_160 (b1 := 0) (b2 := 7) (by decide +kernel) (by decide)
theorem dX8_drifts_20 : decode cX8_drifts 20 = .ok (.iload_n 0, 1) := dq_26 (by decide +kernel)
theorem dX8_drifts_21 : decode cX8_drifts 21 = .ok (.iconst 3, 1) := dq_6 (by decide +kernel)
theorem dX8_drifts_22 : decode cX8_drifts 22 = .ok (.if_icmp .ne 9, 3) := dq_160 (b1 := 0) (b2 := 9) (by decide +kernel) (by decide)
theorem dX8_drifts_25 : decode cX8_drifts 25 = .ok (.iconst 2, 1) := dq_5 (by decide +kernel)
theorem dX8_drifts_26 : decode cX8_drifts 26 = .ok (.iload_n 1, 1) := dq_27 (by decide +kernel)
theorem dX8_drifts_27 : decode cX8_drifts 27 = .ok (.imul, 1) := dq_104 (by decide +kernel)
theorem dX8_drifts_28 : decode cX8_drifts 28 = .ok (.goto 14, 3) := dq_167 (b1 := 0) (b2 := 14) (by decide +kernel) (by decide)
theorem dX8_drifts_31 : decode cX8_drifts 31 = .ok (.iload_n 0, 1) := dq_26 (by decide +kernel)
theorem dX8_drifts_32 : decode cX8_drifts 32 = .ok (.iconst 4, 1) := dq_7 (by decide +kernel)
theorem dX8_drifts_33 : decode cX8_drifts 33 = .ok (.if_icmp .ne 8, 3) := dq_160 (b1 := 0) (b2 := 8) (by decide +kernel) (by decide)
theorem dX8_drifts_36 : decode cX8_drifts 36 = .ok (.iload_n 1, 1) := dq_27 (by decide +kernel)
theorem dX8_drifts_37 : decode cX8_drifts 37 = .ok (.ineg, 1) := dq_116 (by decide +kernel)
theorem dX8_drifts_38 : decode cX8_drifts 38 = .ok (.goto 4, 3) := dq_167 (b1 := 0) (b2 := 4) (by decide +kernel) (by decide)
theorem dX8_drifts_41 : decode cX8_drifts 41 = .ok (.iconst 0, 1) := dq_3 (by decide +kernel)
theorem dX8_drifts_42 : decode cX8_drifts 42 = .ok (.ireturn, 1) := dq_172 (by decide +kernel)
theorem dX8_drifts_5 : decode cX8_drifts 5 = .ok (.iload_n 1, 1) := dq_27 (by decide +kernel)
theorem dX8_drifts_6 : decode cX8_drifts 6 = .ok (.goto 36, 3) := dq_167 (b1 := 0) (b2 := 36) (by decide +kernel) (by decide)
theorem dX8_drifts_9 : decode cX8_drifts 9 = .ok (.iload_n 0, 1) := dq_26 (by decide +kernel)
theorem dX8_find_0 : decode cX8_find 0 = .ok (.aload_n 0, 1) := dq_42 (by decide +kernel)
theorem dX8_find_1 : decode cX8_find 1 = .ok (.iload_n 1, 1) := dq_27 (by decide +kernel)
theorem dX8_find_2 : decode cX8_find 2 = .ok (.putfield 50, 3) := dq_181 (b1 := 0) (b2 := 50) (by decide +kernel) (by decide)
theorem dX8_find_5 : decode cX8_find 5 = .ok (.ldc 54, 2) := dq_18 (b1 := 54) (by decide +kernel) (by decide)
theorem dX8_find_7 : decode cX8_find 7 = .ok (.iload_n 1, 1) := dq_27 (by decide +kernel)
theorem dX8_find_8 : decode cX8_find 8 = .ok (.isub, 1) := dq_100 (by decide +kernel)
theorem dX8_find_9 : decode cX8_find 9 = .ok (.ireturn, 1) := dq_172 (by decide +kernel)
theorem dX8_gustOf_0 : decode cX8_gustOf 0 = .ok (.aload_n 0, 1) := dq_42 (by decide +kernel)
theorem dX8_gustOf_1 : decode cX8_gustOf 1 = .ok (.getfield 19, 3) := dq_180 (b1 := 0) (b2 := 19) (by decide +kernel) (by decide)
theorem dX8_gustOf_11 : decode cX8_gustOf 11 = .ok (.iconst 3, 1) := dq_6 (by decide +kernel)
theorem dX8_gustOf_12 : decode cX8_gustOf 12 = .ok (.iaload, 1) := dq_46 (by decide +kernel)
theorem dX8_gustOf_13 : decode cX8_gustOf 13 = .ok (.irem, 1) := dq_112 (by decide +kernel)
theorem dX8_gustOf_14 : decode cX8_gustOf 14 = .ok (.iadd, 1) := dq_96 (by decide +kernel)
theorem dX8_gustOf_15 : decode cX8_gustOf 15 = .ok (.iaload, 1) := dq_46 (by decide +kernel)
theorem dX8_gustOf_16 : decode cX8_gustOf 16 = .ok (.ireturn, 1) := dq_172 (by decide +kernel)
theorem dX8_gustOf_4 : decode cX8_gustOf 4 = .ok (.bipush 8, 2) := dq_16 (b1 := 8) (by decide +kernel) (by decide)
theorem dX8_gustOf_6 : decode cX8_gustOf 6 = .ok (.iload_n 1, 1) := dq_27 (by decide +kernel)
theorem dX8_gustOf_7 : decode cX8_gustOf 7 = .ok (.aload_n 0, 1) := dq_42 (by decide +kernel)
theorem dX8_gustOf_8 : decode cX8_gustOf 8 = .ok (.getfield 19, 3) := dq_180 (b1 := 0) (b2 := 19) (by decide +kernel) (by decide)
theorem dX8_has_0 : decode cX8_has 0 = .ok (.iload_n 0, 1) := dq_26 (by decide +kernel)
theorem dX8_has_1 : decode cX8_has 1 = .ok (.iload_n 1, 1) := dq_27 (by decide +kernel)
theorem dX8_has_10 : decode cX8_has 10 = .ok (.goto 4, 3) := dq_167 (b1 := 0) (b2 := 4) (by decide +kernel) (by decide)
theorem dX8_has_13 : decode cX8_has 13 = .ok (.iconst 0, 1) := dq_3 (by decide +kernel)
theorem dX8_has_14 : decode cX8_has 14 = .ok (.ireturn, 1) := dq_172 (by decide +kernel)
theorem dX8_has_2 : decode cX8_has 2 = .ok (.ishr, 1) := dq_122 (by decide +kernel)
theorem dX8_has_3 : decode cX8_has 3 = .ok (.iconst 1, 1) := dq_4 (by decide +kernel)
theorem dX8_has_4 : decode cX8_has 4 = .ok (.iand, 1) := dq_126 (by decide +kernel)
theorem dX8_has_5 : decode cX8_has 5 = .ok (.iconst 1, 1) := dq_4 (by decide +kernel)
theorem dX8_has_6 : decode cX8_has 6 = .ok (.if_icmp .ne 7, 3) := dq_160 (b1 := 0) (b2 := 7) (by decide +kernel) (by decide)
theorem dX8_has_9 : decode cX8_has 9 = .ok (.iconst 1, 1) := dq_4 (by decide +kernel)
theorem dX8_in_0 : decode cX8_in 0 = .ok (.lload_n 0, 1) := dq_30 (by decide +kernel)
theorem dX8_in_1 : decode cX8_in 1 = .ok (.lload_n 2, 1) := dq_32 (by decide +kernel)
theorem dX8_in_10 : decode cX8_in 10 = .ok (.ifCond .gt 7, 3) := dq_157 (b1 := 0) (b2 := 7) (by decide +kernel) (by decide)
theorem dX8_in_13 : decode cX8_in 13 = .ok (.iconst 1, 1) := dq_4 (by decide +kernel)
theorem dX8_in_14 : decode cX8_in 14 = .ok (.goto 4, 3) := dq_167 (b1 := 0) (b2 := 4) (by decide +kernel) (by decide)
theorem dX8_in_17 : decode cX8_in 17 = .ok (.iconst 0, 1) := dq_3 (by decide +kernel)
theorem dX8_in_18 : decode cX8_in 18 = .ok (.ireturn, 1) := dq_172 (by decide +kernel)
theorem dX8_in_2 : decode cX8_in 2 = .ok (.lcmp, 1) := dq_148 (by decide +kernel)
theorem dX8_in_3 : decode cX8_in 3 = .ok (.ifCond .lt 14, 3) := dq_155 (b1 := 0) (b2 := 14) (by decide +kernel) (by decide)
theorem dX8_in_6 : decode cX8_in 6 = .ok (.lload_n 0, 1) := dq_30 (by decide +kernel)
theorem dX8_in_7 : decode cX8_in 7 = .ok (.lload 4, 2) := dq_22 (b1 := 4) (by decide +kernel) (by decide)
theorem dX8_in_9 : decode cX8_in 9 = .ok (.lcmp, 1) := dq_148 (by decide +kernel)
theorem dX8_isAtMill_0 : decode cX8_isAtMill 0 = .ok (.aload_n 0, 1) := dq_42 (by decide +kernel)
theorem dX8_isAtMill_1 : decode cX8_isAtMill 1 = .ok (.getfield 19, 3) := dq_180 (b1 := 0) (b2 := 19) (by decide +kernel) (by decide)
theorem dX8_isAtMill_11 : decode cX8_isAtMill 11 = .ok (.aload_n 0, 1) := dq_42 (by decide +kernel)
theorem dX8_isAtMill_12 : decode cX8_isAtMill 12 = .ok (.getfield 19, 3) := dq_180 (b1 := 0) (b2 := 19) (by decide +kernel) (by decide)
theorem dX8_isAtMill_15 : decode cX8_isAtMill 15 = .ok (.bipush 20, 2) := dq_16 (b1 := 20) (by decide +kernel) (by decide)
theorem dX8_isAtMill_17 : decode cX8_isAtMill 17 = .ok (.iload_n 1, 1) := dq_27 (by decide +kernel)
theorem dX8_isAtMill_18 : decode cX8_isAtMill 18 = .ok (.iadd, 1) := dq_96 (by decide +kernel)
theorem dX8_isAtMill_19 : decode cX8_isAtMill 19 = .ok (.iaload, 1) := dq_46 (by decide +kernel)
theorem dX8_isAtMill_20 : decode cX8_isAtMill 20 = .ok (.aload_n 0, 1) := dq_42 (by decide +kernel)
theorem dX8_isAtMill_21 : decode cX8_isAtMill 21 = .ok (.getfield 19, 3) := dq_180 (b1 := 0) (b2 := 19) (by decide +kernel) (by decide)
theorem dX8_isAtMill_24 : decode cX8_isAtMill 24 = .ok (.iconst 1, 1) := dq_4 (by decide +kernel)
theorem dX8_isAtMill_25 : decode cX8_isAtMill 25 = .ok (.iaload, 1) := dq_46 (by decide +kernel)
theorem dX8_isAtMill_26 : decode cX8_isAtMill 26 = .ok (.isub, 1) := dq_100 (by decide +kernel)
theorem dX8_isAtMill_27 : decode cX8_isAtMill 27 = .ok (.goto 19, 3) := dq_167 (b1 := 0) (b2 := 19) (by decide +kernel) (by decide)
theorem dX8_isAtMill_30 : decode cX8_isAtMill 30 = .ok (.aload_n 0, 1) := dq_42 (by decide +kernel)
theorem dX8_isAtMill_31 : decode cX8_isAtMill 31 = .ok (.getfield 19, 3) := dq_180 (b1 := 0) (b2 := 19) (by decide +kernel) (by decide)
theorem dX8_isAtMill_34 : decode cX8_isAtMill 34 = .ok (.iconst 1, 1) := dq_4 (by decide +kernel)
theorem dX8_isAtMill_35 : decode cX8_isAtMill 35 = .ok (.iaload, 1) := dq_46 (by decide +kernel)
theorem dX8_isAtMill_36 : decode cX8_isAtMill 36 = .ok (.aload_n 0, 1) := dq_42 (by decide +kernel)
theorem dX8_isAtMill_37 : decode cX8_isAtMill 37 = .ok (.getfield 19, 3) := dq_180 (b1 := 0) (b2 := 19) (by decide +kernel) (by decide)
theorem dX8_isAtMill_4 : decode cX8_isAtMill 4 = .ok (.bipush 6, 2) := dq_16 (b1 := 6) (by decide +kernel) (by decide)
theorem dX8_isAtMill_40 : decode cX8_isAtMill 40 = .ok (.bipush 20, 2) := dq_16 (b1 := 20) (by decide +kernel) (by decide)
theorem dX8_isAtMill_42 : decode cX8_isAtMill 42 = .ok (.iload_n 1, 1) := dq_27 (by decide +kernel)
theorem dX8_isAtMill_43 : decode cX8_isAtMill 43 = .ok (.iadd, 1) := dq_96 (by decide +kernel)
theorem dX8_isAtMill_44 : decode cX8_isAtMill 44 = .ok (.iaload, 1) := dq_46 (by decide +kernel)
theorem dX8_isAtMill_45 : decode cX8_isAtMill 45 = .ok (.isub, 1) := dq_100 (by decide +kernel)
theorem dX8_isAtMill_46 : decode cX8_isAtMill 46 = .ok (.istore_n 2, 1) := dq_61 (by decide +kernel)
theorem dX8_isAtMill_47 : decode cX8_isAtMill 47 = .ok (.iload_n 2, 1) := dq_28 (by decide +kernel)
theorem dX8_isAtMill_48 : decode cX8_isAtMill 48 = .ok (.i2l, 1) := dq_133 (by decide +kernel)
theorem dX8_isAtMill_49 : decode cX8_isAtMill 49 = .ok (.lconst 0, 1) := dq_9 (by decide +kernel)
theorem dX8_isAtMill_50 : decode cX8_isAtMill 50 = .ok (.aload_n 0, 1) := dq_42 (by decide +kernel)
theorem dX8_isAtMill_51 : decode cX8_isAtMill 51 = .ok (.getfield 19, 3) := dq_180 (b1 := 0) (b2 := 19) (by decide +kernel) (by decide)
theorem dX8_isAtMill_54 : decode cX8_isAtMill 54 = .ok (.iconst 2, 1) := dq_5 (by decide +kernel)
theorem dX8_isAtMill_55 : decode cX8_isAtMill 55 = .ok (.iaload, 1) := dq_46 (by decide +kernel)
theorem dX8_isAtMill_56 : decode cX8_isAtMill 56 = .ok (.i2l, 1) := dq_133 (by decide +kernel)
theorem dX8_isAtMill_57 : decode cX8_isAtMill 57 = .ok (.invokestatic 57, 3) := dq_184 (b1 := 0) (b2 := 57) (by decide +kernel) (by decide)
theorem dX8_isAtMill_6 : decode cX8_isAtMill 6 = .ok (.iaload, 1) := dq_46 (by decide +kernel)
theorem dX8_isAtMill_60 : decode cX8_isAtMill 60 = .ok (.ireturn, 1) := dq_172 (by decide +kernel)
theorem dX8_isAtMill_7 : decode cX8_isAtMill 7 = .ok (.iconst 1, 1) := dq_4 (by decide +kernel)
theorem dX8_isAtMill_8 : decode cX8_isAtMill 8 = .ok (.if_icmp .ne 22, 3) := dq_160 (b1 := 0) (b2 := 22) (by decide +kernel) (by decide)
theorem dX8_isCell_0 : decode cX8_isCell 0 = .ok (.iload_n 1, 1) := dq_27 (by decide +kernel)
theorem dX8_isCell_1 : decode cX8_isCell 1 = .ok (.i2l, 1) := dq_133 (by decide +kernel)
theorem dX8_isCell_10 : decode cX8_isCell 10 = .ok (.isub, 1) := dq_100 (by decide +kernel)
theorem dX8_isCell_11 : decode cX8_isCell 11 = .ok (.i2l, 1) := dq_133 (by decide +kernel)
theorem dX8_isCell_12 : decode cX8_isCell 12 = .ok (.invokestatic 57, 3) := dq_184 (b1 := 0) (b2 := 57) (by decide +kernel) (by decide)
theorem dX8_isCell_15 : decode cX8_isCell 15 = .ok (.ireturn, 1) := dq_172 (by decide +kernel)
theorem dX8_isCell_2 : decode cX8_isCell 2 = .ok (.lconst 0, 1) := dq_9 (by decide +kernel)
theorem dX8_isCell_3 : decode cX8_isCell 3 = .ok (.aload_n 0, 1) := dq_42 (by decide +kernel)
theorem dX8_isCell_4 : decode cX8_isCell 4 = .ok (.getfield 19, 3) := dq_180 (b1 := 0) (b2 := 19) (by decide +kernel) (by decide)
theorem dX8_isCell_7 : decode cX8_isCell 7 = .ok (.iconst 0, 1) := dq_3 (by decide +kernel)
theorem dX8_isCell_8 : decode cX8_isCell 8 = .ok (.iaload, 1) := dq_46 (by decide +kernel)
theorem dX8_isCell_9 : decode cX8_isCell 9 = .ok (.iconst 1, 1) := dq_4 (by decide +kernel)
theorem dX8_isKind_0 : decode cX8_isKind 0 = .ok (.iload_n 1, 1) := dq_27 (by decide +kernel)
theorem dX8_isKind_1 : decode cX8_isKind 1 = .ok (.ifCond .eq 28, 3) := dq_153 (b1 := 0) (b2 := 28) (by decide +kernel) (by decide)
theorem dX8_isKind_10 : decode cX8_isKind 10 = .ok (.iconst 1, 1) := dq_4 (by decide +kernel)
theorem dX8_isKind_11 : decode cX8_isKind 11 = .ok (.if_icmp .ne 8, 3) := dq_160 (b1 := 0) (b2 := 8) (by decide +kernel) (by decide)
theorem dX8_isKind_14 : decode cX8_isKind 14 = .ok (.iload_n 0, 1) := dq_26 (by decide +kernel)
theorem dX8_isKind_15 : decode cX8_isKind 15 = .ok (.iconst 4, 1) := dq_7 (by decide +kernel)
theorem dX8_isKind_16 : decode cX8_isKind 16 = .ok (.if_icmp .lt 13, 3) := dq_161 (b1 := 0) (b2 := 13) (by decide +kernel) (by decide)
theorem dX8_isKind_19 : decode cX8_isKind 19 = .ok (.iload_n 1, 1) := dq_27 (by decide +kernel)
theorem dX8_isKind_20 : decode cX8_isKind 20 = .ok (.iconst 4, 1) := dq_7 (by decide +kernel)
theorem dX8_isKind_21 : decode cX8_isKind 21 = .ok (.if_icmp .ne 12, 3) := dq_160 (b1 := 0) (b2 := 12) (by decide +kernel) (by decide)
theorem dX8_isKind_24 : decode cX8_isKind 24 = .ok (.iload_n 0, 1) := dq_26 (by decide +kernel)
theorem dX8_isKind_25 : decode cX8_isKind 25 = .ok (.iconst 5, 1) := dq_8 (by decide +kernel)
theorem dX8_isKind_26 : decode cX8_isKind 26 = .ok (.if_icmp .ne 7, 3) := dq_160 (b1 := 0) (b2 := 7) (by decide +kernel) (by decide)
theorem dX8_isKind_29 : decode cX8_isKind 29 = .ok (.iconst 1, 1) := dq_4 (by decide +kernel)
theorem dX8_isKind_30 : decode cX8_isKind 30 = .ok (.goto 4, 3) := dq_167 (b1 := 0) (b2 := 4) (by decide +kernel) (by decide)
theorem dX8_isKind_33 : decode cX8_isKind 33 = .ok (.iconst 0, 1) := dq_3 (by decide +kernel)
theorem dX8_isKind_34 : decode cX8_isKind 34 = .ok (.ireturn, 1) := dq_172 (by decide +kernel)
theorem dX8_isKind_4 : decode cX8_isKind 4 = .ok (.iload_n 0, 1) := dq_26 (by decide +kernel)
theorem dX8_isKind_5 : decode cX8_isKind 5 = .ok (.iload_n 1, 1) := dq_27 (by decide +kernel)
theorem dX8_isKind_6 : decode cX8_isKind 6 = .ok (.if_icmp .eq 23, 3) := dq_159 (b1 := 0) (b2 := 23) (by decide +kernel) (by decide)
theorem dX8_isKind_9 : decode cX8_isKind 9 = .ok (.iload_n 1, 1) := dq_27 (by decide +kernel)
theorem dX8_isRow_0 : decode cX8_isRow 0 = .ok (.iload_n 0, 1) := dq_26 (by decide +kernel)
theorem dX8_isRow_1 : decode cX8_isRow 1 = .ok (.i2l, 1) := dq_133 (by decide +kernel)
theorem dX8_isRow_2 : decode cX8_isRow 2 = .ok (.lconst 0, 1) := dq_9 (by decide +kernel)
theorem dX8_isRow_3 : decode cX8_isRow 3 = .ok (.ldc2_w 55, 3) := dq_20 (b1 := 0) (b2 := 55) (by decide +kernel) (by decide)
theorem dX8_isRow_6 : decode cX8_isRow 6 = .ok (.invokestatic 57, 3) := dq_184 (b1 := 0) (b2 := 57) (by decide +kernel) (by decide)
theorem dX8_isRow_9 : decode cX8_isRow 9 = .ok (.ireturn, 1) := dq_172 (by decide +kernel)
theorem dX8_isSound_0 : decode cX8_isSound 0 = .ok (.iload_n 1, 1) := dq_27 (by decide +kernel)
theorem dX8_isSound_1 : decode cX8_isSound 1 = .ok (.i2l, 1) := dq_133 (by decide +kernel)
theorem dX8_isSound_10 : decode cX8_isSound 10 = .ok (.isub, 1) := dq_100 (by decide +kernel)
theorem dX8_isSound_11 : decode cX8_isSound 11 = .ok (.i2l, 1) := dq_133 (by decide +kernel)
theorem dX8_isSound_12 : decode cX8_isSound 12 = .ok (.invokestatic 57, 3) := dq_184 (b1 := 0) (b2 := 57) (by decide +kernel) (by decide)
theorem dX8_isSound_15 : decode cX8_isSound 15 = .ok (.ireturn, 1) := dq_172 (by decide +kernel)
theorem dX8_isSound_2 : decode cX8_isSound 2 = .ok (.lconst 0, 1) := dq_9 (by decide +kernel)
theorem dX8_isSound_3 : decode cX8_isSound 3 = .ok (.aload_n 0, 1) := dq_42 (by decide +kernel)
theorem dX8_isSound_4 : decode cX8_isSound 4 = .ok (.getfield 19, 3) := dq_180 (b1 := 0) (b2 := 19) (by decide +kernel) (by decide)
theorem dX8_isSound_7 : decode cX8_isSound 7 = .ok (.iconst 4, 1) := dq_7 (by decide +kernel)
theorem dX8_isSound_8 : decode cX8_isSound 8 = .ok (.iaload, 1) := dq_46 (by decide +kernel)
theorem dX8_isSound_9 : decode cX8_isSound 9 = .ok (.iconst 1, 1) := dq_4 (by decide +kernel)
theorem dX8_isWhat_0 : decode cX8_isWhat 0 = .ok (.iload_n 0, 1) := dq_26 (by decide +kernel)
theorem dX8_isWhat_1 : decode cX8_isWhat 1 = .ok (.i2l, 1) := dq_133 (by decide +kernel)
theorem dX8_isWhat_2 : decode cX8_isWhat 2 = .ok (.lconst 0, 1) := dq_9 (by decide +kernel)
theorem dX8_isWhat_3 : decode cX8_isWhat 3 = .ok (.lconst 1, 1) := dq_10 (by decide +kernel)
theorem dX8_isWhat_4 : decode cX8_isWhat 4 = .ok (.invokestatic 57, 3) := dq_184 (b1 := 0) (b2 := 57) (by decide +kernel) (by decide)
theorem dX8_isWhat_7 : decode cX8_isWhat 7 = .ok (.ireturn, 1) := dq_172 (by decide +kernel)
theorem dX8_kindBy_0 : decode cX8_kindBy 0 = .ok (.iload_n 0, 1) := dq_26 (by decide +kernel)
theorem dX8_kindBy_1 : decode cX8_kindBy 1 = .ok (.bipush 118, 2) := dq_16 (b1 := 118) (by decide +kernel) (by decide)
theorem dX8_kindBy_10 : decode cX8_kindBy 10 = .ok (.iload_n 0, 1) := dq_26 (by decide +kernel)
theorem dX8_kindBy_11 : decode cX8_kindBy 11 = .ok (.bipush 98, 2) := dq_16 (b1 := 98) (by decide +kernel) (by decide)
theorem dX8_kindBy_13 : decode cX8_kindBy 13 = .ok (.if_icmp .ne 7, 3) := dq_160 (b1 := 0) (b2 := 7) (by decide +kernel) (by decide)
theorem dX8_kindBy_16 : decode cX8_kindBy 16 = .ok (.iconst 2, 1) := dq_5 (by decide +kernel)
theorem dX8_kindBy_17 : decode cX8_kindBy 17 = .ok (.goto 34, 3) := dq_167 (b1 := 0) (b2 := 34) (by decide +kernel) (by decide)
theorem dX8_kindBy_20 : decode cX8_kindBy 20 = .ok (.iload_n 0, 1) := dq_26 (by decide +kernel)
theorem dX8_kindBy_21 : decode cX8_kindBy 21 = .ok (.bipush 104, 2) := dq_16 (b1 := 104) (by decide +kernel) (by decide)
theorem dX8_kindBy_23 : decode cX8_kindBy 23 = .ok (.if_icmp .ne 7, 3) := dq_160 (b1 := 0) (b2 := 7) (by decide +kernel) (by decide)
theorem dX8_kindBy_26 : decode cX8_kindBy 26 = .ok (.iconst 3, 1) := dq_6 (by decide +kernel)
theorem dX8_kindBy_27 : decode cX8_kindBy 27 = .ok (.goto 24, 3) := dq_167 (b1 := 0) (b2 := 24) (by decide +kernel) (by decide)
theorem dX8_kindBy_3 : decode cX8_kindBy 3 = .ok (.if_icmp .ne 7, 3) := dq_160 (b1 := 0) (b2 := 7) (by decide +kernel) (by decide)
theorem dX8_kindBy_30 : decode cX8_kindBy 30 = .ok (.iload_n 0, 1) := dq_26 (by decide +kernel)
theorem dX8_kindBy_31 : decode cX8_kindBy 31 = .ok (.bipush 100, 2) := dq_16 (b1 := 100) (by decide +kernel) (by decide)
theorem dX8_kindBy_33 : decode cX8_kindBy 33 = .ok (.if_icmp .ne 7, 3) := dq_160 (b1 := 0) (b2 := 7) (by decide +kernel) (by decide)
theorem dX8_kindBy_36 : decode cX8_kindBy 36 = .ok (.iconst 4, 1) := dq_7 (by decide +kernel)
theorem dX8_kindBy_37 : decode cX8_kindBy 37 = .ok (.goto 14, 3) := dq_167 (b1 := 0) (b2 := 14) (by decide +kernel) (by decide)
theorem dX8_kindBy_40 : decode cX8_kindBy 40 = .ok (.iload_n 0, 1) := dq_26 (by decide +kernel)
theorem dX8_kindBy_41 : decode cX8_kindBy 41 = .ok (.bipush 115, 2) := dq_16 (b1 := 115) (by decide +kernel) (by decide)
theorem dX8_kindBy_43 : decode cX8_kindBy 43 = .ok (.if_icmp .ne 7, 3) := dq_160 (b1 := 0) (b2 := 7) (by decide +kernel) (by decide)
theorem dX8_kindBy_46 : decode cX8_kindBy 46 = .ok (.iconst 5, 1) := dq_8 (by decide +kernel)
theorem dX8_kindBy_47 : decode cX8_kindBy 47 = .ok (.goto 4, 3) := dq_167 (b1 := 0) (b2 := 4) (by decide +kernel) (by decide)
theorem dX8_kindBy_50 : decode cX8_kindBy 50 = .ok (.iconst 0, 1) := dq_3 (by decide +kernel)
theorem dX8_kindBy_51 : decode cX8_kindBy 51 = .ok (.ireturn, 1) := dq_172 (by decide +kernel)
theorem dX8_kindBy_6 : decode cX8_kindBy 6 = .ok (.iconst 1, 1) := dq_4 (by decide +kernel)
theorem dX8_kindBy_7 : decode cX8_kindBy 7 = .ok (.goto 44, 3) := dq_167 (b1 := 0) (b2 := 44) (by decide +kernel) (by decide)
theorem dX8_letLoose_0 : decode cX8_letLoose 0 = .ok (.aload_n 0, 1) := dq_42 (by decide +kernel)
theorem dX8_letLoose_1 : decode cX8_letLoose 1 = .ok (.getfield 19, 3) := dq_180 (b1 := 0) (b2 := 19) (by decide +kernel) (by decide)
theorem dX8_letLoose_10 : decode cX8_letLoose 10 = .ok (.aload_n 0, 1) := dq_42 (by decide +kernel)
theorem dX8_letLoose_11 : decode cX8_letLoose 11 = .ok (.getfield 19, 3) := dq_180 (b1 := 0) (b2 := 19) (by decide +kernel) (by decide)
theorem dX8_letLoose_14 : decode cX8_letLoose 14 = .ok (.bipush 20, 2) := dq_16 (b1 := 20) (by decide +kernel) (by decide)
theorem dX8_letLoose_16 : decode cX8_letLoose 16 = .ok (.iload_n 1, 1) := dq_27 (by decide +kernel)
theorem dX8_letLoose_17 : decode cX8_letLoose 17 = .ok (.iadd, 1) := dq_96 (by decide +kernel)
theorem dX8_letLoose_18 : decode cX8_letLoose 18 = .ok (.iload_n 2, 1) := dq_28 (by decide +kernel)
theorem dX8_letLoose_19 : decode cX8_letLoose 19 = .ok (.iastore, 1) := dq_79 (by decide +kernel)
theorem dX8_letLoose_20 : decode cX8_letLoose 20 = .ok (.aload_n 0, 1) := dq_42 (by decide +kernel)
theorem dX8_letLoose_21 : decode cX8_letLoose 21 = .ok (.getfield 19, 3) := dq_180 (b1 := 0) (b2 := 19) (by decide +kernel) (by decide)
theorem dX8_letLoose_24 : decode cX8_letLoose 24 = .ok (.bipush 32, 2) := dq_16 (b1 := 32) (by decide +kernel) (by decide)
theorem dX8_letLoose_26 : decode cX8_letLoose 26 = .ok (.iload_n 1, 1) := dq_27 (by decide +kernel)
theorem dX8_letLoose_27 : decode cX8_letLoose 27 = .ok (.iadd, 1) := dq_96 (by decide +kernel)
theorem dX8_letLoose_28 : decode cX8_letLoose 28 = .ok (.iload_n 3, 1) := dq_29 (by decide +kernel)
theorem dX8_letLoose_29 : decode cX8_letLoose 29 = .ok (.iastore, 1) := dq_79 (by decide +kernel)
theorem dX8_letLoose_30 : decode cX8_letLoose 30 = .ok (.return_, 1) := dq_177 (by decide +kernel)
theorem dX8_letLoose_4 : decode cX8_letLoose 4 = .ok (.bipush 26, 2) := dq_16 (b1 := 26) (by decide +kernel) (by decide)
theorem dX8_letLoose_6 : decode cX8_letLoose 6 = .ok (.iload_n 1, 1) := dq_27 (by decide +kernel)
theorem dX8_letLoose_7 : decode cX8_letLoose 7 = .ok (.iadd, 1) := dq_96 (by decide +kernel)
theorem dX8_letLoose_8 : decode cX8_letLoose 8 = .ok (.iconst 0, 1) := dq_3 (by decide +kernel)
theorem dX8_letLoose_9 : decode cX8_letLoose 9 = .ok (.iastore, 1) := dq_79 (by decide +kernel)
theorem dX8_loudOf_0 : decode cX8_loudOf 0 = .ok (.iconst 0, 1) := dq_3 (by decide +kernel)
theorem dX8_loudOf_1 : decode cX8_loudOf 1 = .ok (.istore_n 2, 1) := dq_61 (by decide +kernel)
theorem dX8_loudOf_10 : decode cX8_loudOf 10 = .ok (.iaload, 1) := dq_46 (by decide +kernel)
theorem dX8_loudOf_11 : decode cX8_loudOf 11 = .ok (.if_icmp .ge 33, 3) := dq_162 (b1 := 0) (b2 := 33) (by decide +kernel) (by decide)
theorem dX8_loudOf_14 : decode cX8_loudOf 14 = .ok (.iload_n 2, 1) := dq_28 (by decide +kernel)
theorem dX8_loudOf_15 : decode cX8_loudOf 15 = .ok (.iload_n 1, 1) := dq_27 (by decide +kernel)
theorem dX8_loudOf_16 : decode cX8_loudOf 16 = .ok (.iload_n 3, 1) := dq_29 (by decide +kernel)
theorem dX8_loudOf_17 : decode cX8_loudOf 17 = .ok (.invokestatic 213, 3) := dq_184 (b1 := 0) (b2 := 213) (by decide +kernel) (by decide)
theorem dX8_loudOf_2 : decode cX8_loudOf 2 = .ok (.iconst 0, 1) := dq_3 (by decide +kernel)
theorem dX8_loudOf_20 : decode cX8_loudOf 20 = .ok (.ifCond .eq 15, 3) := dq_153 (b1 := 0) (b2 := 15) (by decide +kernel) (by decide)
theorem dX8_loudOf_23 : decode cX8_loudOf 23 = .ok (.aload_n 0, 1) := dq_42 (by decide +kernel)
theorem dX8_loudOf_24 : decode cX8_loudOf 24 = .ok (.getfield 19, 3) := dq_180 (b1 := 0) (b2 := 19) (by decide +kernel) (by decide)
theorem dX8_loudOf_27 : decode cX8_loudOf 27 = .ok (.bipush 32, 2) := dq_16 (b1 := 32) (by decide +kernel) (by decide)
theorem dX8_loudOf_29 : decode cX8_loudOf 29 = .ok (.iload_n 3, 1) := dq_29 (by decide +kernel)
theorem dX8_loudOf_3 : decode cX8_loudOf 3 = .ok (.istore_n 3, 1) := dq_62 (by decide +kernel)
theorem dX8_loudOf_30 : decode cX8_loudOf 30 = .ok (.iadd, 1) := dq_96 (by decide +kernel)
theorem dX8_loudOf_31 : decode cX8_loudOf 31 = .ok (.iaload, 1) := dq_46 (by decide +kernel)
theorem dX8_loudOf_32 : decode cX8_loudOf 32 = .ok (.goto 4, 3) := dq_167 (b1 := 0) (b2 := 4) (by decide +kernel) (by decide)
theorem dX8_loudOf_35 : decode cX8_loudOf 35 = .ok (.iconst 0, 1) := dq_3 (by decide +kernel)
theorem dX8_loudOf_36 : decode cX8_loudOf 36 = .ok (.iadd, 1) := dq_96 (by decide +kernel)
theorem dX8_loudOf_37 : decode cX8_loudOf 37 = .ok (.istore_n 2, 1) := dq_61 (by decide +kernel)
theorem dX8_loudOf_38 : decode cX8_loudOf 38 = .ok (.iinc 3 1, 3) := dq_132 (b1 := 3) (b2 := 1) (by decide +kernel) (by decide) (by decide)
theorem dX8_loudOf_4 : decode cX8_loudOf 4 = .ok (.iload_n 3, 1) := dq_29 (by decide +kernel)
theorem dX8_loudOf_41 : decode cX8_loudOf 41 = .ok (.goto (-37), 3) := dq_167 (b1 := 255) (b2 := 219) (by decide +kernel) (by decide)
theorem dX8_loudOf_44 : decode cX8_loudOf 44 = .ok (.iload_n 2, 1) := dq_28 (by decide +kernel)
theorem dX8_loudOf_45 : decode cX8_loudOf 45 = .ok (.ireturn, 1) := dq_172 (by decide +kernel)
theorem dX8_loudOf_5 : decode cX8_loudOf 5 = .ok (.aload_n 0, 1) := dq_42 (by decide +kernel)
theorem dX8_loudOf_6 : decode cX8_loudOf 6 = .ok (.getfield 19, 3) := dq_180 (b1 := 0) (b2 := 19) (by decide +kernel) (by decide)
theorem dX8_loudOf_9 : decode cX8_loudOf 9 = .ok (.iconst 4, 1) := dq_7 (by decide +kernel)
theorem dX8_oneHour_0 : decode cX8_oneHour 0 = .ok (.aload_n 0, 1) := dq_42 (by decide +kernel)
theorem dX8_oneHour_1 : decode cX8_oneHour 1 = .ok (.aload_n 0, 1) := dq_42 (by decide +kernel)
theorem dX8_oneHour_10 : decode cX8_oneHour 10 = .ok (.iconst 2, 1) := dq_5 (by decide +kernel)
theorem dX8_oneHour_101 : decode cX8_oneHour 101 = .ok (.bipush 7, 2) := dq_16 (b1 := 7) (by decide +kernel) (by decide)
theorem dX8_oneHour_103 : decode cX8_oneHour 103 = .ok (.aload_n 0, 1) := dq_42 (by decide +kernel)
theorem dX8_oneHour_104 : decode cX8_oneHour 104 = .ok (.getfield 19, 3) := dq_180 (b1 := 0) (b2 := 19) (by decide +kernel) (by decide)
theorem dX8_oneHour_107 : decode cX8_oneHour 107 = .ok (.bipush 7, 2) := dq_16 (b1 := 7) (by decide +kernel) (by decide)
theorem dX8_oneHour_109 : decode cX8_oneHour 109 = .ok (.iaload, 1) := dq_46 (by decide +kernel)
theorem dX8_oneHour_11 : decode cX8_oneHour 11 = .ok (.isub, 1) := dq_100 (by decide +kernel)
theorem dX8_oneHour_110 : decode cX8_oneHour 110 = .ok (.iload_n 2, 1) := dq_28 (by decide +kernel)
theorem dX8_oneHour_111 : decode cX8_oneHour 111 = .ok (.iadd, 1) := dq_96 (by decide +kernel)
theorem dX8_oneHour_112 : decode cX8_oneHour 112 = .ok (.sipush 999, 3) := dq_17 (b1 := 3) (b2 := 231) (by decide +kernel) (by decide)
theorem dX8_oneHour_115 : decode cX8_oneHour 115 = .ok (.if_icmp .le 9, 3) := dq_164 (b1 := 0) (b2 := 9) (by decide +kernel) (by decide)
theorem dX8_oneHour_118 : decode cX8_oneHour 118 = .ok (.sipush 999, 3) := dq_17 (b1 := 3) (b2 := 231) (by decide +kernel) (by decide)
theorem dX8_oneHour_12 : decode cX8_oneHour 12 = .ok (.istore_n 1, 1) := dq_60 (by decide +kernel)
theorem dX8_oneHour_121 : decode cX8_oneHour 121 = .ok (.goto 12, 3) := dq_167 (b1 := 0) (b2 := 12) (by decide +kernel) (by decide)
theorem dX8_oneHour_124 : decode cX8_oneHour 124 = .ok (.aload_n 0, 1) := dq_42 (by decide +kernel)
theorem dX8_oneHour_125 : decode cX8_oneHour 125 = .ok (.getfield 19, 3) := dq_180 (b1 := 0) (b2 := 19) (by decide +kernel) (by decide)
theorem dX8_oneHour_128 : decode cX8_oneHour 128 = .ok (.bipush 7, 2) := dq_16 (b1 := 7) (by decide +kernel) (by decide)
theorem dX8_oneHour_13 : decode cX8_oneHour 13 = .ok (.iconst 0, 1) := dq_3 (by decide +kernel)
theorem dX8_oneHour_130 : decode cX8_oneHour 130 = .ok (.iaload, 1) := dq_46 (by decide +kernel)
theorem dX8_oneHour_131 : decode cX8_oneHour 131 = .ok (.iload_n 2, 1) := dq_28 (by decide +kernel)
theorem dX8_oneHour_132 : decode cX8_oneHour 132 = .ok (.iadd, 1) := dq_96 (by decide +kernel)
theorem dX8_oneHour_133 : decode cX8_oneHour 133 = .ok (.iastore, 1) := dq_79 (by decide +kernel)
theorem dX8_oneHour_134 : decode cX8_oneHour 134 = .ok (.aload_n 0, 1) := dq_42 (by decide +kernel)
theorem dX8_oneHour_135 : decode cX8_oneHour 135 = .ok (.getfield 19, 3) := dq_180 (b1 := 0) (b2 := 19) (by decide +kernel) (by decide)
theorem dX8_oneHour_138 : decode cX8_oneHour 138 = .ok (.iconst 5, 1) := dq_8 (by decide +kernel)
theorem dX8_oneHour_139 : decode cX8_oneHour 139 = .ok (.dup2, 1) := dq_92 (by decide +kernel)
theorem dX8_oneHour_14 : decode cX8_oneHour 14 = .ok (.istore_n 2, 1) := dq_61 (by decide +kernel)
theorem dX8_oneHour_140 : decode cX8_oneHour 140 = .ok (.iaload, 1) := dq_46 (by decide +kernel)
theorem dX8_oneHour_141 : decode cX8_oneHour 141 = .ok (.iconst 1, 1) := dq_4 (by decide +kernel)
theorem dX8_oneHour_142 : decode cX8_oneHour 142 = .ok (.iadd, 1) := dq_96 (by decide +kernel)
theorem dX8_oneHour_143 : decode cX8_oneHour 143 = .ok (.iastore, 1) := dq_79 (by decide +kernel)
theorem dX8_oneHour_144 : decode cX8_oneHour 144 = .ok (.iload_n 2, 1) := dq_28 (by decide +kernel)
theorem dX8_oneHour_145 : decode cX8_oneHour 145 = .ok (.ireturn, 1) := dq_172 (by decide +kernel)
theorem dX8_oneHour_15 : decode cX8_oneHour 15 = .ok (.iconst 0, 1) := dq_3 (by decide +kernel)
theorem dX8_oneHour_16 : decode cX8_oneHour 16 = .ok (.istore_n 3, 1) := dq_62 (by decide +kernel)
theorem dX8_oneHour_17 : decode cX8_oneHour 17 = .ok (.iload_n 3, 1) := dq_29 (by decide +kernel)
theorem dX8_oneHour_18 : decode cX8_oneHour 18 = .ok (.aload_n 0, 1) := dq_42 (by decide +kernel)
theorem dX8_oneHour_19 : decode cX8_oneHour 19 = .ok (.getfield 19, 3) := dq_180 (b1 := 0) (b2 := 19) (by decide +kernel) (by decide)
theorem dX8_oneHour_2 : decode cX8_oneHour 2 = .ok (.getfield 19, 3) := dq_180 (b1 := 0) (b2 := 19) (by decide +kernel) (by decide)
theorem dX8_oneHour_22 : decode cX8_oneHour 22 = .ok (.iconst 4, 1) := dq_7 (by decide +kernel)
theorem dX8_oneHour_23 : decode cX8_oneHour 23 = .ok (.iaload, 1) := dq_46 (by decide +kernel)
theorem dX8_oneHour_24 : decode cX8_oneHour 24 = .ok (.if_icmp .ge 73, 3) := dq_162 (b1 := 0) (b2 := 73) (by decide +kernel) (by decide)
theorem dX8_oneHour_27 : decode cX8_oneHour 27 = .ok (.aload_n 0, 1) := dq_42 (by decide +kernel)
theorem dX8_oneHour_28 : decode cX8_oneHour 28 = .ok (.getfield 19, 3) := dq_180 (b1 := 0) (b2 := 19) (by decide +kernel) (by decide)
theorem dX8_oneHour_31 : decode cX8_oneHour 31 = .ok (.bipush 26, 2) := dq_16 (b1 := 26) (by decide +kernel) (by decide)
theorem dX8_oneHour_33 : decode cX8_oneHour 33 = .ok (.iload_n 3, 1) := dq_29 (by decide +kernel)
theorem dX8_oneHour_34 : decode cX8_oneHour 34 = .ok (.iadd, 1) := dq_96 (by decide +kernel)
theorem dX8_oneHour_35 : decode cX8_oneHour 35 = .ok (.iaload, 1) := dq_46 (by decide +kernel)
theorem dX8_oneHour_36 : decode cX8_oneHour 36 = .ok (.ifCond .ne 9, 3) := dq_154 (b1 := 0) (b2 := 9) (by decide +kernel) (by decide)
theorem dX8_oneHour_39 : decode cX8_oneHour 39 = .ok (.aload_n 0, 1) := dq_42 (by decide +kernel)
theorem dX8_oneHour_40 : decode cX8_oneHour 40 = .ok (.iload_n 3, 1) := dq_29 (by decide +kernel)
theorem dX8_oneHour_41 : decode cX8_oneHour 41 = .ok (.iload_n 1, 1) := dq_27 (by decide +kernel)
theorem dX8_oneHour_42 : decode cX8_oneHour 42 = .ok (.invokevirtual 154, 3) := dq_182 (b1 := 0) (b2 := 154) (by decide +kernel) (by decide)
theorem dX8_oneHour_45 : decode cX8_oneHour 45 = .ok (.aload_n 0, 1) := dq_42 (by decide +kernel)
theorem dX8_oneHour_46 : decode cX8_oneHour 46 = .ok (.getfield 19, 3) := dq_180 (b1 := 0) (b2 := 19) (by decide +kernel) (by decide)
theorem dX8_oneHour_49 : decode cX8_oneHour 49 = .ok (.bipush 26, 2) := dq_16 (b1 := 26) (by decide +kernel) (by decide)
theorem dX8_oneHour_5 : decode cX8_oneHour 5 = .ok (.iconst 5, 1) := dq_8 (by decide +kernel)
theorem dX8_oneHour_51 : decode cX8_oneHour 51 = .ok (.iload_n 3, 1) := dq_29 (by decide +kernel)
theorem dX8_oneHour_52 : decode cX8_oneHour 52 = .ok (.iadd, 1) := dq_96 (by decide +kernel)
theorem dX8_oneHour_53 : decode cX8_oneHour 53 = .ok (.iaload, 1) := dq_46 (by decide +kernel)
theorem dX8_oneHour_54 : decode cX8_oneHour 54 = .ok (.ifCond .ne 37, 3) := dq_154 (b1 := 0) (b2 := 37) (by decide +kernel) (by decide)
theorem dX8_oneHour_57 : decode cX8_oneHour 57 = .ok (.iload_n 1, 1) := dq_27 (by decide +kernel)
theorem dX8_oneHour_58 : decode cX8_oneHour 58 = .ok (.ifCond .eq 33, 3) := dq_153 (b1 := 0) (b2 := 33) (by decide +kernel) (by decide)
theorem dX8_oneHour_6 : decode cX8_oneHour 6 = .ok (.iaload, 1) := dq_46 (by decide +kernel)
theorem dX8_oneHour_61 : decode cX8_oneHour 61 = .ok (.aload_n 0, 1) := dq_42 (by decide +kernel)
theorem dX8_oneHour_62 : decode cX8_oneHour 62 = .ok (.iload_n 3, 1) := dq_29 (by decide +kernel)
theorem dX8_oneHour_63 : decode cX8_oneHour 63 = .ok (.invokevirtual 158, 3) := dq_182 (b1 := 0) (b2 := 158) (by decide +kernel) (by decide)
theorem dX8_oneHour_66 : decode cX8_oneHour 66 = .ok (.ifCond .eq 25, 3) := dq_153 (b1 := 0) (b2 := 25) (by decide +kernel) (by decide)
theorem dX8_oneHour_69 : decode cX8_oneHour 69 = .ok (.aload_n 0, 1) := dq_42 (by decide +kernel)
theorem dX8_oneHour_7 : decode cX8_oneHour 7 = .ok (.invokevirtual 151, 3) := dq_182 (b1 := 0) (b2 := 151) (by decide +kernel) (by decide)
theorem dX8_oneHour_70 : decode cX8_oneHour 70 = .ok (.getfield 19, 3) := dq_180 (b1 := 0) (b2 := 19) (by decide +kernel) (by decide)
theorem dX8_oneHour_73 : decode cX8_oneHour 73 = .ok (.bipush 26, 2) := dq_16 (b1 := 26) (by decide +kernel) (by decide)
theorem dX8_oneHour_75 : decode cX8_oneHour 75 = .ok (.iload_n 3, 1) := dq_29 (by decide +kernel)
theorem dX8_oneHour_76 : decode cX8_oneHour 76 = .ok (.iadd, 1) := dq_96 (by decide +kernel)
theorem dX8_oneHour_77 : decode cX8_oneHour 77 = .ok (.iconst 1, 1) := dq_4 (by decide +kernel)
theorem dX8_oneHour_78 : decode cX8_oneHour 78 = .ok (.iastore, 1) := dq_79 (by decide +kernel)
theorem dX8_oneHour_79 : decode cX8_oneHour 79 = .ok (.iload_n 2, 1) := dq_28 (by decide +kernel)
theorem dX8_oneHour_80 : decode cX8_oneHour 80 = .ok (.aload_n 0, 1) := dq_42 (by decide +kernel)
theorem dX8_oneHour_81 : decode cX8_oneHour 81 = .ok (.getfield 19, 3) := dq_180 (b1 := 0) (b2 := 19) (by decide +kernel) (by decide)
theorem dX8_oneHour_84 : decode cX8_oneHour 84 = .ok (.bipush 32, 2) := dq_16 (b1 := 32) (by decide +kernel) (by decide)
theorem dX8_oneHour_86 : decode cX8_oneHour 86 = .ok (.iload_n 3, 1) := dq_29 (by decide +kernel)
theorem dX8_oneHour_87 : decode cX8_oneHour 87 = .ok (.iadd, 1) := dq_96 (by decide +kernel)
theorem dX8_oneHour_88 : decode cX8_oneHour 88 = .ok (.iaload, 1) := dq_46 (by decide +kernel)
theorem dX8_oneHour_89 : decode cX8_oneHour 89 = .ok (.iadd, 1) := dq_96 (by decide +kernel)
theorem dX8_oneHour_90 : decode cX8_oneHour 90 = .ok (.istore_n 2, 1) := dq_61 (by decide +kernel)
theorem dX8_oneHour_91 : decode cX8_oneHour 91 = .ok (.iinc 3 1, 3) := dq_132 (b1 := 3) (b2 := 1) (by decide +kernel) (by decide) (by decide)
theorem dX8_oneHour_94 : decode cX8_oneHour 94 = .ok (.goto (-77), 3) := dq_167 (b1 := 255) (b2 := 179) (by decide +kernel) (by decide)
theorem dX8_oneHour_97 : decode cX8_oneHour 97 = .ok (.aload_n 0, 1) := dq_42 (by decide +kernel)
theorem dX8_oneHour_98 : decode cX8_oneHour 98 = .ok (.getfield 19, 3) := dq_180 (b1 := 0) (b2 := 19) (by decide +kernel) (by decide)
theorem dX8_those_0 : decode cX8_those 0 = .ok (.iconst 0, 1) := dq_3 (by decide +kernel)
theorem dX8_those_1 : decode cX8_those 1 = .ok (.istore_n 2, 1) := dq_61 (by decide +kernel)
theorem dX8_those_10 : decode cX8_those 10 = .ok (.iaload, 1) := dq_46 (by decide +kernel)
theorem dX8_those_11 : decode cX8_those 11 = .ok (.if_icmp .ge 32, 3) := dq_162 (b1 := 0) (b2 := 32) (by decide +kernel) (by decide)
theorem dX8_those_14 : decode cX8_those 14 = .ok (.iload_n 2, 1) := dq_28 (by decide +kernel)
theorem dX8_those_15 : decode cX8_those 15 = .ok (.aload_n 0, 1) := dq_42 (by decide +kernel)
theorem dX8_those_16 : decode cX8_those 16 = .ok (.getfield 19, 3) := dq_180 (b1 := 0) (b2 := 19) (by decide +kernel) (by decide)
theorem dX8_those_19 : decode cX8_those 19 = .ok (.bipush 26, 2) := dq_16 (b1 := 26) (by decide +kernel) (by decide)
theorem dX8_those_2 : decode cX8_those 2 = .ok (.iconst 0, 1) := dq_3 (by decide +kernel)
theorem dX8_those_21 : decode cX8_those 21 = .ok (.iload_n 3, 1) := dq_29 (by decide +kernel)
theorem dX8_those_22 : decode cX8_those 22 = .ok (.iadd, 1) := dq_96 (by decide +kernel)
theorem dX8_those_23 : decode cX8_those 23 = .ok (.iaload, 1) := dq_46 (by decide +kernel)
theorem dX8_those_24 : decode cX8_those 24 = .ok (.iload_n 1, 1) := dq_27 (by decide +kernel)
theorem dX8_those_25 : decode cX8_those 25 = .ok (.if_icmp .ne 9, 3) := dq_160 (b1 := 0) (b2 := 9) (by decide +kernel) (by decide)
theorem dX8_those_28 : decode cX8_those 28 = .ok (.iconst 1, 1) := dq_4 (by decide +kernel)
theorem dX8_those_29 : decode cX8_those 29 = .ok (.iload_n 3, 1) := dq_29 (by decide +kernel)
theorem dX8_those_3 : decode cX8_those 3 = .ok (.istore_n 3, 1) := dq_62 (by decide +kernel)
theorem dX8_those_30 : decode cX8_those 30 = .ok (.ishl, 1) := dq_120 (by decide +kernel)
theorem dX8_those_31 : decode cX8_those 31 = .ok (.goto 4, 3) := dq_167 (b1 := 0) (b2 := 4) (by decide +kernel) (by decide)
theorem dX8_those_34 : decode cX8_those 34 = .ok (.iconst 0, 1) := dq_3 (by decide +kernel)
theorem dX8_those_35 : decode cX8_those 35 = .ok (.ior, 1) := dq_128 (by decide +kernel)
theorem dX8_those_36 : decode cX8_those 36 = .ok (.istore_n 2, 1) := dq_61 (by decide +kernel)
theorem dX8_those_37 : decode cX8_those 37 = .ok (.iinc 3 1, 3) := dq_132 (b1 := 3) (b2 := 1) (by decide +kernel) (by decide) (by decide)
theorem dX8_those_4 : decode cX8_those 4 = .ok (.iload_n 3, 1) := dq_29 (by decide +kernel)
theorem dX8_those_40 : decode cX8_those 40 = .ok (.goto (-36), 3) := dq_167 (b1 := 255) (b2 := 220) (by decide +kernel) (by decide)
theorem dX8_those_43 : decode cX8_those 43 = .ok (.iload_n 2, 1) := dq_28 (by decide +kernel)
theorem dX8_those_44 : decode cX8_those 44 = .ok (.ireturn, 1) := dq_172 (by decide +kernel)
theorem dX8_those_5 : decode cX8_those 5 = .ok (.aload_n 0, 1) := dq_42 (by decide +kernel)
theorem dX8_those_6 : decode cX8_those 6 = .ok (.getfield 19, 3) := dq_180 (b1 := 0) (b2 := 19) (by decide +kernel) (by decide)
theorem dX8_those_9 : decode cX8_those 9 = .ok (.iconst 4, 1) := dq_7 (by decide +kernel)
theorem dX8_well_0 : decode cX8_well 0 = .ok (.aload_n 0, 1) := dq_42 (by decide +kernel)
theorem dX8_well_1 : decode cX8_well 1 = .ok (.iconst 0, 1) := dq_3 (by decide +kernel)
theorem dX8_well_2 : decode cX8_well 2 = .ok (.putfield 50, 3) := dq_181 (b1 := 0) (b2 := 50) (by decide +kernel) (by decide)
theorem dX8_well_5 : decode cX8_well 5 = .ok (.iload_n 1, 1) := dq_27 (by decide +kernel)
theorem dX8_well_6 : decode cX8_well 6 = .ok (.ireturn, 1) := dq_172 (by decide +kernel)
theorem mx_X8_drift_5 : Cond.code yX8_drifts cX8_drifts 2 (some .int) ∈ wsX8_drift := by unfold wsX8_drift; exact List.mem_cons_of_mem _ (List.mem_append_left _ (List.mem_of_getElem? (i := 4) rfl))
theorem ggX8_drift_X8_drifts : GoodIn wsX8_drift wsX8_drifts := goodIn_sub (by unfold wsX8_drifts; exact List.forall_mem_cons.mpr ⟨mx_X8_drift_5, fun _ h_ => absurd h_ List.not_mem_nil⟩) (by decide +kernel)
set_option maxRecDepth 20000 in
theorem gX8_drift_X8_drifts : GoodIn wsX8_drift (va_wsS RX8 145 yX8_drifts wsX8_drifts) := goodIn_app (goodIn_of _ (by decide +kernel)) ggX8_drift_X8_drifts
theorem mx_X8_drift_9 : Cond.code yX8_isCell cX8_isCell 2 (some .boolean) ∈ wsX8_drift := by unfold wsX8_drift; exact List.mem_cons_of_mem _ (List.mem_append_left _ (List.mem_of_getElem? (i := 8) rfl))
theorem mx_X8_drift_1 : Cond.fieldLink RX8 19 "MillTalkModel" "st" "[I" ∈ wsX8_drift := by unfold wsX8_drift; exact List.mem_cons_of_mem _ (List.mem_append_left _ (List.mem_of_getElem? (i := 0) rfl))
theorem mx_X8_drift_10 : Cond.methodLink RX8 57 yX8_in ∈ wsX8_drift := by unfold wsX8_drift; exact List.mem_cons_of_mem _ (List.mem_append_left _ (List.mem_of_getElem? (i := 9) rfl))
theorem mx_X8_drift_11 : Cond.static yX8_in ∈ wsX8_drift := by unfold wsX8_drift; exact List.mem_cons_of_mem _ (List.mem_append_left _ (List.mem_of_getElem? (i := 10) rfl))
theorem mx_X8_drift_4 : Cond.initialized RX8 ∈ wsX8_drift := by unfold wsX8_drift; exact List.mem_cons_of_mem _ (List.mem_append_left _ (List.mem_of_getElem? (i := 3) rfl))
theorem mx_X8_drift_12 : Cond.code yX8_in cX8_in 6 (some .boolean) ∈ wsX8_drift := by unfold wsX8_drift; exact List.mem_cons_of_mem _ (List.mem_append_left _ (List.mem_of_getElem? (i := 11) rfl))
theorem mb_X8_drift_wsX80 {w : Cond} (h : w ∈ wsX80) : w ∈ wsX8_drift := by unfold wsX8_drift; exact List.mem_cons_of_mem _ (List.mem_append_right _ (h))
theorem ggX8_drift_X8_isCell : GoodIn wsX8_drift wsX8_isCell := goodIn_sub (by unfold wsX8_isCell; exact List.forall_mem_cons.mpr ⟨mx_X8_drift_9, List.forall_mem_append.mpr ⟨List.forall_mem_cons.mpr ⟨mx_X8_drift_1, List.forall_mem_cons.mpr ⟨mx_X8_drift_10, List.forall_mem_cons.mpr ⟨mx_X8_drift_11, List.forall_mem_cons.mpr ⟨mx_X8_drift_4, List.forall_mem_cons.mpr ⟨mx_X8_drift_12, fun _ h_ => absurd h_ List.not_mem_nil⟩⟩⟩⟩⟩, (fun _ h_ => mb_X8_drift_wsX80 h_)⟩⟩) (by decide +kernel)
theorem mx_X8_drift_6 : Cond.methodLink RX8 148 yX8_isCell ∈ wsX8_drift := by unfold wsX8_drift; exact List.mem_cons_of_mem _ (List.mem_append_left _ (List.mem_of_getElem? (i := 5) rfl))
theorem mx_X8_drift_7 : Cond.instanceMethod yX8_isCell ∈ wsX8_drift := by unfold wsX8_drift; exact List.mem_cons_of_mem _ (List.mem_append_left _ (List.mem_of_getElem? (i := 6) rfl))
theorem mx_X8_drift_8 : Cond.selects RX8 yX8_isCell yX8_isCell ∈ wsX8_drift := by unfold wsX8_drift; exact List.mem_cons_of_mem _ (List.mem_append_left _ (List.mem_of_getElem? (i := 7) rfl))
theorem gX8_drift_X8_isCell : GoodIn wsX8_drift (wsV RX8 148 RX8 yX8_isCell wsX8_isCell) := goodIn_app (goodIn_sub (List.forall_mem_cons.mpr ⟨mx_X8_drift_6, List.forall_mem_cons.mpr ⟨mx_X8_drift_7, List.forall_mem_cons.mpr ⟨mx_X8_drift_8, List.forall_mem_cons.mpr ⟨mx_X8_drift_4, fun _ h_ => absurd h_ List.not_mem_nil⟩⟩⟩⟩) (by decide +kernel)) ggX8_drift_X8_isCell
theorem mx_X8_isAtMill_5 : Cond.code yX8_in cX8_in 6 (some .boolean) ∈ wsX8_isAtMill := by unfold wsX8_isAtMill; exact List.mem_cons_of_mem _ (List.mem_append_left _ (List.mem_of_getElem? (i := 4) rfl))
theorem ggX8_isAtMill_X8_in : GoodIn wsX8_isAtMill wsX8_in := goodIn_sub (by unfold wsX8_in; exact List.forall_mem_cons.mpr ⟨mx_X8_isAtMill_5, fun _ h_ => absurd h_ List.not_mem_nil⟩) (by decide +kernel)
set_option maxRecDepth 20000 in
theorem gX8_isAtMill_X8_in : GoodIn wsX8_isAtMill (va_wsS RX8 57 yX8_in wsX8_in) := goodIn_app (goodIn_of _ (by decide +kernel)) ggX8_isAtMill_X8_in
theorem mx_X8_isCell_5 : Cond.code yX8_in cX8_in 6 (some .boolean) ∈ wsX8_isCell := by unfold wsX8_isCell; exact List.mem_cons_of_mem _ (List.mem_append_left _ (List.mem_of_getElem? (i := 4) rfl))
theorem ggX8_isCell_X8_in : GoodIn wsX8_isCell wsX8_in := goodIn_sub (by unfold wsX8_in; exact List.forall_mem_cons.mpr ⟨mx_X8_isCell_5, fun _ h_ => absurd h_ List.not_mem_nil⟩) (by decide +kernel)
set_option maxRecDepth 20000 in
theorem gX8_isCell_X8_in : GoodIn wsX8_isCell (va_wsS RX8 57 yX8_in wsX8_in) := goodIn_app (goodIn_of _ (by decide +kernel)) ggX8_isCell_X8_in
theorem mx_X8_isRow_5 : Cond.code yX8_in cX8_in 6 (some .boolean) ∈ wsX8_isRow := by unfold wsX8_isRow; exact List.mem_cons_of_mem _ (List.mem_of_getElem? (i := 4) rfl)
theorem ggX8_isRow_X8_in : GoodIn wsX8_isRow wsX8_in := goodIn_sub (by unfold wsX8_in; exact List.forall_mem_cons.mpr ⟨mx_X8_isRow_5, fun _ h_ => absurd h_ List.not_mem_nil⟩) (by decide +kernel)
set_option maxRecDepth 20000 in
theorem gX8_isRow_X8_in : GoodIn wsX8_isRow (va_wsS RX8 57 yX8_in wsX8_in) := goodIn_app (goodIn_of _ (by decide +kernel)) ggX8_isRow_X8_in
theorem mx_X8_isSound_5 : Cond.code yX8_in cX8_in 6 (some .boolean) ∈ wsX8_isSound := by unfold wsX8_isSound; exact List.mem_cons_of_mem _ (List.mem_append_left _ (List.mem_of_getElem? (i := 4) rfl))
theorem ggX8_isSound_X8_in : GoodIn wsX8_isSound wsX8_in := goodIn_sub (by unfold wsX8_in; exact List.forall_mem_cons.mpr ⟨mx_X8_isSound_5, fun _ h_ => absurd h_ List.not_mem_nil⟩) (by decide +kernel)
set_option maxRecDepth 20000 in
theorem gX8_isSound_X8_in : GoodIn wsX8_isSound (va_wsS RX8 57 yX8_in wsX8_in) := goodIn_app (goodIn_of _ (by decide +kernel)) ggX8_isSound_X8_in
theorem mx_X8_isWhat_4 : Cond.code yX8_in cX8_in 6 (some .boolean) ∈ wsX8_isWhat := by unfold wsX8_isWhat; exact List.mem_cons_of_mem _ (List.mem_of_getElem? (i := 3) rfl)
theorem ggX8_isWhat_X8_in : GoodIn wsX8_isWhat wsX8_in := goodIn_sub (by unfold wsX8_in; exact List.forall_mem_cons.mpr ⟨mx_X8_isWhat_4, fun _ h_ => absurd h_ List.not_mem_nil⟩) (by decide +kernel)
set_option maxRecDepth 20000 in
theorem gX8_isWhat_X8_in : GoodIn wsX8_isWhat (va_wsS RX8 57 yX8_in wsX8_in) := goodIn_app (goodIn_of _ (by decide +kernel)) ggX8_isWhat_X8_in
theorem mx_X8_loudOf_5 : Cond.code yX8_has cX8_has 2 (some .boolean) ∈ wsX8_loudOf := by unfold wsX8_loudOf; exact List.mem_cons_of_mem _ (List.mem_append_left _ (List.mem_of_getElem? (i := 4) rfl))
theorem ggX8_loudOf_X8_has : GoodIn wsX8_loudOf wsX8_has := goodIn_sub (by unfold wsX8_has; exact List.forall_mem_cons.mpr ⟨mx_X8_loudOf_5, fun _ h_ => absurd h_ List.not_mem_nil⟩) (by decide +kernel)
set_option maxRecDepth 20000 in
theorem gX8_loudOf_X8_has : GoodIn wsX8_loudOf (va_wsS RX8 213 yX8_has wsX8_has) := goodIn_app (goodIn_of _ (by decide +kernel)) ggX8_loudOf_X8_has
theorem mx_X8_oneHour_10 : Cond.code yX8_drift cX8_drift 7 none ∈ wsX8_oneHour := by unfold wsX8_oneHour; exact List.mem_cons_of_mem _ (List.mem_append_left _ (List.mem_of_getElem? (i := 9) rfl))
theorem mx_X8_oneHour_1 : Cond.fieldLink RX8 19 "MillTalkModel" "st" "[I" ∈ wsX8_oneHour := by unfold wsX8_oneHour; exact List.mem_cons_of_mem _ (List.mem_append_left _ (List.mem_of_getElem? (i := 0) rfl))
theorem mx_X8_oneHour_11 : Cond.methodLink RX8 145 yX8_drifts ∈ wsX8_oneHour := by unfold wsX8_oneHour; exact List.mem_cons_of_mem _ (List.mem_append_left _ (List.mem_of_getElem? (i := 10) rfl))
theorem mx_X8_oneHour_12 : Cond.static yX8_drifts ∈ wsX8_oneHour := by unfold wsX8_oneHour; exact List.mem_cons_of_mem _ (List.mem_append_left _ (List.mem_of_getElem? (i := 11) rfl))
theorem mx_X8_oneHour_5 : Cond.initialized RX8 ∈ wsX8_oneHour := by unfold wsX8_oneHour; exact List.mem_cons_of_mem _ (List.mem_append_left _ (List.mem_of_getElem? (i := 4) rfl))
theorem mx_X8_oneHour_13 : Cond.code yX8_drifts cX8_drifts 2 (some .int) ∈ wsX8_oneHour := by unfold wsX8_oneHour; exact List.mem_cons_of_mem _ (List.mem_append_left _ (List.mem_of_getElem? (i := 12) rfl))
theorem mx_X8_oneHour_14 : Cond.methodLink RX8 148 yX8_isCell ∈ wsX8_oneHour := by unfold wsX8_oneHour; exact List.mem_cons_of_mem _ (List.mem_append_left _ (List.mem_of_getElem? (i := 13) rfl))
theorem mx_X8_oneHour_15 : Cond.instanceMethod yX8_isCell ∈ wsX8_oneHour := by unfold wsX8_oneHour; exact List.mem_cons_of_mem _ (List.mem_append_left _ (List.mem_of_getElem? (i := 14) rfl))
theorem mx_X8_oneHour_16 : Cond.selects RX8 yX8_isCell yX8_isCell ∈ wsX8_oneHour := by unfold wsX8_oneHour; exact List.mem_cons_of_mem _ (List.mem_append_left _ (List.mem_of_getElem? (i := 15) rfl))
theorem mx_X8_oneHour_17 : Cond.code yX8_isCell cX8_isCell 2 (some .boolean) ∈ wsX8_oneHour := by unfold wsX8_oneHour; exact List.mem_cons_of_mem _ (List.mem_append_left _ (List.mem_of_getElem? (i := 16) rfl))
theorem mx_X8_oneHour_18 : Cond.methodLink RX8 57 yX8_in ∈ wsX8_oneHour := by unfold wsX8_oneHour; exact List.mem_cons_of_mem _ (List.mem_append_left _ (List.mem_of_getElem? (i := 17) rfl))
theorem mx_X8_oneHour_19 : Cond.static yX8_in ∈ wsX8_oneHour := by unfold wsX8_oneHour; exact List.mem_cons_of_mem _ (List.mem_append_left _ (List.mem_of_getElem? (i := 18) rfl))
theorem mx_X8_oneHour_20 : Cond.code yX8_in cX8_in 6 (some .boolean) ∈ wsX8_oneHour := by unfold wsX8_oneHour; exact List.mem_cons_of_mem _ (List.mem_append_left _ (List.mem_of_getElem? (i := 19) rfl))
theorem mb_X8_oneHour_wsX80 {w : Cond} (h : w ∈ wsX80) : w ∈ wsX8_oneHour := by unfold wsX8_oneHour; exact List.mem_cons_of_mem _ (List.mem_append_right _ (h))
theorem ggX8_oneHour_X8_drift : GoodIn wsX8_oneHour wsX8_drift := goodIn_sub (by unfold wsX8_drift; exact List.forall_mem_cons.mpr ⟨mx_X8_oneHour_10, List.forall_mem_append.mpr ⟨List.forall_mem_cons.mpr ⟨mx_X8_oneHour_1, List.forall_mem_cons.mpr ⟨mx_X8_oneHour_11, List.forall_mem_cons.mpr ⟨mx_X8_oneHour_12, List.forall_mem_cons.mpr ⟨mx_X8_oneHour_5, List.forall_mem_cons.mpr ⟨mx_X8_oneHour_13, List.forall_mem_cons.mpr ⟨mx_X8_oneHour_14, List.forall_mem_cons.mpr ⟨mx_X8_oneHour_15, List.forall_mem_cons.mpr ⟨mx_X8_oneHour_16, List.forall_mem_cons.mpr ⟨mx_X8_oneHour_17, List.forall_mem_cons.mpr ⟨mx_X8_oneHour_18, List.forall_mem_cons.mpr ⟨mx_X8_oneHour_19, List.forall_mem_cons.mpr ⟨mx_X8_oneHour_20, fun _ h_ => absurd h_ List.not_mem_nil⟩⟩⟩⟩⟩⟩⟩⟩⟩⟩⟩⟩, (fun _ h_ => mb_X8_oneHour_wsX80 h_)⟩⟩) (by decide +kernel)
theorem mx_X8_oneHour_7 : Cond.methodLink RX8 154 yX8_drift ∈ wsX8_oneHour := by unfold wsX8_oneHour; exact List.mem_cons_of_mem _ (List.mem_append_left _ (List.mem_of_getElem? (i := 6) rfl))
theorem mx_X8_oneHour_8 : Cond.instanceMethod yX8_drift ∈ wsX8_oneHour := by unfold wsX8_oneHour; exact List.mem_cons_of_mem _ (List.mem_append_left _ (List.mem_of_getElem? (i := 7) rfl))
theorem mx_X8_oneHour_9 : Cond.selects RX8 yX8_drift yX8_drift ∈ wsX8_oneHour := by unfold wsX8_oneHour; exact List.mem_cons_of_mem _ (List.mem_append_left _ (List.mem_of_getElem? (i := 8) rfl))
theorem gX8_oneHour_X8_drift : GoodIn wsX8_oneHour (wsV RX8 154 RX8 yX8_drift wsX8_drift) := goodIn_app (goodIn_sub (List.forall_mem_cons.mpr ⟨mx_X8_oneHour_7, List.forall_mem_cons.mpr ⟨mx_X8_oneHour_8, List.forall_mem_cons.mpr ⟨mx_X8_oneHour_9, List.forall_mem_cons.mpr ⟨mx_X8_oneHour_5, fun _ h_ => absurd h_ List.not_mem_nil⟩⟩⟩⟩) (by decide +kernel)) ggX8_oneHour_X8_drift
theorem mx_X8_oneHour_6 : Cond.code yX8_gustOf cX8_gustOf 2 (some .int) ∈ wsX8_oneHour := by unfold wsX8_oneHour; exact List.mem_cons_of_mem _ (List.mem_append_left _ (List.mem_of_getElem? (i := 5) rfl))
theorem ggX8_oneHour_X8_gustOf : GoodIn wsX8_oneHour wsX8_gustOf := goodIn_sub (by unfold wsX8_gustOf; exact List.forall_mem_cons.mpr ⟨mx_X8_oneHour_6, List.forall_mem_append.mpr ⟨List.forall_mem_cons.mpr ⟨mx_X8_oneHour_1, fun _ h_ => absurd h_ List.not_mem_nil⟩, (fun _ h_ => mb_X8_oneHour_wsX80 h_)⟩⟩) (by decide +kernel)
theorem mx_X8_oneHour_2 : Cond.methodLink RX8 151 yX8_gustOf ∈ wsX8_oneHour := by unfold wsX8_oneHour; exact List.mem_cons_of_mem _ (List.mem_append_left _ (List.mem_of_getElem? (i := 1) rfl))
theorem mx_X8_oneHour_3 : Cond.instanceMethod yX8_gustOf ∈ wsX8_oneHour := by unfold wsX8_oneHour; exact List.mem_cons_of_mem _ (List.mem_append_left _ (List.mem_of_getElem? (i := 2) rfl))
theorem mx_X8_oneHour_4 : Cond.selects RX8 yX8_gustOf yX8_gustOf ∈ wsX8_oneHour := by unfold wsX8_oneHour; exact List.mem_cons_of_mem _ (List.mem_append_left _ (List.mem_of_getElem? (i := 3) rfl))
theorem gX8_oneHour_X8_gustOf : GoodIn wsX8_oneHour (wsV RX8 151 RX8 yX8_gustOf wsX8_gustOf) := goodIn_app (goodIn_sub (List.forall_mem_cons.mpr ⟨mx_X8_oneHour_2, List.forall_mem_cons.mpr ⟨mx_X8_oneHour_3, List.forall_mem_cons.mpr ⟨mx_X8_oneHour_4, List.forall_mem_cons.mpr ⟨mx_X8_oneHour_5, fun _ h_ => absurd h_ List.not_mem_nil⟩⟩⟩⟩) (by decide +kernel)) ggX8_oneHour_X8_gustOf
theorem mx_X8_oneHour_24 : Cond.code yX8_isAtMill cX8_isAtMill 3 (some .boolean) ∈ wsX8_oneHour := by unfold wsX8_oneHour; exact List.mem_cons_of_mem _ (List.mem_append_left _ (List.mem_of_getElem? (i := 23) rfl))
theorem ggX8_oneHour_X8_isAtMill : GoodIn wsX8_oneHour wsX8_isAtMill := goodIn_sub (by unfold wsX8_isAtMill; exact List.forall_mem_cons.mpr ⟨mx_X8_oneHour_24, List.forall_mem_append.mpr ⟨List.forall_mem_cons.mpr ⟨mx_X8_oneHour_1, List.forall_mem_cons.mpr ⟨mx_X8_oneHour_18, List.forall_mem_cons.mpr ⟨mx_X8_oneHour_19, List.forall_mem_cons.mpr ⟨mx_X8_oneHour_5, List.forall_mem_cons.mpr ⟨mx_X8_oneHour_20, fun _ h_ => absurd h_ List.not_mem_nil⟩⟩⟩⟩⟩, (fun _ h_ => mb_X8_oneHour_wsX80 h_)⟩⟩) (by decide +kernel)
theorem mx_X8_oneHour_21 : Cond.methodLink RX8 158 yX8_isAtMill ∈ wsX8_oneHour := by unfold wsX8_oneHour; exact List.mem_cons_of_mem _ (List.mem_append_left _ (List.mem_of_getElem? (i := 20) rfl))
theorem mx_X8_oneHour_22 : Cond.instanceMethod yX8_isAtMill ∈ wsX8_oneHour := by unfold wsX8_oneHour; exact List.mem_cons_of_mem _ (List.mem_append_left _ (List.mem_of_getElem? (i := 21) rfl))
theorem mx_X8_oneHour_23 : Cond.selects RX8 yX8_isAtMill yX8_isAtMill ∈ wsX8_oneHour := by unfold wsX8_oneHour; exact List.mem_cons_of_mem _ (List.mem_append_left _ (List.mem_of_getElem? (i := 22) rfl))
theorem gX8_oneHour_X8_isAtMill : GoodIn wsX8_oneHour (wsV RX8 158 RX8 yX8_isAtMill wsX8_isAtMill) := goodIn_app (goodIn_sub (List.forall_mem_cons.mpr ⟨mx_X8_oneHour_21, List.forall_mem_cons.mpr ⟨mx_X8_oneHour_22, List.forall_mem_cons.mpr ⟨mx_X8_oneHour_23, List.forall_mem_cons.mpr ⟨mx_X8_oneHour_5, fun _ h_ => absurd h_ List.not_mem_nil⟩⟩⟩⟩) (by decide +kernel)) ggX8_oneHour_X8_isAtMill
theorem i_X8_drift_X8 : ∀ w ∈ u_ws RX8 TX8 24, w ∈ wsX8_drift := fun _ h_ => mb_X8_drift_wsX80 h_
theorem mb_X8_find_wsX80 {w : Cond} (h : w ∈ wsX80) : w ∈ wsX8_find := by unfold wsX8_find; exact List.mem_cons_of_mem _ (List.mem_append_right _ (h))
theorem i_X8_find_X8 : ∀ w ∈ u_ws RX8 TX8 24, w ∈ wsX8_find := fun _ h_ => mb_X8_find_wsX80 h_
theorem mb_X8_gustOf_wsX80 {w : Cond} (h : w ∈ wsX80) : w ∈ wsX8_gustOf := by unfold wsX8_gustOf; exact List.mem_cons_of_mem _ (List.mem_append_right _ (h))
theorem i_X8_gustOf_X8 : ∀ w ∈ u_ws RX8 TX8 24, w ∈ wsX8_gustOf := fun _ h_ => mb_X8_gustOf_wsX80 h_
theorem mb_X8_isAtMill_wsX80 {w : Cond} (h : w ∈ wsX80) : w ∈ wsX8_isAtMill := by unfold wsX8_isAtMill; exact List.mem_cons_of_mem _ (List.mem_append_right _ (h))
theorem i_X8_isAtMill_X8 : ∀ w ∈ u_ws RX8 TX8 24, w ∈ wsX8_isAtMill := fun _ h_ => mb_X8_isAtMill_wsX80 h_
theorem mb_X8_isCell_wsX80 {w : Cond} (h : w ∈ wsX80) : w ∈ wsX8_isCell := by unfold wsX8_isCell; exact List.mem_cons_of_mem _ (List.mem_append_right _ (h))
theorem i_X8_isCell_X8 : ∀ w ∈ u_ws RX8 TX8 24, w ∈ wsX8_isCell := fun _ h_ => mb_X8_isCell_wsX80 h_
theorem mb_X8_isSound_wsX80 {w : Cond} (h : w ∈ wsX80) : w ∈ wsX8_isSound := by unfold wsX8_isSound; exact List.mem_cons_of_mem _ (List.mem_append_right _ (h))
theorem i_X8_isSound_X8 : ∀ w ∈ u_ws RX8 TX8 24, w ∈ wsX8_isSound := fun _ h_ => mb_X8_isSound_wsX80 h_
theorem mb_X8_letLoose_wsX80 {w : Cond} (h : w ∈ wsX80) : w ∈ wsX8_letLoose := by unfold wsX8_letLoose; exact List.mem_cons_of_mem _ (List.mem_append_right _ (h))
theorem i_X8_letLoose_X8 : ∀ w ∈ u_ws RX8 TX8 24, w ∈ wsX8_letLoose := fun _ h_ => mb_X8_letLoose_wsX80 h_
theorem mb_X8_loudOf_wsX80 {w : Cond} (h : w ∈ wsX80) : w ∈ wsX8_loudOf := by unfold wsX8_loudOf; exact List.mem_cons_of_mem _ (List.mem_append_right _ (h))
theorem i_X8_loudOf_X8 : ∀ w ∈ u_ws RX8 TX8 24, w ∈ wsX8_loudOf := fun _ h_ => mb_X8_loudOf_wsX80 h_
theorem i_X8_oneHour_X8 : ∀ w ∈ u_ws RX8 TX8 24, w ∈ wsX8_oneHour := fun _ h_ => mb_X8_oneHour_wsX80 h_
theorem mb_X8_those_wsX80 {w : Cond} (h : w ∈ wsX80) : w ∈ wsX8_those := by unfold wsX8_those; exact List.mem_cons_of_mem _ (List.mem_append_right _ (h))
theorem i_X8_those_X8 : ∀ w ∈ u_ws RX8 TX8 24, w ∈ wsX8_those := fun _ h_ => mb_X8_those_wsX80 h_
theorem mb_X8_well_wsX80 {w : Cond} (h : w ∈ wsX80) : w ∈ wsX8_well := by unfold wsX8_well; exact List.mem_cons_of_mem _ (List.mem_append_right _ (h))
theorem i_X8_well_X8 : ∀ w ∈ u_ws RX8 TX8 24, w ∈ wsX8_well := fun _ h_ => mb_X8_well_wsX80 h_
theorem mx_X8_isRow_1 : Cond.constantLong RX8 55 (7) ∈ wsX8_isRow := by unfold wsX8_isRow; exact List.mem_cons_of_mem _ (List.mem_of_getElem? (i := 0) rfl)
theorem mx_X8_find_1 : Cond.fieldLink RX8 50 "MillTalkModel" "status" "I" ∈ wsX8_find := by unfold wsX8_find; exact List.mem_cons_of_mem _ (List.mem_append_left _ (List.mem_of_getElem? (i := 0) rfl))
theorem mx_X8_find_2 : Cond.constant RX8 54 (-1000010) ∈ wsX8_find := by unfold wsX8_find; exact List.mem_cons_of_mem _ (List.mem_append_left _ (List.mem_of_getElem? (i := 1) rfl))
theorem mx_X8_well_1 : Cond.fieldLink RX8 50 "MillTalkModel" "status" "I" ∈ wsX8_well := by unfold wsX8_well; exact List.mem_cons_of_mem _ (List.mem_append_left _ (List.mem_of_getElem? (i := 0) rfl))
theorem mx_X8_isSound_1 : Cond.fieldLink RX8 19 "MillTalkModel" "st" "[I" ∈ wsX8_isSound := by unfold wsX8_isSound; exact List.mem_cons_of_mem _ (List.mem_append_left _ (List.mem_of_getElem? (i := 0) rfl))
theorem mx_X8_isCell_1 : Cond.fieldLink RX8 19 "MillTalkModel" "st" "[I" ∈ wsX8_isCell := by unfold wsX8_isCell; exact List.mem_cons_of_mem _ (List.mem_append_left _ (List.mem_of_getElem? (i := 0) rfl))
theorem mx_X8_gustOf_1 : Cond.fieldLink RX8 19 "MillTalkModel" "st" "[I" ∈ wsX8_gustOf := by unfold wsX8_gustOf; exact List.mem_cons_of_mem _ (List.mem_append_left _ (List.mem_of_getElem? (i := 0) rfl))
theorem mx_X8_isAtMill_1 : Cond.fieldLink RX8 19 "MillTalkModel" "st" "[I" ∈ wsX8_isAtMill := by unfold wsX8_isAtMill; exact List.mem_cons_of_mem _ (List.mem_append_left _ (List.mem_of_getElem? (i := 0) rfl))
theorem mx_X8_those_1 : Cond.fieldLink RX8 19 "MillTalkModel" "st" "[I" ∈ wsX8_those := by unfold wsX8_those; exact List.mem_cons_of_mem _ (List.mem_append_left _ (List.mem_of_getElem? (i := 0) rfl))
theorem mx_X8_loudOf_1 : Cond.fieldLink RX8 19 "MillTalkModel" "st" "[I" ∈ wsX8_loudOf := by unfold wsX8_loudOf; exact List.mem_cons_of_mem _ (List.mem_append_left _ (List.mem_of_getElem? (i := 0) rfl))
theorem mx_X8_letLoose_1 : Cond.fieldLink RX8 19 "MillTalkModel" "st" "[I" ∈ wsX8_letLoose := by unfold wsX8_letLoose; exact List.mem_cons_of_mem _ (List.mem_append_left _ (List.mem_of_getElem? (i := 0) rfl))
