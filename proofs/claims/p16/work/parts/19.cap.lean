theorem lf_X2_isLength_1 {n : Int32} (c_1 : n < 1) : (n < 1 ∨ 8 < n) := by
  grind
theorem lf_X2_isLength_2 {n : Int32} (c_1 : ¬ (n < 1)) (c_2 : 8 < n) : (n < 1 ∨ 8 < n) := by
  grind
theorem lf_X2_isLength_3 {n : Int32} (c_1 : ¬ (n < 1)) (c_2 : ¬ (8 < n)) : ¬ (n < 1 ∨ 8 < n) := by
  grind
set_option maxHeartbeats 4000000 in
set_option maxRecDepth 100000 in
theorem r_X2_isLength (l : Launch) (dC : Nat → ClassId) (dI : Nat → Nat → Nat) (cI cZ cL cJ : ClassId) (n : Int32)  : Met l yX2_isLength wsX2_isLength ({ frames := 0, cells := 0, slots := 0, locals := 0 }) (va_Pc [.int n] (fun U => va_P (dC, dI) vwCl [] U.heap ∧ va_K (dC, dI) vwCl [(cI, .int), (cZ, .boolean), (cL, .object RX3), (cJ, .array .int)] U)) (vp_Si (fun r => (r = 0 ∧ (n < 1 ∨ 8 < n)) ∨ (r = 1 ∧ vp_in n 9 ∧ ¬ (n < 1 ∨ 8 < n)))) 0 0 (fun _ => False) := by
  refine Met.ofW (cc := cX2_isLength) (maxL := 1) (ret := (some .boolean)) (by decide) rfl ?_
  intro p e s m args below meth c s₁ B hml hv
  obtain ⟨rfl, hP, hK⟩ := hv
  have hx := B.exec
  have hb := B.bytes
  have hr := B.returns
  have hts := atoms_spec (ws := wsX2_isLength) B.pre
  have hown : s.vm.findClass RX2 = some m.cls := findClass_of_methodNamed B.named
  have hlocks := B.notSynchronized
  have hP : va_P (dC, dI) vwCl [] s.heap := hP
  have hl := lv_entry ([.int n]) (n := 1) (Nat.le_of_ble_eq_true rfl)
  rw [lg_entry_eq]
  generalize (lg_sl ([.int n]) ++ List.replicate (1 - (lg_sl ([.int n])).length) Slot.unset).toArray = ls at hl ⊢
  have hl : lv_has ls 1 [(0, .int n)] := hl
  refine lv_iload_n hx hb dX2_isLength_0 rfl (lv_at hl 0 rfl) ?_
  refine lv_iconst (v := 1) hx hb dX2_isLength_1 (by decide) ?_
  refine lv_icmp_lt (tgt := 15) hx hb dX2_isLength_2 (by decide) (fun c_1 => ?_) (fun c_1 => ?_)
  · skip
    refine lv_iconst (v := 0) hx hb dX2_isLength_15 (by decide) ?_
    exact W.zret (v := 0) hx hb hr (by decide) (fun t ht hW => ⟨0, rfl, Or.inl ⟨rfl, (lf_X2_isLength_1 c_1)⟩, ht⟩) (fun _ h => by cases h) dX2_isLength_16
  · skip
    refine lv_iload_n hx hb dX2_isLength_5 rfl (lv_at hl 0 rfl) ?_
    refine lv_bipush (v := 8) hx hb dX2_isLength_6 (by decide) ?_
    refine lv_icmp_gt (tgt := 15) hx hb dX2_isLength_8 (by decide) (fun c_2 => ?_) (fun c_2 => ?_)
    · skip
      refine lv_iconst (v := 0) hx hb dX2_isLength_15 (by decide) ?_
      exact W.zret (v := 0) hx hb hr (by decide) (fun t ht hW => ⟨0, rfl, Or.inl ⟨rfl, (lf_X2_isLength_2 c_1 c_2)⟩, ht⟩) (fun _ h => by cases h) dX2_isLength_16
    · skip
      refine lv_iconst (v := 1) hx hb dX2_isLength_11 (by decide) ?_
      refine lv_goto (tgt := 16) hx hb dX2_isLength_12 (by decide) ?_
      exact W.zret (v := 1) hx hb hr (by decide) (fun t ht hW => ⟨1, rfl, Or.inr ⟨rfl, len_in c_1 c_2, (lf_X2_isLength_3 c_1 c_2)⟩, ht⟩) (fun _ h => by cases h) dX2_isLength_16
theorem lf_X2_bestCap_1 {hrs : Int32} {br : Int32} {n : Int32} {v_1 : Int32} {v_2 : Int32} {v_3 : Int32} {v_4 : Int32} (e_1 : v_1 = (hrs - 1)) (e_2 : v_2 = (v_1 - n)) (e_3 : v_3 = ((br : Int32) >>> ((v_2 : Int32) &&& 31))) (e_4 : v_4 = (v_3 &&& 1)) : v_4 = (bcX br hrs n) := by
  subst_vars; rfl
set_option maxHeartbeats 4000000 in
set_option maxRecDepth 100000 in
theorem r_X2_bestCap (l : Launch) (dC : Nat → ClassId) (dI : Nat → Nat → Nat) (cI cZ cL cJ : ClassId) (c0 : Nat) (be : Nat) (hrs : Int32) (wa : Int32) (br : Int32) (bw : Int32) (bt : Int32) (n : Int32)  : Met l yX2_bestCap wsX2_bestCap ({ frames := 0, cells := 0, slots := 0, locals := 0 }) (va_Pc [.ref c0, .int n] (fun U => va_P (dC, dI) vwCl [(xo_2_riiiii c0 be hrs wa br bw bt)] U.heap ∧ va_K (dC, dI) vwCl [(cI, .int), (cZ, .boolean), (cL, .object RX3), (cJ, .array .int)] U)) (vp_Si (fun r => r = (bcX br hrs n))) 0 0 (fun _ => False) := by
  refine Met.ofW (cc := cX2_bestCap) (maxL := 2) (ret := (some .int)) (by decide) rfl ?_
  intro p e s m args below meth c s₁ B hml hv
  obtain ⟨rfl, hP, hK⟩ := hv
  have hx := B.exec
  have hb := B.bytes
  have hr := B.returns
  have hts := atoms_spec (ws := wsX2_bestCap) B.pre
  have hown : s.vm.findClass RX2 = some m.cls := findClass_of_methodNamed B.named
  have hlocks := B.notSynchronized
  have hP : va_P (dC, dI) vwCl [(xo_2_riiiii c0 be hrs wa br bw bt)] s.heap := hP
  have hl := lv_entry ([.ref c0, .int n]) (n := 2) (Nat.le_of_ble_eq_true rfl)
  rw [lg_entry_eq]
  generalize (lg_sl ([.ref c0, .int n]) ++ List.replicate (2 - (lg_sl ([.ref c0, .int n])).length) Slot.unset).toArray = ls at hl ⊢
  have hl : lv_has ls 2 [(0, .ref c0), (1, .int n)] := hl
  refine lv_aload_n hx hb dX2_bestCap_0 rfl (lv_at hl 0 rfl) ?_
  refine va_get (D := (dC, dI)) (ci := 2) (v := .int br) (C := RX2) (T := TX2) (N := 6) hx hb hts i_X2_bestCap_X2 hown hK hP 0 rfl rfl 3 (by decide) (hts _ mx_X2_bestCap_1) (fun _ h9 => h9) rfl dX2_bestCap_1 ?_
  refine lv_aload_n hx hb dX2_bestCap_4 rfl (lv_at hl 0 rfl) ?_
  refine va_get (D := (dC, dI)) (ci := 2) (v := .int hrs) (C := RX2) (T := TX2) (N := 6) hx hb hts i_X2_bestCap_X2 hown hK hP 0 rfl rfl 1 (by decide) (hts _ mx_X2_bestCap_2) (fun _ h9 => h9) rfl dX2_bestCap_5 ?_
  refine lv_iconst (v := 1) hx hb dX2_bestCap_8 (by decide) ?_
  refine lv_isub hx hb dX2_bestCap_9 ?_
  refine lv_topi (fun v_1 e_1 => ?_)
  refine lv_iload_n hx hb dX2_bestCap_10 rfl (lv_at hl 1 rfl) ?_
  refine lv_isub hx hb dX2_bestCap_11 ?_
  refine lv_topi (fun v_2 e_2 => ?_)
  refine lv_ishr hx hb dX2_bestCap_12 ?_
  refine lv_topi (fun v_3 e_3 => ?_)
  refine lv_iconst (v := 1) hx hb dX2_bestCap_13 (by decide) ?_
  refine lv_iand hx hb dX2_bestCap_14 ?_
  refine lv_topi (fun v_4 e_4 => ?_)
  exact W.iret (v := v_4) hx hb hr (fun t ht hW => ⟨v_4, rfl, (lf_X2_bestCap_1 e_1 e_2 e_3 e_4), ht⟩) (fun _ h => by cases h) dX2_bestCap_15
theorem lf_X2_worthOf_1 {wa : Int32} {v5 : Int32} {hh : Nat} {ww : Nat} {kk : Nat} {g5 : Nat → Int32} {r_2 : Int32} {v_3 : Int32} {v_4 : Int32} (hhb : hh < 2000000000) (hww : ww ≤ 6) (hkk : kk ≤ 6) (c_1 : ¬ (wa = (-1))) (h_2 : r_2 = (thR g5 1 kk)) (e_3 : v_3 = (r_2 ^^^ (-1))) (e_4 : v_4 = (wa &&& v_3)) (c_5 : ¬ (v_4 = 0)) : 0 = (woX wa v5 (thR g5 1 kk)) := by
  simp only [woX]; grind
theorem lf_X2_worthOf_2 {wa : Int32} {v5 : Int32} {hh : Nat} {ww : Nat} {kk : Nat} {g5 : Nat → Int32} {r_2 : Int32} {v_3 : Int32} {v_4 : Int32} (hhb : hh < 2000000000) (hww : ww ≤ 6) (hkk : kk ≤ 6) (c_1 : ¬ (wa = (-1))) (h_2 : r_2 = (thR g5 1 kk)) (e_3 : v_3 = (r_2 ^^^ (-1))) (e_4 : v_4 = (wa &&& v_3)) (c_5 : v_4 = 0) : 1 = (woX wa v5 (thR g5 1 kk)) := by
  simp only [woX]; grind
theorem lf_X2_worthOf_3 {wa : Int32} {v5 : Int32} {hh : Nat} {ww : Nat} {kk : Nat} {g5 : Nat → Int32} (hhb : hh < 2000000000) (hww : ww ≤ 6) (hkk : kk ≤ 6) (c_1 : wa = (-1)) : v5 = (woX wa v5 (thR g5 1 kk)) := by
  simp only [woX]; grind
set_option maxHeartbeats 4000000 in
set_option maxRecDepth 100000 in
theorem r_X2_worthOf (l : Launch) (dC : Nat → ClassId) (dI : Nat → Nat → Nat) (cI cZ cL cJ : ClassId) (c0 : Nat) (be : Nat) (hrs : Int32) (wa : Int32) (br : Int32) (bw : Int32) (bt : Int32) (h : Nat) (v0 : Int32) (v1 : Int32) (v2 : Int32) (v3 : Int32) (v5 : Int32) (hh : Nat) (ww : Nat) (kk : Nat) (b1 : Nat) (b2 : Nat) (b3 : Nat) (b4 : Nat) (b5 : Nat) (g1 : Nat → Int32) (g2 : Nat → Int32) (g3 : Nat → Int32) (g4 : Nat → Int32) (g5 : Nat → Int32) (hhb : hh < 2000000000) (hww : ww ≤ 6) (hkk : kk ≤ 6) : Met l yX2_worthOf wsX2_worthOf ({ frames := 1, cells := 0, slots := 0, locals := 23 }) (va_Pc [.ref c0, .ref h] (fun U => va_P (dC, dI) vwCl [(xo_2_riiiii c0 be hrs wa br bw bt), (xo_3_iiiiiiiirrrrr h v0 v1 v2 v3 (nI hh) v5 (nI ww) (nI kk) b1 b2 b3 b4 b5), (xI b1 cI 6 g1), (xI b2 cI 6 g2), (xI b3 cI 6 g3), (xI b4 cI 6 g4), (xI b5 cI 6 g5)] U.heap ∧ va_K (dC, dI) vwCl [(cI, .int), (cZ, .boolean), (cL, .object RX3), (cJ, .array .int)] U)) (vp_Si (fun r => r = (woX wa v5 (thR g5 1 kk)))) 0 0 (fun _ => False) := by
  refine Met.ofW (cc := cX2_worthOf) (maxL := 2) (ret := (some .int)) (by decide) rfl ?_
  intro p e s m args below meth c s₁ B hml hv
  obtain ⟨rfl, hP, hK⟩ := hv
  have hx := B.exec
  have hb := B.bytes
  have hr := B.returns
  have hts := atoms_spec (ws := wsX2_worthOf) B.pre
  have hown : s.vm.findClass RX2 = some m.cls := findClass_of_methodNamed B.named
  have hlocks := B.notSynchronized
  have hP : va_P (dC, dI) vwCl [(xo_2_riiiii c0 be hrs wa br bw bt), (xo_3_iiiiiiiirrrrr h v0 v1 v2 v3 (nI hh) v5 (nI ww) (nI kk) b1 b2 b3 b4 b5), (xI b1 cI 6 g1), (xI b2 cI 6 g2), (xI b3 cI 6 g3), (xI b4 cI 6 g4), (xI b5 cI 6 g5)] s.heap := hP
  have hl := lv_entry ([.ref c0, .ref h]) (n := 2) (Nat.le_of_ble_eq_true rfl)
  rw [lg_entry_eq]
  generalize (lg_sl ([.ref c0, .ref h]) ++ List.replicate (2 - (lg_sl ([.ref c0, .ref h])).length) Slot.unset).toArray = ls at hl ⊢
  have hl : lv_has ls 2 [(0, .ref c0), (1, .ref h)] := hl
  refine lv_aload_n hx hb dX2_worthOf_0 rfl (lv_at hl 0 rfl) ?_
  refine va_get (D := (dC, dI)) (ci := 2) (v := .int wa) (C := RX2) (T := TX2) (N := 6) hx hb hts i_X2_worthOf_X2 hown hK hP 0 rfl rfl 2 (by decide) (hts _ mx_X2_worthOf_1) (fun _ h9 => h9) rfl dX2_worthOf_1 ?_
  refine lv_iconst (v := (-1)) hx hb dX2_worthOf_4 (by decide) ?_
  refine lv_icmp_ne (tgt := 13) hx hb dX2_worthOf_5 (by decide) (fun c_1 => ?_) (fun c_1 => ?_)
  · skip
    refine lv_aload_n hx hb dX2_worthOf_13 rfl (lv_at hl 0 rfl) ?_
    refine va_get (D := (dC, dI)) (ci := 2) (v := .int wa) (C := RX2) (T := TX2) (N := 6) hx hb hts i_X2_worthOf_X2 hown hK hP 0 rfl rfl 2 (by decide) (hts _ mx_X2_worthOf_1) (fun _ h9 => h9) rfl dX2_worthOf_14 ?_
    refine lv_aload_n hx hb dX2_worthOf_17 rfl (lv_at hl 1 rfl) ?_
    refine lv_iconst (v := 1) hx hb dX2_worthOf_18 (by decide) ?_
    have hPc_2 := hP.sub (ws' := [(xo_3_iiiiiiiirrrrr h v0 v1 v2 v3 (nI hh) v5 (nI ww) (nI kk) b1 b2 b3 b4 b5), (xI b1 cI 6 g1), (xI b2 cI 6 g2), (xI b3 cI 6 g3), (xI b4 cI 6 g4), (xI b5 cI 6 g5)]) [1, 2, 3, 4, 5, 6] rfl
    refine vp_callSi (W.runV (As := [.int 1]) (rest := [.int wa]) ⟨hx, hb, hml, hown, hts⟩ (r_X3_soundsThatAre l dC dI cI cZ cL cJ h v0 v1 v2 v3 v5 hh ww kk b1 b2 b3 b4 b5 g1 g2 g3 g4 g5 1 (hhb) (hww) (hkk)) (cwV 1 hts gX2_worthOf_X3_soundsThatAre rfl rfl rfl (by decide +kernel) ⟨Nat.le_of_ble_eq_true rfl, Nat.le_of_ble_eq_true rfl⟩) (pvP 3 1 hK hP rfl rfl hPc_2) rfl rfl hl.1 rfl (lv_room (Nat.le_of_ble_eq_true rfl)) dX2_worthOf_19 ⟨Nat.le_of_ble_eq_true rfl, Nat.le_of_ble_eq_true rfl⟩) (fun r_2 h_2 => ?_)
    refine lv_iconst (v := (-1)) hx hb dX2_worthOf_22 (by decide) ?_
    refine lv_ixor hx hb dX2_worthOf_23 ?_
    refine lv_topi (fun v_3 e_3 => ?_)
    refine lv_iand hx hb dX2_worthOf_24 ?_
    refine lv_topi (fun v_4 e_4 => ?_)
    refine lv_if_ne (tgt := 32) hx hb dX2_worthOf_25 (by decide) (fun c_5 => ?_) (fun c_5 => ?_)
    · skip
      refine lv_iconst (v := 0) hx hb dX2_worthOf_32 (by decide) ?_
      exact W.iret (v := 0) hx hb hr (fun t ht hW => ⟨0, rfl, (lf_X2_worthOf_1 hhb hww hkk c_1 h_2 e_3 e_4 c_5), ht⟩) (fun _ h => by cases h) dX2_worthOf_33
    · skip
      refine lv_iconst (v := 1) hx hb dX2_worthOf_28 (by decide) ?_
      refine lv_goto (tgt := 33) hx hb dX2_worthOf_29 (by decide) ?_
      exact W.iret (v := 1) hx hb hr (fun t ht hW => ⟨1, rfl, (lf_X2_worthOf_2 hhb hww hkk c_1 h_2 e_3 e_4 c_5), ht⟩) (fun _ h => by cases h) dX2_worthOf_33
  · skip
    refine lv_aload_n hx hb dX2_worthOf_8 rfl (lv_at hl 1 rfl) ?_
    refine va_get (D := (dC, dI)) (ci := 3) (v := .int v5) (C := RX3) (T := TX3) (N := 13) hx hb hts i_X2_worthOf_X3 hown hK hP 1 rfl rfl 5 (by decide) (hts _ mx_X2_worthOf_2) (fun _ h9 => h9) rfl dX2_worthOf_9 ?_
    exact W.iret (v := v5) hx hb hr (fun t ht hW => ⟨v5, rfl, (lf_X2_worthOf_3 hhb hww hkk c_1), ht⟩) (fun _ h => by cases h) dX2_worthOf_12
theorem lf_X2_judge_1 {wa : Int32} {br : Int32} {bw : Int32} {bt : Int32} {v5 : Int32} {hh : Nat} {ww : Nat} {kk : Nat} {g5 : Nat → Int32} {x : Int32} {y : Int32} {r_1 : Int32} (hhb : hh < 2000000000) (hww : ww ≤ 6) (hkk : kk ≤ 6) (h_1 : r_1 = (woX wa v5 (thR g5 1 kk))) (c_2 : bw < r_1) : jdX (woX wa v5 (thR g5 1 kk)) x y (bw, bt, br) = (r_1, y, x) := by
  simp only [jdX]; grind
theorem lf_X2_judge_2 {wa : Int32} {br : Int32} {bw : Int32} {bt : Int32} {v5 : Int32} {hh : Nat} {ww : Nat} {kk : Nat} {g5 : Nat → Int32} {x : Int32} {y : Int32} {r_1 : Int32} (hhb : hh < 2000000000) (hww : ww ≤ 6) (hkk : kk ≤ 6) (h_1 : r_1 = (woX wa v5 (thR g5 1 kk))) (c_2 : ¬ (bw < r_1)) (c_3 : ¬ (r_1 = bw)) : jdX (woX wa v5 (thR g5 1 kk)) x y (bw, bt, br) = (bw, bt, br) := by
  simp only [jdX]; grind
theorem lf_X2_judge_3 {wa : Int32} {br : Int32} {bw : Int32} {bt : Int32} {v5 : Int32} {hh : Nat} {ww : Nat} {kk : Nat} {g5 : Nat → Int32} {x : Int32} {y : Int32} {r_1 : Int32} (hhb : hh < 2000000000) (hww : ww ≤ 6) (hkk : kk ≤ 6) (h_1 : r_1 = (woX wa v5 (thR g5 1 kk))) (c_2 : ¬ (bw < r_1)) (c_3 : r_1 = bw) (c_4 : bt ≤ y) : jdX (woX wa v5 (thR g5 1 kk)) x y (bw, bt, br) = (bw, bt, br) := by
  simp only [jdX]; grind
theorem lf_X2_judge_4 {wa : Int32} {br : Int32} {bw : Int32} {bt : Int32} {v5 : Int32} {hh : Nat} {ww : Nat} {kk : Nat} {g5 : Nat → Int32} {x : Int32} {y : Int32} {r_1 : Int32} (hhb : hh < 2000000000) (hww : ww ≤ 6) (hkk : kk ≤ 6) (h_1 : r_1 = (woX wa v5 (thR g5 1 kk))) (c_2 : ¬ (bw < r_1)) (c_3 : r_1 = bw) (c_4 : ¬ (bt ≤ y)) : jdX (woX wa v5 (thR g5 1 kk)) x y (bw, bt, br) = (r_1, y, x) := by
  simp only [jdX]; grind
set_option maxHeartbeats 4000000 in
set_option maxRecDepth 100000 in
theorem r_X2_judge (l : Launch) (dC : Nat → ClassId) (dI : Nat → Nat → Nat) (cI cZ cL cJ : ClassId) (sz : Nat) (c0 : Nat) (be : Nat) (hrs : Int32) (wa : Int32) (br : Int32) (bw : Int32) (bt : Int32) (h : Nat) (v0 : Int32) (v1 : Int32) (v2 : Int32) (v3 : Int32) (v5 : Int32) (hh : Nat) (ww : Nat) (kk : Nat) (b1 : Nat) (b2 : Nat) (b3 : Nat) (b4 : Nat) (b5 : Nat) (g1 : Nat → Int32) (g2 : Nat → Int32) (g3 : Nat → Int32) (g4 : Nat → Int32) (g5 : Nat → Int32) (x : Int32) (y : Int32) (hhb : hh < 2000000000) (hww : ww ≤ 6) (hkk : kk ≤ 6) : Met l yX2_judge wsX2_judge ({ frames := 2, cells := 0, slots := 0, locals := 44 }) (va_Pc [.ref c0, .ref h, .int x, .int y] (fun U => U.heap.size = sz ∧ va_P (dC, dI) vwCl [(xo_2_riiiii c0 be hrs wa br bw bt), (xo_3_iiiiiiiirrrrr h v0 v1 v2 v3 (nI hh) v5 (nI ww) (nI kk) b1 b2 b3 b4 b5), (xI b1 cI 6 g1), (xI b2 cI 6 g2), (xI b3 cI 6 g3), (xI b4 cI 6 g4), (xI b5 cI 6 g5)] U.heap ∧ va_K (dC, dI) vwCl [(cI, .int), (cZ, .boolean), (cL, .object RX3), (cJ, .array .int)] U ∧ va_D (fun _ => True) [(xo_2_riiiii c0 be hrs wa br bw bt), (xo_3_iiiiiiiirrrrr h v0 v1 v2 v3 (nI hh) v5 (nI ww) (nI kk) b1 b2 b3 b4 b5), (xI b1 cI 6 g1), (xI b2 cI 6 g2), (xI b3 cI 6 g3), (xI b4 cI 6 g4), (xI b5 cI 6 g5)])) (va_Qv (fun (_ : Unit) => True) (fun (_ : Unit) t => ∃ (brn : Int32) (bwn : Int32) (btn : Int32), va_P (dC, dI) vwCl [(xo_2_riiiii c0 be hrs wa brn bwn btn), (xo_3_iiiiiiiirrrrr h v0 v1 v2 v3 (nI hh) v5 (nI ww) (nI kk) b1 b2 b3 b4 b5), (xI b1 cI 6 g1), (xI b2 cI 6 g2), (xI b3 cI 6 g3), (xI b4 cI 6 g4), (xI b5 cI 6 g5)] t.heap ∧ va_D (va_A [(xo_2_riiiii c0 be hrs wa br bw bt), (xo_3_iiiiiiiirrrrr h v0 v1 v2 v3 (nI hh) v5 (nI ww) (nI kk) b1 b2 b3 b4 b5), (xI b1 cI 6 g1), (xI b2 cI 6 g2), (xI b3 cI 6 g3), (xI b4 cI 6 g4), (xI b5 cI 6 g5)] sz) [(xo_2_riiiii c0 be hrs wa brn bwn btn), (xo_3_iiiiiiiirrrrr h v0 v1 v2 v3 (nI hh) v5 (nI ww) (nI kk) b1 b2 b3 b4 b5), (xI b1 cI 6 g1), (xI b2 cI 6 g2), (xI b3 cI 6 g3), (xI b4 cI 6 g4), (xI b5 cI 6 g5)] ∧ jdX (woX wa v5 (thR g5 1 kk)) x y (bw, bt, br) = (bwn, btn, brn)) (va_A [(xo_2_riiiii c0 be hrs wa br bw bt), (xo_3_iiiiiiiirrrrr h v0 v1 v2 v3 (nI hh) v5 (nI ww) (nI kk) b1 b2 b3 b4 b5), (xI b1 cI 6 g1), (xI b2 cI 6 g2), (xI b3 cI 6 g3), (xI b4 cI 6 g4), (xI b5 cI 6 g5)] sz)) 0 0 (va_A [(xo_2_riiiii c0 be hrs wa br bw bt), (xo_3_iiiiiiiirrrrr h v0 v1 v2 v3 (nI hh) v5 (nI ww) (nI kk) b1 b2 b3 b4 b5), (xI b1 cI 6 g1), (xI b2 cI 6 g2), (xI b3 cI 6 g3), (xI b4 cI 6 g4), (xI b5 cI 6 g5)] sz) := by
  refine Met.ofW (cc := cX2_judge) (maxL := 5) (ret := none) (by decide) rfl ?_
  intro p e s m args below meth c s₁ B hml hv
  obtain ⟨rfl, hsz, hP, hK, hD0⟩ := hv
  have hx := B.exec
  have hb := B.bytes
  have hr := B.returns
  have hts := atoms_spec (ws := wsX2_judge) B.pre
  have hown : s.vm.findClass RX2 = some m.cls := findClass_of_methodNamed B.named
  have hlocks := B.notSynchronized
  subst hsz
  have hD := hD0.self (sz := s.heap.size)
  generalize hAe : va_A [(xo_2_riiiii c0 be hrs wa br bw bt), (xo_3_iiiiiiiirrrrr h v0 v1 v2 v3 (nI hh) v5 (nI ww) (nI kk) b1 b2 b3 b4 b5), (xI b1 cI 6 g1), (xI b2 cI 6 g2), (xI b3 cI 6 g3), (xI b4 cI 6 g4), (xI b5 cI 6 g5)] s.heap.size = A at hD ⊢
  have hA : ∀ q : Nat, s.heap.size ≤ q → A q := fun q h => by rw [← hAe]; exact Or.inr h
  have hS : va_S A s.heap s.heap [] := va_S.rf
  have hP : va_P (dC, dI) vwCl [(xo_2_riiiii c0 be hrs wa br bw bt), (xo_3_iiiiiiiirrrrr h v0 v1 v2 v3 (nI hh) v5 (nI ww) (nI kk) b1 b2 b3 b4 b5), (xI b1 cI 6 g1), (xI b2 cI 6 g2), (xI b3 cI 6 g3), (xI b4 cI 6 g4), (xI b5 cI 6 g5)] s.heap := hP
  have hl := lv_entry ([.ref c0, .ref h, .int x, .int y]) (n := 5) (Nat.le_of_ble_eq_true rfl)
  rw [lg_entry_eq]
  generalize (lg_sl ([.ref c0, .ref h, .int x, .int y]) ++ List.replicate (5 - (lg_sl ([.ref c0, .ref h, .int x, .int y])).length) Slot.unset).toArray = ls at hl ⊢
  have hl : lv_has ls 5 [(0, .ref c0), (1, .ref h), (2, .int x), (3, .int y)] := hl
  refine lv_aload_n hx hb dX2_judge_0 rfl (lv_at hl 0 rfl) ?_
  refine lv_aload_n hx hb dX2_judge_1 rfl (lv_at hl 1 rfl) ?_
  have hPc_1 := hP
  refine vp_callSi (W.runV (As := [.ref h]) (rest := []) ⟨hx, hb, hml, hown, hts⟩ (r_X2_worthOf l dC dI cI cZ cL cJ c0 be hrs wa br bw bt h v0 v1 v2 v3 v5 hh ww kk b1 b2 b3 b4 b5 g1 g2 g3 g4 g5 (hhb) (hww) (hkk)) (cwV 1 hts gX2_judge_X2_worthOf rfl rfl rfl (by decide +kernel) ⟨Nat.le_of_ble_eq_true rfl, Nat.le_of_ble_eq_true rfl⟩) (pvP 2 0 hK hP rfl rfl hPc_1) rfl rfl hl.1 rfl (lv_room (Nat.le_of_ble_eq_true rfl)) dX2_judge_2 ⟨Nat.le_of_ble_eq_true rfl, Nat.le_of_ble_eq_true rfl⟩) (fun r_1 h_1 => ?_)
  refine lv_istore (lv' := [(4, .int r_1), (0, .ref c0), (1, .ref h), (2, .int x), (3, .int y)]) hx hb dX2_judge_5 hl (by decide) rfl (fun ls hl => ?_)
  refine lv_iload hx hb dX2_judge_7 (lv_at hl 0 rfl) ?_
  refine lv_aload_n hx hb dX2_judge_9 rfl (lv_at hl 1 rfl) ?_
  refine va_get (D := (dC, dI)) (ci := 2) (v := .int bw) (C := RX2) (T := TX2) (N := 6) hx hb hts i_X2_judge_X2 hown hK hP 0 rfl rfl 4 (by decide) (hts _ mx_X2_judge_1) (fun _ h9 => h9) rfl dX2_judge_10 ?_
  refine lv_icmp_gt (tgt := 33) hx hb dX2_judge_13 (by decide) (fun c_2 => ?_) (fun c_2 => ?_)
  · skip
    refine lv_aload_n hx hb dX2_judge_33 rfl (lv_at hl 1 rfl) ?_
    refine lv_iload hx hb dX2_judge_34 (lv_at hl 0 rfl) ?_
    refine va_put (D := (dC, dI)) (ci := 2) (v := .int r_1) (ty := .int) (C := RX2) (T := TX2) (N := 6) hx hb hts i_X2_judge_X2 tyX2 tyX2_ok nmX2 hown hK hP hD hS 0 rfl rfl 4 (by decide) (hts _ mx_X2_judge_1) (fun _ h9 => h9) rfl (by decide +kernel) rfl rfl (Nat.le_of_ble_eq_true rfl) dX2_judge_36 (fun H locs hP hD hS => ?_)
    have hP : va_P (dC, dI) vwCl [(xo_2_riiiii c0 be hrs wa br r_1 bt), (xo_3_iiiiiiiirrrrr h v0 v1 v2 v3 (nI hh) v5 (nI ww) (nI kk) b1 b2 b3 b4 b5), (xI b1 cI 6 g1), (xI b2 cI 6 g2), (xI b3 cI 6 g3), (xI b4 cI 6 g4), (xI b5 cI 6 g5)] H := hP
    have hD := dto hP hD
    refine lv_aload_n hx hb dX2_judge_39 rfl (lv_at hl 1 rfl) ?_
    refine lv_iload_n hx hb dX2_judge_40 rfl (lv_at hl 4 rfl) ?_
    refine va_put (D := (dC, dI)) (ci := 2) (v := .int y) (ty := .int) (C := RX2) (T := TX2) (N := 6) hx hb hts i_X2_judge_X2 tyX2 tyX2_ok nmX2 hown hK hP hD hS 0 rfl rfl 5 (by decide) (hts _ mx_X2_judge_2) (fun _ h9 => h9) rfl (by decide +kernel) rfl rfl (Nat.le_of_ble_eq_true rfl) dX2_judge_41 (fun H locs hP hD hS => ?_)
    have hP : va_P (dC, dI) vwCl [(xo_2_riiiii c0 be hrs wa br r_1 y), (xo_3_iiiiiiiirrrrr h v0 v1 v2 v3 (nI hh) v5 (nI ww) (nI kk) b1 b2 b3 b4 b5), (xI b1 cI 6 g1), (xI b2 cI 6 g2), (xI b3 cI 6 g3), (xI b4 cI 6 g4), (xI b5 cI 6 g5)] H := hP
    have hD := dto hP hD
    refine lv_aload_n hx hb dX2_judge_44 rfl (lv_at hl 1 rfl) ?_
    refine lv_iload_n hx hb dX2_judge_45 rfl (lv_at hl 3 rfl) ?_
    refine va_put (D := (dC, dI)) (ci := 2) (v := .int x) (ty := .int) (C := RX2) (T := TX2) (N := 6) hx hb hts i_X2_judge_X2 tyX2 tyX2_ok nmX2 hown hK hP hD hS 0 rfl rfl 3 (by decide) (hts _ mx_X2_judge_3) (fun _ h9 => h9) rfl (by decide +kernel) rfl rfl (Nat.le_of_ble_eq_true rfl) dX2_judge_46 (fun H locs hP hD hS => ?_)
    have hP : va_P (dC, dI) vwCl [(xo_2_riiiii c0 be hrs wa x r_1 y), (xo_3_iiiiiiiirrrrr h v0 v1 v2 v3 (nI hh) v5 (nI ww) (nI kk) b1 b2 b3 b4 b5), (xI b1 cI 6 g1), (xI b2 cI 6 g2), (xI b3 cI 6 g3), (xI b4 cI 6 g4), (xI b5 cI 6 g5)] H := hP
    have hD := dto hP hD
    have hX9 := cut2 (wc := [(xo_2_riiiii c0 be hrs wa x r_1 y), (xo_3_iiiiiiiirrrrr h v0 v1 v2 v3 (nI hh) v5 (nI ww) (nI kk) b1 b2 b3 b4 b5), (xI b1 cI 6 g1), (xI b2 cI 6 g2), (xI b3 cI 6 g3), (xI b4 cI 6 g4), (xI b5 cI 6 g5)]) hP hD [0, 1, 2, 3, 4, 5, 6] (by decide +kernel) rfl
    exact W.vret hx hb hr (fun t ht hW => ⟨⟨(), rfl, trivial, ⟨x, r_1, y, va_Ht ht hX9.1, hX9.2, (lf_X2_judge_1 hhb hww hkk h_1 c_2)⟩⟩, hS.F ht⟩) hS.2.2 dX2_judge_49
  · skip
    refine lv_iload hx hb dX2_judge_16 (lv_at hl 0 rfl) ?_
    refine lv_aload_n hx hb dX2_judge_18 rfl (lv_at hl 1 rfl) ?_
    refine va_get (D := (dC, dI)) (ci := 2) (v := .int bw) (C := RX2) (T := TX2) (N := 6) hx hb hts i_X2_judge_X2 hown hK hP 0 rfl rfl 4 (by decide) (hts _ mx_X2_judge_1) (fun _ h9 => h9) rfl dX2_judge_19 ?_
    refine lv_icmp_ne (tgt := 49) hx hb dX2_judge_22 (by decide) (fun c_3 => ?_) (fun c_3 => ?_)
    · skip
      have hX9 := cut2 (wc := [(xo_2_riiiii c0 be hrs wa br bw bt), (xo_3_iiiiiiiirrrrr h v0 v1 v2 v3 (nI hh) v5 (nI ww) (nI kk) b1 b2 b3 b4 b5), (xI b1 cI 6 g1), (xI b2 cI 6 g2), (xI b3 cI 6 g3), (xI b4 cI 6 g4), (xI b5 cI 6 g5)]) hP hD [0, 1, 2, 3, 4, 5, 6] (by decide +kernel) rfl
      exact W.vret hx hb hr (fun t ht hW => ⟨⟨(), rfl, trivial, ⟨br, bw, bt, va_Ht ht hX9.1, hX9.2, (lf_X2_judge_2 hhb hww hkk h_1 c_2 c_3)⟩⟩, hS.F ht⟩) hS.2.2 dX2_judge_49
    · skip
      refine lv_iload_n hx hb dX2_judge_25 rfl (lv_at hl 4 rfl) ?_
      refine lv_aload_n hx hb dX2_judge_26 rfl (lv_at hl 1 rfl) ?_
      refine va_get (D := (dC, dI)) (ci := 2) (v := .int bt) (C := RX2) (T := TX2) (N := 6) hx hb hts i_X2_judge_X2 hown hK hP 0 rfl rfl 5 (by decide) (hts _ mx_X2_judge_2) (fun _ h9 => h9) rfl dX2_judge_27 ?_
      refine lv_icmp_ge (tgt := 49) hx hb dX2_judge_30 (by decide) (fun c_4 => ?_) (fun c_4 => ?_)
      · skip
        have hX9 := cut2 (wc := [(xo_2_riiiii c0 be hrs wa br bw bt), (xo_3_iiiiiiiirrrrr h v0 v1 v2 v3 (nI hh) v5 (nI ww) (nI kk) b1 b2 b3 b4 b5), (xI b1 cI 6 g1), (xI b2 cI 6 g2), (xI b3 cI 6 g3), (xI b4 cI 6 g4), (xI b5 cI 6 g5)]) hP hD [0, 1, 2, 3, 4, 5, 6] (by decide +kernel) rfl
        exact W.vret hx hb hr (fun t ht hW => ⟨⟨(), rfl, trivial, ⟨br, bw, bt, va_Ht ht hX9.1, hX9.2, (lf_X2_judge_3 hhb hww hkk h_1 c_2 c_3 c_4)⟩⟩, hS.F ht⟩) hS.2.2 dX2_judge_49
      · skip
        refine lv_aload_n hx hb dX2_judge_33 rfl (lv_at hl 1 rfl) ?_
        refine lv_iload hx hb dX2_judge_34 (lv_at hl 0 rfl) ?_
        refine va_put (D := (dC, dI)) (ci := 2) (v := .int r_1) (ty := .int) (C := RX2) (T := TX2) (N := 6) hx hb hts i_X2_judge_X2 tyX2 tyX2_ok nmX2 hown hK hP hD hS 0 rfl rfl 4 (by decide) (hts _ mx_X2_judge_1) (fun _ h9 => h9) rfl (by decide +kernel) rfl rfl (Nat.le_of_ble_eq_true rfl) dX2_judge_36 (fun H locs hP hD hS => ?_)
        have hP : va_P (dC, dI) vwCl [(xo_2_riiiii c0 be hrs wa br r_1 bt), (xo_3_iiiiiiiirrrrr h v0 v1 v2 v3 (nI hh) v5 (nI ww) (nI kk) b1 b2 b3 b4 b5), (xI b1 cI 6 g1), (xI b2 cI 6 g2), (xI b3 cI 6 g3), (xI b4 cI 6 g4), (xI b5 cI 6 g5)] H := hP
        have hD := dto hP hD
        refine lv_aload_n hx hb dX2_judge_39 rfl (lv_at hl 1 rfl) ?_
        refine lv_iload_n hx hb dX2_judge_40 rfl (lv_at hl 4 rfl) ?_
        refine va_put (D := (dC, dI)) (ci := 2) (v := .int y) (ty := .int) (C := RX2) (T := TX2) (N := 6) hx hb hts i_X2_judge_X2 tyX2 tyX2_ok nmX2 hown hK hP hD hS 0 rfl rfl 5 (by decide) (hts _ mx_X2_judge_2) (fun _ h9 => h9) rfl (by decide +kernel) rfl rfl (Nat.le_of_ble_eq_true rfl) dX2_judge_41 (fun H locs hP hD hS => ?_)
        have hP : va_P (dC, dI) vwCl [(xo_2_riiiii c0 be hrs wa br r_1 y), (xo_3_iiiiiiiirrrrr h v0 v1 v2 v3 (nI hh) v5 (nI ww) (nI kk) b1 b2 b3 b4 b5), (xI b1 cI 6 g1), (xI b2 cI 6 g2), (xI b3 cI 6 g3), (xI b4 cI 6 g4), (xI b5 cI 6 g5)] H := hP
        have hD := dto hP hD
        refine lv_aload_n hx hb dX2_judge_44 rfl (lv_at hl 1 rfl) ?_
        refine lv_iload_n hx hb dX2_judge_45 rfl (lv_at hl 3 rfl) ?_
        refine va_put (D := (dC, dI)) (ci := 2) (v := .int x) (ty := .int) (C := RX2) (T := TX2) (N := 6) hx hb hts i_X2_judge_X2 tyX2 tyX2_ok nmX2 hown hK hP hD hS 0 rfl rfl 3 (by decide) (hts _ mx_X2_judge_3) (fun _ h9 => h9) rfl (by decide +kernel) rfl rfl (Nat.le_of_ble_eq_true rfl) dX2_judge_46 (fun H locs hP hD hS => ?_)
        have hP : va_P (dC, dI) vwCl [(xo_2_riiiii c0 be hrs wa x r_1 y), (xo_3_iiiiiiiirrrrr h v0 v1 v2 v3 (nI hh) v5 (nI ww) (nI kk) b1 b2 b3 b4 b5), (xI b1 cI 6 g1), (xI b2 cI 6 g2), (xI b3 cI 6 g3), (xI b4 cI 6 g4), (xI b5 cI 6 g5)] H := hP
        have hD := dto hP hD
        have hX9 := cut2 (wc := [(xo_2_riiiii c0 be hrs wa x r_1 y), (xo_3_iiiiiiiirrrrr h v0 v1 v2 v3 (nI hh) v5 (nI ww) (nI kk) b1 b2 b3 b4 b5), (xI b1 cI 6 g1), (xI b2 cI 6 g2), (xI b3 cI 6 g3), (xI b4 cI 6 g4), (xI b5 cI 6 g5)]) hP hD [0, 1, 2, 3, 4, 5, 6] (by decide +kernel) rfl
        exact W.vret hx hb hr (fun t ht hW => ⟨⟨(), rfl, trivial, ⟨x, r_1, y, va_Ht ht hX9.1, hX9.2, (lf_X2_judge_4 hhb hww hkk h_1 c_2 c_3 c_4)⟩⟩, hS.F ht⟩) hS.2.2 dX2_judge_49
theorem lf_X2_tryRows_s_1 {hn : Nat} {wa : Int32} {br : Int32} {bw : Int32} {bt : Int32} {fb : Nat → Option Nat} {ad : Nat → Nat} {V : Nat → Nat → Int32} {G : Nat → Nat → Nat → Int32} {hh : Nat} {ww : Nat} {kk : Nat} {dp : Nat} {x : Int32} {y : Int32} {brn_3 : Int32} {bwn_3 : Int32} {btn_3 : Int32} (hfb : ∀ i : Nat, i < 9 → fb i = some (ad i)) (e4 : V dp 4 = nI hh) (e6 : V dp 6 = nI ww) (e7 : V dp 7 = nI kk) (hhb : hh ≤ 999 + dp) (hww : ww ≤ 6) (hkk : kk ≤ 6) (hdn : dp ≤ hn) (hn8 : hn ≤ 8) (hN : okN (999 + dp) (nrV (V dp) (G dp))) (c_1 : hn ≤ dp) (hF_3_0 : jdX (woX wa (V dp 5) (thR (G dp 4) 1 kk)) x y (bw, bt, br) = (bwn_3, btn_3, brn_3)) : trB wa (hn - dp) (nrV (V dp) (G dp)) x y (bw, bt, br) = (bwn_3, btn_3, brn_3) := by
  first
  | (rw [show hn - dp = 0 by omega]; simp only [trB]; rw [woB_V e7 hkk]; assumption)
  | (rw [show hn - dp = (hn - (dp + 1)) + 1 by omega]; simp only [trB, tnX, nrV6]; grind)
theorem lf_X2_tryRows_s_2 {hn : Nat} {wa : Int32} {br : Int32} {bw : Int32} {bt : Int32} {fb : Nat → Option Nat} {ad : Nat → Nat} {V : Nat → Nat → Int32} {G : Nat → Nat → Nat → Int32} {hh : Nat} {ww : Nat} {kk : Nat} {dp : Nat} {x : Int32} {y : Int32} {f1n_9 : Nat → Int32} {f2n_9 : Nat → Int32} {f3n_9 : Nat → Int32} {f4n_9 : Nat → Int32} {f5n_9 : Nat → Int32} {v5n_11 : Int32} {g3n_11 : Nat → Int32} {g4n_11 : Nat → Int32} {g5n_11 : Nat → Int32} {v_13 : Int32} {v_14 : Int32} {v_15 : Int32} {V_16 : Nat → Nat → Int32} {G_16 : Nat → Nat → Nat → Int32} {Vn_17 : Nat → Nat → Int32} {Gn_17 : Nat → Nat → Nat → Int32} {brn_17 : Int32} {bwn_17 : Int32} {btn_17 : Int32} {f1n_21 : Nat → Int32} {f2n_21 : Nat → Int32} {f3n_21 : Nat → Int32} {f4n_21 : Nat → Int32} {f5n_21 : Nat → Int32} {v5n_23 : Int32} {g3n_23 : Nat → Int32} {g4n_23 : Nat → Int32} {g5n_23 : Nat → Int32} {v_25 : Int32} {v_26 : Int32} {v_27 : Int32} {V_28 : Nat → Nat → Int32} {G_28 : Nat → Nat → Nat → Int32} {Vn_29 : Nat → Nat → Int32} {Gn_29 : Nat → Nat → Nat → Int32} {brn_29 : Int32} {bwn_29 : Int32} {btn_29 : Int32} (hfb : ∀ i : Nat, i < 9 → fb i = some (ad i)) (e4 : V dp 4 = nI hh) (e6 : V dp 6 = nI ww) (e7 : V dp 7 = nI kk) (hhb : hh ≤ 999 + dp) (hww : ww ≤ 6) (hkk : kk ≤ 6) (hdn : dp ≤ hn) (hn8 : hn ≤ 8) (hN : okN (999 + dp) (nrV (V dp) (G dp))) (c_1 : ¬ (hn ≤ dp)) (hF_9_0 : (∀ jq : Nat, jq < 6 → f1n_9 jq = (G dp 0) jq)) (hF_9_1 : (∀ jq : Nat, jq < 6 → f2n_9 jq = (G dp 1) jq)) (hF_9_2 : (∀ jq : Nat, jq < 6 → f3n_9 jq = (G dp 2) jq)) (hF_9_3 : (∀ jq : Nat, jq < 6 → f4n_9 jq = (G dp 3) jq)) (hF_9_4 : (∀ jq : Nat, jq < 6 → f5n_9 jq = (G dp 4) jq)) (c_10 : ¬ ((V dp 3) = 0)) (hF_11_0 : paX (V dp 0) (V dp 1) (V dp 2) 0 f2n_9 (wdX f1n_9 ww hh 0) kk ((V dp 5), f3n_9, f4n_9, f5n_9) = (v5n_11, g3n_11, g4n_11, g5n_11)) (e_13 : v_13 = ((x : Int32) <<< ((1 : Int32) &&& 31))) (e_14 : v_14 = (v_13 ||| 0)) (e_15 : v_15 = (y + 1)) (nx_16 : nrV (V_16 (dp + 1)) (G_16 (dp + 1)) = mH (upd (nrV (V dp) (G dp)) 6 0) ∧ okN (999 + (dp + 1)) (nrV (V_16 (dp + 1)) (G_16 (dp + 1)))) (hF_17_0 : (∀ j : Nat, j < (dp + 1) → Vn_17 j = V_16 j ∧ Gn_17 j = G_16 j)) (hF_17_1 : trB wa (hn - (dp + 1)) (nrV (V_16 (dp + 1)) (G_16 (dp + 1))) v_14 v_15 (bw, bt, br) = (bwn_17, btn_17, brn_17)) (kd_17 : Vn_17 dp = V dp) (hF_21_0 : (∀ jq : Nat, jq < 6 → f1n_21 jq = (Gn_17 dp 0) jq)) (hF_21_1 : (∀ jq : Nat, jq < 6 → f2n_21 jq = (Gn_17 dp 1) jq)) (hF_21_2 : (∀ jq : Nat, jq < 6 → f3n_21 jq = (Gn_17 dp 2) jq)) (hF_21_3 : (∀ jq : Nat, jq < 6 → f4n_21 jq = (Gn_17 dp 3) jq)) (hF_21_4 : (∀ jq : Nat, jq < 6 → f5n_21 jq = (Gn_17 dp 4) jq)) (c_22 : ¬ ((Vn_17 dp 3) = 1)) (hF_23_0 : paX (Vn_17 dp 0) (Vn_17 dp 1) (Vn_17 dp 2) 1 f2n_21 (wdX f1n_21 ww hh 0) kk ((Vn_17 dp 5), f3n_21, f4n_21, f5n_21) = (v5n_23, g3n_23, g4n_23, g5n_23)) (e_25 : v_25 = ((x : Int32) <<< ((1 : Int32) &&& 31))) (e_26 : v_26 = (v_25 ||| 1)) (e_27 : v_27 = (y + 1)) (nx_28 : nrV (V_28 (dp + 1)) (G_28 (dp + 1)) = mH (upd (nrV (V dp) (G dp)) 6 1) ∧ okN (999 + (dp + 1)) (nrV (V_28 (dp + 1)) (G_28 (dp + 1)))) (hF_29_0 : (∀ j : Nat, j < (dp + 1) → Vn_29 j = V_28 j ∧ Gn_29 j = G_28 j)) (hF_29_1 : trB wa (hn - (dp + 1)) (nrV (V_28 (dp + 1)) (G_28 (dp + 1))) v_26 v_27 (bwn_17, btn_17, brn_17) = (bwn_29, btn_29, brn_29)) (kd_29 : Vn_29 dp = V dp) : trB wa (hn - dp) (nrV (V dp) (G dp)) x y (bw, bt, br) = (bwn_29, btn_29, brn_29) := by
  first
  | (rw [show hn - dp = 0 by omega]; simp only [trB]; rw [woB_V e7 hkk]; assumption)
  | (rw [show hn - dp = (hn - (dp + 1)) + 1 by omega]; simp only [trB, tnX, nrV6]; grind)
theorem lf_X2_tryRows_s_3 {hn : Nat} {wa : Int32} {br : Int32} {bw : Int32} {bt : Int32} {fb : Nat → Option Nat} {ad : Nat → Nat} {V : Nat → Nat → Int32} {G : Nat → Nat → Nat → Int32} {hh : Nat} {ww : Nat} {kk : Nat} {dp : Nat} {x : Int32} {y : Int32} {f1n_9 : Nat → Int32} {f2n_9 : Nat → Int32} {f3n_9 : Nat → Int32} {f4n_9 : Nat → Int32} {f5n_9 : Nat → Int32} {v5n_11 : Int32} {g3n_11 : Nat → Int32} {g4n_11 : Nat → Int32} {g5n_11 : Nat → Int32} {v_13 : Int32} {v_14 : Int32} {v_15 : Int32} {V_16 : Nat → Nat → Int32} {G_16 : Nat → Nat → Nat → Int32} {Vn_17 : Nat → Nat → Int32} {Gn_17 : Nat → Nat → Nat → Int32} {brn_17 : Int32} {bwn_17 : Int32} {btn_17 : Int32} {f1n_21 : Nat → Int32} {f2n_21 : Nat → Int32} {f3n_21 : Nat → Int32} {f4n_21 : Nat → Int32} {f5n_21 : Nat → Int32} {v5n_31 : Int32} {g3n_31 : Nat → Int32} {g4n_31 : Nat → Int32} {g5n_31 : Nat → Int32} {v_33 : Int32} {v_34 : Int32} {v_35 : Int32} {V_36 : Nat → Nat → Int32} {G_36 : Nat → Nat → Nat → Int32} {Vn_37 : Nat → Nat → Int32} {Gn_37 : Nat → Nat → Nat → Int32} {brn_37 : Int32} {bwn_37 : Int32} {btn_37 : Int32} (hfb : ∀ i : Nat, i < 9 → fb i = some (ad i)) (e4 : V dp 4 = nI hh) (e6 : V dp 6 = nI ww) (e7 : V dp 7 = nI kk) (hhb : hh ≤ 999 + dp) (hww : ww ≤ 6) (hkk : kk ≤ 6) (hdn : dp ≤ hn) (hn8 : hn ≤ 8) (hN : okN (999 + dp) (nrV (V dp) (G dp))) (c_1 : ¬ (hn ≤ dp)) (hF_9_0 : (∀ jq : Nat, jq < 6 → f1n_9 jq = (G dp 0) jq)) (hF_9_1 : (∀ jq : Nat, jq < 6 → f2n_9 jq = (G dp 1) jq)) (hF_9_2 : (∀ jq : Nat, jq < 6 → f3n_9 jq = (G dp 2) jq)) (hF_9_3 : (∀ jq : Nat, jq < 6 → f4n_9 jq = (G dp 3) jq)) (hF_9_4 : (∀ jq : Nat, jq < 6 → f5n_9 jq = (G dp 4) jq)) (c_10 : ¬ ((V dp 3) = 0)) (hF_11_0 : paX (V dp 0) (V dp 1) (V dp 2) 0 f2n_9 (wdX f1n_9 ww hh 0) kk ((V dp 5), f3n_9, f4n_9, f5n_9) = (v5n_11, g3n_11, g4n_11, g5n_11)) (e_13 : v_13 = ((x : Int32) <<< ((1 : Int32) &&& 31))) (e_14 : v_14 = (v_13 ||| 0)) (e_15 : v_15 = (y + 1)) (nx_16 : nrV (V_16 (dp + 1)) (G_16 (dp + 1)) = mH (upd (nrV (V dp) (G dp)) 6 0) ∧ okN (999 + (dp + 1)) (nrV (V_16 (dp + 1)) (G_16 (dp + 1)))) (hF_17_0 : (∀ j : Nat, j < (dp + 1) → Vn_17 j = V_16 j ∧ Gn_17 j = G_16 j)) (hF_17_1 : trB wa (hn - (dp + 1)) (nrV (V_16 (dp + 1)) (G_16 (dp + 1))) v_14 v_15 (bw, bt, br) = (bwn_17, btn_17, brn_17)) (kd_17 : Vn_17 dp = V dp) (hF_21_0 : (∀ jq : Nat, jq < 6 → f1n_21 jq = (Gn_17 dp 0) jq)) (hF_21_1 : (∀ jq : Nat, jq < 6 → f2n_21 jq = (Gn_17 dp 1) jq)) (hF_21_2 : (∀ jq : Nat, jq < 6 → f3n_21 jq = (Gn_17 dp 2) jq)) (hF_21_3 : (∀ jq : Nat, jq < 6 → f4n_21 jq = (Gn_17 dp 3) jq)) (hF_21_4 : (∀ jq : Nat, jq < 6 → f5n_21 jq = (Gn_17 dp 4) jq)) (c_22 : (Vn_17 dp 3) = 1) (hF_31_0 : paX (Vn_17 dp 0) (Vn_17 dp 1) (Vn_17 dp 2) 1 f2n_21 (wdX f1n_21 ww hh 0) kk ((Vn_17 dp 5), f3n_21, f4n_21, f5n_21) = (v5n_31, g3n_31, g4n_31, g5n_31)) (e_33 : v_33 = ((x : Int32) <<< ((1 : Int32) &&& 31))) (e_34 : v_34 = (v_33 ||| 1)) (e_35 : v_35 = (y + 0)) (nx_36 : nrV (V_36 (dp + 1)) (G_36 (dp + 1)) = mH (upd (nrV (V dp) (G dp)) 6 1) ∧ okN (999 + (dp + 1)) (nrV (V_36 (dp + 1)) (G_36 (dp + 1)))) (hF_37_0 : (∀ j : Nat, j < (dp + 1) → Vn_37 j = V_36 j ∧ Gn_37 j = G_36 j)) (hF_37_1 : trB wa (hn - (dp + 1)) (nrV (V_36 (dp + 1)) (G_36 (dp + 1))) v_34 v_35 (bwn_17, btn_17, brn_17) = (bwn_37, btn_37, brn_37)) (kd_37 : Vn_37 dp = V dp) : trB wa (hn - dp) (nrV (V dp) (G dp)) x y (bw, bt, br) = (bwn_37, btn_37, brn_37) := by
  first
  | (rw [show hn - dp = 0 by omega]; simp only [trB]; rw [woB_V e7 hkk]; assumption)
  | (rw [show hn - dp = (hn - (dp + 1)) + 1 by omega]; simp only [trB, tnX, nrV6]; grind)
theorem lf_X2_tryRows_s_4 {hn : Nat} {wa : Int32} {br : Int32} {bw : Int32} {bt : Int32} {fb : Nat → Option Nat} {ad : Nat → Nat} {V : Nat → Nat → Int32} {G : Nat → Nat → Nat → Int32} {hh : Nat} {ww : Nat} {kk : Nat} {dp : Nat} {x : Int32} {y : Int32} {f1n_9 : Nat → Int32} {f2n_9 : Nat → Int32} {f3n_9 : Nat → Int32} {f4n_9 : Nat → Int32} {f5n_9 : Nat → Int32} {v5n_39 : Int32} {g3n_39 : Nat → Int32} {g4n_39 : Nat → Int32} {g5n_39 : Nat → Int32} {v_41 : Int32} {v_42 : Int32} {v_43 : Int32} {V_44 : Nat → Nat → Int32} {G_44 : Nat → Nat → Nat → Int32} {Vn_45 : Nat → Nat → Int32} {Gn_45 : Nat → Nat → Nat → Int32} {brn_45 : Int32} {bwn_45 : Int32} {btn_45 : Int32} {f1n_49 : Nat → Int32} {f2n_49 : Nat → Int32} {f3n_49 : Nat → Int32} {f4n_49 : Nat → Int32} {f5n_49 : Nat → Int32} {v5n_51 : Int32} {g3n_51 : Nat → Int32} {g4n_51 : Nat → Int32} {g5n_51 : Nat → Int32} {v_53 : Int32} {v_54 : Int32} {v_55 : Int32} {V_56 : Nat → Nat → Int32} {G_56 : Nat → Nat → Nat → Int32} {Vn_57 : Nat → Nat → Int32} {Gn_57 : Nat → Nat → Nat → Int32} {brn_57 : Int32} {bwn_57 : Int32} {btn_57 : Int32} (hfb : ∀ i : Nat, i < 9 → fb i = some (ad i)) (e4 : V dp 4 = nI hh) (e6 : V dp 6 = nI ww) (e7 : V dp 7 = nI kk) (hhb : hh ≤ 999 + dp) (hww : ww ≤ 6) (hkk : kk ≤ 6) (hdn : dp ≤ hn) (hn8 : hn ≤ 8) (hN : okN (999 + dp) (nrV (V dp) (G dp))) (c_1 : ¬ (hn ≤ dp)) (hF_9_0 : (∀ jq : Nat, jq < 6 → f1n_9 jq = (G dp 0) jq)) (hF_9_1 : (∀ jq : Nat, jq < 6 → f2n_9 jq = (G dp 1) jq)) (hF_9_2 : (∀ jq : Nat, jq < 6 → f3n_9 jq = (G dp 2) jq)) (hF_9_3 : (∀ jq : Nat, jq < 6 → f4n_9 jq = (G dp 3) jq)) (hF_9_4 : (∀ jq : Nat, jq < 6 → f5n_9 jq = (G dp 4) jq)) (c_10 : (V dp 3) = 0) (hF_39_0 : paX (V dp 0) (V dp 1) (V dp 2) 0 f2n_9 (wdX f1n_9 ww hh 0) kk ((V dp 5), f3n_9, f4n_9, f5n_9) = (v5n_39, g3n_39, g4n_39, g5n_39)) (e_41 : v_41 = ((x : Int32) <<< ((1 : Int32) &&& 31))) (e_42 : v_42 = (v_41 ||| 0)) (e_43 : v_43 = (y + 0)) (nx_44 : nrV (V_44 (dp + 1)) (G_44 (dp + 1)) = mH (upd (nrV (V dp) (G dp)) 6 0) ∧ okN (999 + (dp + 1)) (nrV (V_44 (dp + 1)) (G_44 (dp + 1)))) (hF_45_0 : (∀ j : Nat, j < (dp + 1) → Vn_45 j = V_44 j ∧ Gn_45 j = G_44 j)) (hF_45_1 : trB wa (hn - (dp + 1)) (nrV (V_44 (dp + 1)) (G_44 (dp + 1))) v_42 v_43 (bw, bt, br) = (bwn_45, btn_45, brn_45)) (kd_45 : Vn_45 dp = V dp) (hF_49_0 : (∀ jq : Nat, jq < 6 → f1n_49 jq = (Gn_45 dp 0) jq)) (hF_49_1 : (∀ jq : Nat, jq < 6 → f2n_49 jq = (Gn_45 dp 1) jq)) (hF_49_2 : (∀ jq : Nat, jq < 6 → f3n_49 jq = (Gn_45 dp 2) jq)) (hF_49_3 : (∀ jq : Nat, jq < 6 → f4n_49 jq = (Gn_45 dp 3) jq)) (hF_49_4 : (∀ jq : Nat, jq < 6 → f5n_49 jq = (Gn_45 dp 4) jq)) (c_50 : ¬ ((Vn_45 dp 3) = 1)) (hF_51_0 : paX (Vn_45 dp 0) (Vn_45 dp 1) (Vn_45 dp 2) 1 f2n_49 (wdX f1n_49 ww hh 0) kk ((Vn_45 dp 5), f3n_49, f4n_49, f5n_49) = (v5n_51, g3n_51, g4n_51, g5n_51)) (e_53 : v_53 = ((x : Int32) <<< ((1 : Int32) &&& 31))) (e_54 : v_54 = (v_53 ||| 1)) (e_55 : v_55 = (y + 1)) (nx_56 : nrV (V_56 (dp + 1)) (G_56 (dp + 1)) = mH (upd (nrV (V dp) (G dp)) 6 1) ∧ okN (999 + (dp + 1)) (nrV (V_56 (dp + 1)) (G_56 (dp + 1)))) (hF_57_0 : (∀ j : Nat, j < (dp + 1) → Vn_57 j = V_56 j ∧ Gn_57 j = G_56 j)) (hF_57_1 : trB wa (hn - (dp + 1)) (nrV (V_56 (dp + 1)) (G_56 (dp + 1))) v_54 v_55 (bwn_45, btn_45, brn_45) = (bwn_57, btn_57, brn_57)) (kd_57 : Vn_57 dp = V dp) : trB wa (hn - dp) (nrV (V dp) (G dp)) x y (bw, bt, br) = (bwn_57, btn_57, brn_57) := by
  first
  | (rw [show hn - dp = 0 by omega]; simp only [trB]; rw [woB_V e7 hkk]; assumption)
  | (rw [show hn - dp = (hn - (dp + 1)) + 1 by omega]; simp only [trB, tnX, nrV6]; grind)
theorem lf_X2_tryRows_s_5 {hn : Nat} {wa : Int32} {br : Int32} {bw : Int32} {bt : Int32} {fb : Nat → Option Nat} {ad : Nat → Nat} {V : Nat → Nat → Int32} {G : Nat → Nat → Nat → Int32} {hh : Nat} {ww : Nat} {kk : Nat} {dp : Nat} {x : Int32} {y : Int32} {f1n_9 : Nat → Int32} {f2n_9 : Nat → Int32} {f3n_9 : Nat → Int32} {f4n_9 : Nat → Int32} {f5n_9 : Nat → Int32} {v5n_39 : Int32} {g3n_39 : Nat → Int32} {g4n_39 : Nat → Int32} {g5n_39 : Nat → Int32} {v_41 : Int32} {v_42 : Int32} {v_43 : Int32} {V_44 : Nat → Nat → Int32} {G_44 : Nat → Nat → Nat → Int32} {Vn_45 : Nat → Nat → Int32} {Gn_45 : Nat → Nat → Nat → Int32} {brn_45 : Int32} {bwn_45 : Int32} {btn_45 : Int32} {f1n_49 : Nat → Int32} {f2n_49 : Nat → Int32} {f3n_49 : Nat → Int32} {f4n_49 : Nat → Int32} {f5n_49 : Nat → Int32} {v5n_59 : Int32} {g3n_59 : Nat → Int32} {g4n_59 : Nat → Int32} {g5n_59 : Nat → Int32} {v_61 : Int32} {v_62 : Int32} {v_63 : Int32} {V_64 : Nat → Nat → Int32} {G_64 : Nat → Nat → Nat → Int32} {Vn_65 : Nat → Nat → Int32} {Gn_65 : Nat → Nat → Nat → Int32} {brn_65 : Int32} {bwn_65 : Int32} {btn_65 : Int32} (hfb : ∀ i : Nat, i < 9 → fb i = some (ad i)) (e4 : V dp 4 = nI hh) (e6 : V dp 6 = nI ww) (e7 : V dp 7 = nI kk) (hhb : hh ≤ 999 + dp) (hww : ww ≤ 6) (hkk : kk ≤ 6) (hdn : dp ≤ hn) (hn8 : hn ≤ 8) (hN : okN (999 + dp) (nrV (V dp) (G dp))) (c_1 : ¬ (hn ≤ dp)) (hF_9_0 : (∀ jq : Nat, jq < 6 → f1n_9 jq = (G dp 0) jq)) (hF_9_1 : (∀ jq : Nat, jq < 6 → f2n_9 jq = (G dp 1) jq)) (hF_9_2 : (∀ jq : Nat, jq < 6 → f3n_9 jq = (G dp 2) jq)) (hF_9_3 : (∀ jq : Nat, jq < 6 → f4n_9 jq = (G dp 3) jq)) (hF_9_4 : (∀ jq : Nat, jq < 6 → f5n_9 jq = (G dp 4) jq)) (c_10 : (V dp 3) = 0) (hF_39_0 : paX (V dp 0) (V dp 1) (V dp 2) 0 f2n_9 (wdX f1n_9 ww hh 0) kk ((V dp 5), f3n_9, f4n_9, f5n_9) = (v5n_39, g3n_39, g4n_39, g5n_39)) (e_41 : v_41 = ((x : Int32) <<< ((1 : Int32) &&& 31))) (e_42 : v_42 = (v_41 ||| 0)) (e_43 : v_43 = (y + 0)) (nx_44 : nrV (V_44 (dp + 1)) (G_44 (dp + 1)) = mH (upd (nrV (V dp) (G dp)) 6 0) ∧ okN (999 + (dp + 1)) (nrV (V_44 (dp + 1)) (G_44 (dp + 1)))) (hF_45_0 : (∀ j : Nat, j < (dp + 1) → Vn_45 j = V_44 j ∧ Gn_45 j = G_44 j)) (hF_45_1 : trB wa (hn - (dp + 1)) (nrV (V_44 (dp + 1)) (G_44 (dp + 1))) v_42 v_43 (bw, bt, br) = (bwn_45, btn_45, brn_45)) (kd_45 : Vn_45 dp = V dp) (hF_49_0 : (∀ jq : Nat, jq < 6 → f1n_49 jq = (Gn_45 dp 0) jq)) (hF_49_1 : (∀ jq : Nat, jq < 6 → f2n_49 jq = (Gn_45 dp 1) jq)) (hF_49_2 : (∀ jq : Nat, jq < 6 → f3n_49 jq = (Gn_45 dp 2) jq)) (hF_49_3 : (∀ jq : Nat, jq < 6 → f4n_49 jq = (Gn_45 dp 3) jq)) (hF_49_4 : (∀ jq : Nat, jq < 6 → f5n_49 jq = (Gn_45 dp 4) jq)) (c_50 : (Vn_45 dp 3) = 1) (hF_59_0 : paX (Vn_45 dp 0) (Vn_45 dp 1) (Vn_45 dp 2) 1 f2n_49 (wdX f1n_49 ww hh 0) kk ((Vn_45 dp 5), f3n_49, f4n_49, f5n_49) = (v5n_59, g3n_59, g4n_59, g5n_59)) (e_61 : v_61 = ((x : Int32) <<< ((1 : Int32) &&& 31))) (e_62 : v_62 = (v_61 ||| 1)) (e_63 : v_63 = (y + 0)) (nx_64 : nrV (V_64 (dp + 1)) (G_64 (dp + 1)) = mH (upd (nrV (V dp) (G dp)) 6 1) ∧ okN (999 + (dp + 1)) (nrV (V_64 (dp + 1)) (G_64 (dp + 1)))) (hF_65_0 : (∀ j : Nat, j < (dp + 1) → Vn_65 j = V_64 j ∧ Gn_65 j = G_64 j)) (hF_65_1 : trB wa (hn - (dp + 1)) (nrV (V_64 (dp + 1)) (G_64 (dp + 1))) v_62 v_63 (bwn_45, btn_45, brn_45) = (bwn_65, btn_65, brn_65)) (kd_65 : Vn_65 dp = V dp) : trB wa (hn - dp) (nrV (V dp) (G dp)) x y (bw, bt, br) = (bwn_65, btn_65, brn_65) := by
  first
  | (rw [show hn - dp = 0 by omega]; simp only [trB]; rw [woB_V e7 hkk]; assumption)
  | (rw [show hn - dp = (hn - (dp + 1)) + 1 by omega]; simp only [trB, tnX, nrV6]; grind)
set_option maxHeartbeats 4000000 in
set_option maxRecDepth 100000 in
theorem r_X2_tryRows_s (l : Launch) (dC : Nat → ClassId) (dI : Nat → Nat → Nat) (cI cZ cL cJ : ClassId) (sz : Nat) (c0 : Nat) (be : Nat) (hn : Nat) (wa : Int32) (br : Int32) (bw : Int32) (bt : Int32) (fb : Nat → Option Nat) (ad : Nat → Nat) (bd : Nat → Nat → Nat) (V : Nat → Nat → Int32) (G : Nat → Nat → Nat → Int32) (hh : Nat) (ww : Nat) (kk : Nat) (dp : Nat) (x : Int32) (y : Int32) (hfb : ∀ i : Nat, i < 9 → fb i = some (ad i)) (e4 : V dp 4 = nI hh) (e6 : V dp 6 = nI ww) (e7 : V dp 7 = nI kk) (hhb : hh ≤ 999 + dp) (hww : ww ≤ 6) (hkk : kk ≤ 6) (hdn : dp ≤ hn) (hn8 : hn ≤ 8) (hN : okN (999 + dp) (nrV (V dp) (G dp))) (IH : ∀ (l : Launch) (dC : Nat → ClassId) (dI : Nat → Nat → Nat) (cI cZ cL cJ : ClassId) (sz : Nat) (c0 : Nat) (be : Nat) (hn : Nat) (wa : Int32) (br : Int32) (bw : Int32) (bt : Int32) (fb : Nat → Option Nat) (ad : Nat → Nat) (bd : Nat → Nat → Nat) (V : Nat → Nat → Int32) (G : Nat → Nat → Nat → Int32) (hh : Nat) (ww : Nat) (kk : Nat) (x : Int32) (y : Int32) (hfb : ∀ i : Nat, i < 9 → fb i = some (ad i)) (e4 : V (dp + 1) 4 = nI hh) (e6 : V (dp + 1) 6 = nI ww) (e7 : V (dp + 1) 7 = nI kk) (hhb : hh ≤ 999 + (dp + 1)) (hww : ww ≤ 6) (hkk : kk ≤ 6) (hdn : (dp + 1) ≤ hn) (hn8 : hn ≤ 8) (hN : okN (999 + (dp + 1)) (nrV (V (dp + 1)) (G (dp + 1)))), Met l yX2_tryRows wsX2_tryRows ({ frames := 14 - (dp + 1), cells := 0, slots := 0, locals := 3000 - 200 * (dp + 1) }) (va_Pc [.ref c0, .int (nI (dp + 1)), .int x, .int y] (fun U => U.heap.size = sz ∧ va_P (dC, dI) vwCl (([(xo_2_riiiii c0 be (nI hn) wa br bw bt), (xJ be cL 9 fb)] : va_W) ++ lvs cI 9 ad bd V G) U.heap ∧ va_K (dC, dI) vwCl [(cI, .int), (cZ, .boolean), (cL, .object RX3), (cJ, .array .int)] U ∧ va_D (fun _ => True) (([(xo_2_riiiii c0 be (nI hn) wa br bw bt), (xJ be cL 9 fb)] : va_W) ++ lvs cI 9 ad bd V G))) (va_Qv (fun (_ : Unit) => True) (fun (_ : Unit) t => ∃ (Vn : Nat → Nat → Int32) (Gn : Nat → Nat → Nat → Int32) (brn : Int32) (bwn : Int32) (btn : Int32), va_P (dC, dI) vwCl (([(xo_2_riiiii c0 be (nI hn) wa brn bwn btn), (xJ be cL 9 fb)] : va_W) ++ lvs cI 9 ad bd Vn Gn) t.heap ∧ va_D (va_A (([(xo_2_riiiii c0 be (nI hn) wa br bw bt), (xJ be cL 9 fb)] : va_W) ++ lvs cI 9 ad bd V G) sz) (([(xo_2_riiiii c0 be (nI hn) wa brn bwn btn), (xJ be cL 9 fb)] : va_W) ++ lvs cI 9 ad bd Vn Gn) ∧ (∀ j : Nat, j < (dp + 1) → Vn j = V j ∧ Gn j = G j) ∧ trB wa (hn - (dp + 1)) (nrV (V (dp + 1)) (G (dp + 1))) x y (bw, bt, br) = (bwn, btn, brn)) (va_A (([(xo_2_riiiii c0 be (nI hn) wa br bw bt), (xJ be cL 9 fb)] : va_W) ++ lvs cI 9 ad bd V G) sz)) 0 0 (va_A (([(xo_2_riiiii c0 be (nI hn) wa br bw bt), (xJ be cL 9 fb)] : va_W) ++ lvs cI 9 ad bd V G) sz)) : Met l yX2_tryRows wsX2_tryRows ({ frames := 14 - dp, cells := 0, slots := 0, locals := 3000 - 200 * dp }) (va_Pc [.ref c0, .int (nI dp), .int x, .int y] (fun U => U.heap.size = sz ∧ va_P (dC, dI) vwCl (([(xo_2_riiiii c0 be (nI hn) wa br bw bt), (xJ be cL 9 fb)] : va_W) ++ lvs cI 9 ad bd V G) U.heap ∧ va_K (dC, dI) vwCl [(cI, .int), (cZ, .boolean), (cL, .object RX3), (cJ, .array .int)] U ∧ va_D (fun _ => True) (([(xo_2_riiiii c0 be (nI hn) wa br bw bt), (xJ be cL 9 fb)] : va_W) ++ lvs cI 9 ad bd V G))) (va_Qv (fun (_ : Unit) => True) (fun (_ : Unit) t => ∃ (Vn : Nat → Nat → Int32) (Gn : Nat → Nat → Nat → Int32) (brn : Int32) (bwn : Int32) (btn : Int32), va_P (dC, dI) vwCl (([(xo_2_riiiii c0 be (nI hn) wa brn bwn btn), (xJ be cL 9 fb)] : va_W) ++ lvs cI 9 ad bd Vn Gn) t.heap ∧ va_D (va_A (([(xo_2_riiiii c0 be (nI hn) wa br bw bt), (xJ be cL 9 fb)] : va_W) ++ lvs cI 9 ad bd V G) sz) (([(xo_2_riiiii c0 be (nI hn) wa brn bwn btn), (xJ be cL 9 fb)] : va_W) ++ lvs cI 9 ad bd Vn Gn) ∧ (∀ j : Nat, j < dp → Vn j = V j ∧ Gn j = G j) ∧ trB wa (hn - dp) (nrV (V dp) (G dp)) x y (bw, bt, br) = (bwn, btn, brn)) (va_A (([(xo_2_riiiii c0 be (nI hn) wa br bw bt), (xJ be cL 9 fb)] : va_W) ++ lvs cI 9 ad bd V G) sz)) 0 0 (va_A (([(xo_2_riiiii c0 be (nI hn) wa br bw bt), (xJ be cL 9 fb)] : va_W) ++ lvs cI 9 ad bd V G) sz) := by
  refine Met.ofW (cc := cX2_tryRows) (maxL := 7) (ret := none) (by decide) rfl ?_
  intro p e s m args below meth c s₁ B hml hv
  obtain ⟨rfl, hsz, hP, hK, hD0⟩ := hv
  have hx := B.exec
  have hb := B.bytes
  have hr := B.returns
  have hts := atoms_spec (ws := wsX2_tryRows) B.pre
  have hown : s.vm.findClass RX2 = some m.cls := findClass_of_methodNamed B.named
  have hlocks := B.notSynchronized
  subst hsz
  have hD := hD0.self (sz := s.heap.size)
  generalize hAe : va_A (([(xo_2_riiiii c0 be (nI hn) wa br bw bt), (xJ be cL 9 fb)] : va_W) ++ lvs cI 9 ad bd V G) s.heap.size = A at hD ⊢
  have hA : ∀ q : Nat, s.heap.size ≤ q → A q := fun q h => by rw [← hAe]; exact Or.inr h
  have hS : va_S A s.heap s.heap [] := va_S.rf
  have hP : va_P (dC, dI) vwCl (([(xo_2_riiiii c0 be (nI hn) wa br bw bt), (xJ be cL 9 fb)] : va_W) ++ lvs cI 9 ad bd V G) s.heap := hP
  have hl := lv_entry ([.ref c0, .int (nI dp), .int x, .int y]) (n := 7) (Nat.le_of_ble_eq_true rfl)
  rw [lg_entry_eq]
  generalize (lg_sl ([.ref c0, .int (nI dp), .int x, .int y]) ++ List.replicate (7 - (lg_sl ([.ref c0, .int (nI dp), .int x, .int y])).length) Slot.unset).toArray = ls at hl ⊢
  have hl : lv_has ls 7 [(0, .ref c0), (1, .int (nI dp)), (2, .int x), (3, .int y)] := hl
  refine lv_iload_n hx hb dX2_tryRows_0 rfl (lv_at hl 1 rfl) ?_
  refine lv_aload_n hx hb dX2_tryRows_1 rfl (lv_at hl 0 rfl) ?_
  refine va_get (D := (dC, dI)) (ci := 2) (v := .int (nI hn)) (C := RX2) (T := TX2) (N := 6) hx hb hts i_X2_tryRows_X2 hown hK hP 0 rfl rfl 1 (by decide) (hts _ mx_X2_tryRows_1) (fun _ h9 => h9) rfl dX2_tryRows_2 ?_
  refine lv_icmp_ge (tgt := 14) hx hb dX2_tryRows_5 (by decide) (fun c_1 => ?_) (fun c_1 => ?_)
  · have c_1 : hn ≤ dp := (nI_leI (a := hn) (b := dp) (by omega) (by omega)).mp c_1
    refine lv_aload_n hx hb dX2_tryRows_14 rfl (lv_at hl 0 rfl) ?_
    refine lv_aload_n hx hb dX2_tryRows_15 rfl (lv_at hl 0 rfl) ?_
    refine va_get (D := (dC, dI)) (ci := 2) (v := .ref be) (C := RX2) (T := TX2) (N := 6) hx hb hts i_X2_tryRows_X2 hown hK hP 0 rfl rfl 0 (by decide) (hts _ mx_X2_tryRows_2) (fun _ h9 => h9) rfl dX2_tryRows_16 ?_
    refine lv_iload_n hx hb dX2_tryRows_19 rfl (lv_at hl 1 rfl) ?_
    refine va_aldq hx hb hK hP 1 2 rfl rfl (vp_in_nI (by omega) (by omega)) dX2_tryRows_20 ?_
    refine W.eq (g2 := F0 m 21 ls (.ref (ad dp) :: [.ref c0])) (by show F0 m 21 ls (va_rf (fb (nI dp).toNatClampNeg) :: _) = _; rw [nI_clamp (by omega), hfb _ (by omega)]; rfl) ?_
    obtain ⟨pl_2, hP, hD, hbP_2, hbD_2⟩ := blk_opn hP hD (i := dp) (by omega)
    have hP : va_P (dC, dI) vwCl (([(xo_2_riiiii c0 be (nI hn) wa br bw bt), (xJ be cL 9 fb), (xo_3_iiiiiiiirrrrr (ad dp) (V dp 0) (V dp 1) (V dp 2) (V dp 3) (V dp 4) (V dp 5) (V dp 6) (V dp 7) (bd dp 0) (bd dp 1) (bd dp 2) (bd dp 3) (bd dp 4)), (xI (bd dp 0) cI 6 (G dp 0)), (xI (bd dp 1) cI 6 (G dp 1)), (xI (bd dp 2) cI 6 (G dp 2)), (xI (bd dp 3) cI 6 (G dp 3)), (xI (bd dp 4) cI 6 (G dp 4))] : va_W) ++ pl_2) s.heap := hP
    have hD : va_D A (([(xo_2_riiiii c0 be (nI hn) wa br bw bt), (xJ be cL 9 fb), (xo_3_iiiiiiiirrrrr (ad dp) (V dp 0) (V dp 1) (V dp 2) (V dp 3) (V dp 4) (V dp 5) (V dp 6) (V dp 7) (bd dp 0) (bd dp 1) (bd dp 2) (bd dp 3) (bd dp 4)), (xI (bd dp 0) cI 6 (G dp 0)), (xI (bd dp 1) cI 6 (G dp 1)), (xI (bd dp 2) cI 6 (G dp 2)), (xI (bd dp 3) cI 6 (G dp 3)), (xI (bd dp 4) cI 6 (G dp 4))] : va_W) ++ pl_2) := hD
    rw [e4, e6, e7] at hP hD
    refine lv_iload_n hx hb dX2_tryRows_21 rfl (lv_at hl 2 rfl) ?_
    refine lv_iload_n hx hb dX2_tryRows_22 rfl (lv_at hl 3 rfl) ?_
    have hc_3 := cutX (wc := [(xo_2_riiiii c0 be (nI hn) wa br bw bt), (xo_3_iiiiiiiirrrrr (ad dp) (V dp 0) (V dp 1) (V dp 2) (V dp 3) (nI hh) (V dp 5) (nI ww) (nI kk) (bd dp 0) (bd dp 1) (bd dp 2) (bd dp 3) (bd dp 4)), (xI (bd dp 0) cI 6 (G dp 0)), (xI (bd dp 1) cI 6 (G dp 1)), (xI (bd dp 2) cI 6 (G dp 2)), (xI (bd dp 3) cI 6 (G dp 3)), (xI (bd dp 4) cI 6 (G dp 4))]) hP hD hS hA [0, 2, 3, 4, 5, 6, 7] (by decide +kernel) rfl
    refine va_callv (va_runV (As := [.ref (ad dp), .int x, .int y]) (rest := []) ⟨hx, hb, hml, hown, hts⟩ (r_X2_judge l dC dI cI cZ cL cJ s.heap.size c0 be (nI hn) wa br bw bt (ad dp) (V dp 0) (V dp 1) (V dp 2) (V dp 3) (V dp 5) hh ww kk (bd dp 0) (bd dp 1) (bd dp 2) (bd dp 3) (bd dp 4) (G dp 0) (G dp 1) (G dp 2) (G dp 3) (G dp 4) x y (by omega) (hww) (hkk)) (cwV 3 hts gX2_tryRows_X2_judge rfl rfl rfl (by decide +kernel) ⟨by show 2 + 1 ≤ 14 - dp; omega, by show 8 + (5 + 11) + 44 ≤ 3000 - 200 * dp; omega⟩) (pvW 2 0 hK hP rfl rfl hc_3) rfl rfl hl.1 rfl (lv_room (Nat.le_of_ble_eq_true rfl)) dX2_tryRows_23 ⟨Nat.le_of_ble_eq_true rfl, Nat.le_of_ble_eq_true rfl⟩) hS (fun q _ h => hc_3.2.2 q h) hc_3.2.2 (fun u_3 t_3 H1 locs ht hvm h_3 hB hz1 hk1 hS => ?_)
    refine xl_3_3 hB (fun brn_3 bwn_3 btn_3 hP1 hD1 hF_3_0 => ?_)
    clear hB
    rw [ht] at hP1
    obtain ⟨hP, hD⟩ := va_joinQ (wr := [(xJ be cL 9 fb)]) (w1 := [(xo_2_riiiii c0 be (nI hn) wa brn_3 bwn_3 btn_3), (xo_3_iiiiiiiirrrrr (ad dp) (V dp 0) (V dp 1) (V dp 2) (V dp 3) (nI hh) (V dp 5) (nI ww) (nI kk) (bd dp 0) (bd dp 1) (bd dp 2) (bd dp 3) (bd dp 4)), (xI (bd dp 0) cI 6 (G dp 0)), (xI (bd dp 1) cI 6 (G dp 1)), (xI (bd dp 2) cI 6 (G dp 2)), (xI (bd dp 3) cI 6 (G dp 3)), (xI (bd dp 4) cI 6 (G dp 4))]) hP hD [0, 2, 3, 4, 5, 6, 7] [1] rfl rfl (by decide +kernel) (by decide +kernel) hk1 hc_3.2.2 hP1 hD1
    generalize H1 = H at hP hS ⊢
    have hP : va_P (dC, dI) vwCl (([(xJ be cL 9 fb), (xo_2_riiiii c0 be (nI hn) wa brn_3 bwn_3 btn_3), (xo_3_iiiiiiiirrrrr (ad dp) (V dp 0) (V dp 1) (V dp 2) (V dp 3) (nI hh) (V dp 5) (nI ww) (nI kk) (bd dp 0) (bd dp 1) (bd dp 2) (bd dp 3) (bd dp 4)), (xI (bd dp 0) cI 6 (G dp 0)), (xI (bd dp 1) cI 6 (G dp 1)), (xI (bd dp 2) cI 6 (G dp 2)), (xI (bd dp 3) cI 6 (G dp 3)), (xI (bd dp 4) cI 6 (G dp 4))] : va_W) ++ pl_2) H := hP
    have hD := dto hP hD
    have hP := hbP_2 [(xJ be cL 9 fb), (xo_2_riiiii c0 be (nI hn) wa brn_3 bwn_3 btn_3)] ((V dp 0)) ((V dp 1)) ((V dp 2)) ((V dp 3)) ((nI hh)) ((V dp 5)) ((nI ww)) ((nI kk)) ((G dp 0)) ((G dp 1)) ((G dp 2)) ((G dp 3)) ((G dp 4)) _ (hP.part (cx := (([(xJ be cL 9 fb), (xo_2_riiiii c0 be (nI hn) wa brn_3 bwn_3 btn_3)] : va_W) ++ ([(xo_3_iiiiiiiirrrrr (ad dp) (V dp 0) (V dp 1) (V dp 2) (V dp 3) (nI hh) (V dp 5) (nI ww) (nI kk) (bd dp 0) (bd dp 1) (bd dp 2) (bd dp 3) (bd dp 4)), (xI (bd dp 0) cI 6 (G dp 0)), (xI (bd dp 1) cI 6 (G dp 1)), (xI (bd dp 2) cI 6 (G dp 2)), (xI (bd dp 3) cI 6 (G dp 3)), (xI (bd dp 4) cI 6 (G dp 4))] : va_W))) [0, 1, 2, 3, 4, 5, 6, 7] rfl)
    have hD := hbD_2 [(xJ be cL 9 fb), (xo_2_riiiii c0 be (nI hn) wa brn_3 bwn_3 btn_3)] ((V dp 0)) ((V dp 1)) ((V dp 2)) ((V dp 3)) ((nI hh)) ((V dp 5)) ((nI ww)) ((nI kk)) ((G dp 0)) ((G dp 1)) ((G dp 2)) ((G dp 3)) ((G dp 4)) _ (hD.part (cx := (([(xJ be cL 9 fb), (xo_2_riiiii c0 be (nI hn) wa brn_3 bwn_3 btn_3)] : va_W) ++ ([(xo_3_iiiiiiiirrrrr (ad dp) (V dp 0) (V dp 1) (V dp 2) (V dp 3) (nI hh) (V dp 5) (nI ww) (nI kk) (bd dp 0) (bd dp 1) (bd dp 2) (bd dp 3) (bd dp 4)), (xI (bd dp 0) cI 6 (G dp 0)), (xI (bd dp 1) cI 6 (G dp 1)), (xI (bd dp 2) cI 6 (G dp 2)), (xI (bd dp 3) cI 6 (G dp 3)), (xI (bd dp 4) cI 6 (G dp 4))] : va_W))) [0, 1, 2, 3, 4, 5, 6, 7] (by decide +kernel) rfl)
    generalize hV_4 : va_up V dp (fun k => [(V dp 0), (V dp 1), (V dp 2), (V dp 3), (nI hh), (V dp 5), (nI ww), (nI kk)].getD k 0) = V_4 at hP hD
    generalize hG_4 : va_up G dp (fun k => [(G dp 0), (G dp 1), (G dp 2), (G dp 3), (G dp 4)].getD k (fun _ => 0)) = G_4 at hP hD
    have hP : va_P (dC, dI) vwCl (([(xJ be cL 9 fb), (xo_2_riiiii c0 be (nI hn) wa brn_3 bwn_3 btn_3)] : va_W) ++ lvs cI 9 ad bd V_4 G_4) H := hP
    have hD : va_D A (([(xJ be cL 9 fb), (xo_2_riiiii c0 be (nI hn) wa brn_3 bwn_3 btn_3)] : va_W) ++ lvs cI 9 ad bd V_4 G_4) := hD
    have kp_4 : ∀ j : Nat, j < dp → V_4 j = V j ∧ G_4 j = G j := fun j hj => by rw [← hV_4, ← hG_4, va_up_ne _ _ (by omega), va_up_ne _ _ (by omega)]; exact ⟨rfl, rfl⟩
    have hX9 := cut2P (cx := [(xo_2_riiiii c0 be (nI hn) wa brn_3 bwn_3 btn_3), (xJ be cL 9 fb)]) hP hD [1, 0] (by decide +kernel) rfl
    exact W.vret hx hb hr (fun t ht hW => ⟨⟨(), rfl, trivial, ⟨V_4, G_4, brn_3, bwn_3, btn_3, va_Ht ht hX9.1, hX9.2, (fun j hj => (kp_4 j hj)), (lf_X2_tryRows_s_1 hfb e4 e6 e7 hhb hww hkk hdn hn8 hN c_1 hF_3_0)⟩⟩, hS.F ht⟩) hS.2.2 dX2_tryRows_26
  · have c_1 : ¬ (hn ≤ dp) := fun q_ => c_1 ((nI_leI (a := hn) (b := dp) (by omega) (by omega)).mpr q_)
    refine lv_iload_n hx hb dX2_tryRows_8 rfl (lv_at hl 1 rfl) ?_
    refine lv_bipush (v := 8) hx hb dX2_tryRows_9 (by decide) ?_
    refine lv_icmp_lt (tgt := 27) hx hb dX2_tryRows_11 (by decide) (fun _ => ?_) (fun c_ => absurd ((nI_ltI (a := dp) (b := 8) (by omega) (by omega)).mpr (by omega)) c_)
    refine lv_iconst (v := 0) hx hb dX2_tryRows_27 (by decide) ?_
    refine lv_istore (lv' := [(4, .int 0), (0, .ref c0), (1, .int (nI dp)), (2, .int x), (3, .int y)]) hx hb dX2_tryRows_28 hl (by decide) rfl (fun ls hl => ?_)
    refine lv_iload hx hb dX2_tryRows_30 (lv_at hl 0 rfl) ?_
    refine lv_iconst (v := 1) hx hb dX2_tryRows_32 (by decide) ?_
    refine lv_icmp_gt (tgt := 109) hx hb dX2_tryRows_33 (by decide) (fun c_ => absurd c_ (by decide)) (fun _ => ?_)
    refine lv_aload_n hx hb dX2_tryRows_36 rfl (lv_at hl 1 rfl) ?_
    refine va_get (D := (dC, dI)) (ci := 2) (v := .ref be) (C := RX2) (T := TX2) (N := 6) hx hb hts i_X2_tryRows_X2 hown hK hP 0 rfl rfl 0 (by decide) (hts _ mx_X2_tryRows_2) (fun _ h9 => h9) rfl dX2_tryRows_37 ?_
    refine lv_iload_n hx hb dX2_tryRows_40 rfl (lv_at hl 2 rfl) ?_
    refine lv_iconst (v := 1) hx hb dX2_tryRows_41 (by decide) ?_
    refine lv_iadd hx hb dX2_tryRows_42 ?_
    refine lv_topi (fun v_7 e_7 => ?_)
    obtain rfl : v_7 = (nI (dp + 1)) := (e_7).trans (nI_add dp 1)
    refine va_aldq hx hb hK hP 1 2 rfl rfl (vp_in_nI (by omega) (by omega)) dX2_tryRows_43 ?_
    refine W.eq (g2 := F0 m 44 ls (.ref (ad (dp + 1)) :: [])) (by show F0 m 44 ls (va_rf (fb (nI (dp + 1)).toNatClampNeg) :: _) = _; rw [nI_clamp (by omega), hfb _ (by omega)]; rfl) ?_
    obtain ⟨pl_8, hP, hD, hbP_8, hbD_8⟩ := blk_opn2 hP hD (i := dp) (by omega)
    have hP : va_P (dC, dI) vwCl (([(xo_2_riiiii c0 be (nI hn) wa br bw bt), (xJ be cL 9 fb), (xo_3_iiiiiiiirrrrr (ad dp) (V dp 0) (V dp 1) (V dp 2) (V dp 3) (V dp 4) (V dp 5) (V dp 6) (V dp 7) (bd dp 0) (bd dp 1) (bd dp 2) (bd dp 3) (bd dp 4)), (xI (bd dp 0) cI 6 (G dp 0)), (xI (bd dp 1) cI 6 (G dp 1)), (xI (bd dp 2) cI 6 (G dp 2)), (xI (bd dp 3) cI 6 (G dp 3)), (xI (bd dp 4) cI 6 (G dp 4)), (xo_3_iiiiiiiirrrrr (ad (dp + 1)) (V (dp + 1) 0) (V (dp + 1) 1) (V (dp + 1) 2) (V (dp + 1) 3) (V (dp + 1) 4) (V (dp + 1) 5) (V (dp + 1) 6) (V (dp + 1) 7) (bd (dp + 1) 0) (bd (dp + 1) 1) (bd (dp + 1) 2) (bd (dp + 1) 3) (bd (dp + 1) 4)), (xI (bd (dp + 1) 0) cI 6 (G (dp + 1) 0)), (xI (bd (dp + 1) 1) cI 6 (G (dp + 1) 1)), (xI (bd (dp + 1) 2) cI 6 (G (dp + 1) 2)), (xI (bd (dp + 1) 3) cI 6 (G (dp + 1) 3)), (xI (bd (dp + 1) 4) cI 6 (G (dp + 1) 4))] : va_W) ++ pl_8) s.heap := hP
    have hD : va_D A (([(xo_2_riiiii c0 be (nI hn) wa br bw bt), (xJ be cL 9 fb), (xo_3_iiiiiiiirrrrr (ad dp) (V dp 0) (V dp 1) (V dp 2) (V dp 3) (V dp 4) (V dp 5) (V dp 6) (V dp 7) (bd dp 0) (bd dp 1) (bd dp 2) (bd dp 3) (bd dp 4)), (xI (bd dp 0) cI 6 (G dp 0)), (xI (bd dp 1) cI 6 (G dp 1)), (xI (bd dp 2) cI 6 (G dp 2)), (xI (bd dp 3) cI 6 (G dp 3)), (xI (bd dp 4) cI 6 (G dp 4)), (xo_3_iiiiiiiirrrrr (ad (dp + 1)) (V (dp + 1) 0) (V (dp + 1) 1) (V (dp + 1) 2) (V (dp + 1) 3) (V (dp + 1) 4) (V (dp + 1) 5) (V (dp + 1) 6) (V (dp + 1) 7) (bd (dp + 1) 0) (bd (dp + 1) 1) (bd (dp + 1) 2) (bd (dp + 1) 3) (bd (dp + 1) 4)), (xI (bd (dp + 1) 0) cI 6 (G (dp + 1) 0)), (xI (bd (dp + 1) 1) cI 6 (G (dp + 1) 1)), (xI (bd (dp + 1) 2) cI 6 (G (dp + 1) 2)), (xI (bd (dp + 1) 3) cI 6 (G (dp + 1) 3)), (xI (bd (dp + 1) 4) cI 6 (G (dp + 1) 4))] : va_W) ++ pl_8) := hD
    rw [e4, e6, e7] at hP hD
    refine lv_astore (lv' := [(5, .ref (ad (dp + 1))), (4, .int 0), (0, .ref c0), (1, .int (nI dp)), (2, .int x), (3, .int y)]) hx hb dX2_tryRows_44 hl (by decide) rfl (fun ls hl => ?_)
    refine lv_aload hx hb dX2_tryRows_46 (lv_at hl 0 rfl) ?_
    refine lv_aload_n hx hb dX2_tryRows_48 rfl (lv_at hl 2 rfl) ?_
    refine va_get (D := (dC, dI)) (ci := 2) (v := .ref be) (C := RX2) (T := TX2) (N := 6) hx hb hts i_X2_tryRows_X2 hown hK hP 0 rfl rfl 0 (by decide) (hts _ mx_X2_tryRows_2) (fun _ h9 => h9) rfl dX2_tryRows_49 ?_
    refine lv_iload_n hx hb dX2_tryRows_52 rfl (lv_at hl 3 rfl) ?_
    refine va_aldq hx hb hK hP 1 2 rfl rfl (vp_in_nI (by omega) (by omega)) dX2_tryRows_53 ?_
    refine W.eq (g2 := F0 m 54 ls (.ref (ad dp) :: [.ref (ad (dp + 1))])) (by show F0 m 54 ls (va_rf (fb (nI dp).toNatClampNeg) :: _) = _; rw [nI_clamp (by omega), hfb _ (by omega)]; rfl) ?_
    have hc_9 := cutX (wc := [(xo_3_iiiiiiiirrrrr (ad (dp + 1)) (V (dp + 1) 0) (V (dp + 1) 1) (V (dp + 1) 2) (V (dp + 1) 3) (V (dp + 1) 4) (V (dp + 1) 5) (V (dp + 1) 6) (V (dp + 1) 7) (bd (dp + 1) 0) (bd (dp + 1) 1) (bd (dp + 1) 2) (bd (dp + 1) 3) (bd (dp + 1) 4)), (xI (bd (dp + 1) 0) cI 6 (G (dp + 1) 0)), (xI (bd (dp + 1) 1) cI 6 (G (dp + 1) 1)), (xI (bd (dp + 1) 2) cI 6 (G (dp + 1) 2)), (xI (bd (dp + 1) 3) cI 6 (G (dp + 1) 3)), (xI (bd (dp + 1) 4) cI 6 (G (dp + 1) 4)), (xo_3_iiiiiiiirrrrr (ad dp) (V dp 0) (V dp 1) (V dp 2) (V dp 3) (nI hh) (V dp 5) (nI ww) (nI kk) (bd dp 0) (bd dp 1) (bd dp 2) (bd dp 3) (bd dp 4)), (xI (bd dp 0) cI 6 (G dp 0)), (xI (bd dp 1) cI 6 (G dp 1)), (xI (bd dp 2) cI 6 (G dp 2)), (xI (bd dp 3) cI 6 (G dp 3)), (xI (bd dp 4) cI 6 (G dp 4))]) hP hD hS hA [8, 9, 10, 11, 12, 13, 2, 3, 4, 5, 6, 7] (by decide +kernel) rfl
    refine va_callv (va_runV (As := [.ref (ad dp)]) (rest := []) ⟨hx, hb, hml, hown, hts⟩ (r_X3_becomeLike l dC dI cI cZ cL cJ s.heap.size (ad (dp + 1)) (V (dp + 1) 0) (V (dp + 1) 1) (V (dp + 1) 2) (V (dp + 1) 3) (V (dp + 1) 4) (V (dp + 1) 5) (V (dp + 1) 6) (V (dp + 1) 7) (bd (dp + 1) 0) (bd (dp + 1) 1) (bd (dp + 1) 2) (bd (dp + 1) 3) (bd (dp + 1) 4) (G (dp + 1) 0) (G (dp + 1) 1) (G (dp + 1) 2) (G (dp + 1) 3) (G (dp + 1) 4) (ad dp) (V dp 0) (V dp 1) (V dp 2) (V dp 3) (nI hh) (V dp 5) (nI ww) (nI kk) (bd dp 0) (bd dp 1) (bd dp 2) (bd dp 3) (bd dp 4) (G dp 0) (G dp 1) (G dp 2) (G dp 3) (G dp 4) ) (cwV 1 hts gX2_tryRows_X3_becomeLike rfl rfl rfl (by decide +kernel) ⟨by show 1 + 1 ≤ 14 - dp; omega, by show 8 + (2 + 11) + 80 ≤ 3000 - 200 * dp; omega⟩) (pvW 3 8 hK hP rfl rfl hc_9) rfl rfl hl.1 rfl (lv_room (Nat.le_of_ble_eq_true rfl)) dX2_tryRows_54 ⟨Nat.le_of_ble_eq_true rfl, Nat.le_of_ble_eq_true rfl⟩) hS (fun q _ h => hc_9.2.2 q h) hc_9.2.2 (fun u_9 t_9 H1 locs ht hvm h_9 hB hz1 hk1 hS => ?_)
    refine xl_5_7 hB (fun f1n_9 f2n_9 f3n_9 f4n_9 f5n_9 hP1 hD1 hF_9_0 hF_9_1 hF_9_2 hF_9_3 hF_9_4 => ?_)
    clear hB
    rw [ht] at hP1
    obtain ⟨hP, hD⟩ := va_joinQ (wr := [(xo_2_riiiii c0 be (nI hn) wa br bw bt), (xJ be cL 9 fb)]) (w1 := [(xo_3_iiiiiiiirrrrr (ad (dp + 1)) (V dp 0) (V dp 1) (V dp 2) (V dp 3) (nI hh) (V dp 5) (nI ww) (nI kk) (bd (dp + 1) 0) (bd (dp + 1) 1) (bd (dp + 1) 2) (bd (dp + 1) 3) (bd (dp + 1) 4)), (xI (bd (dp + 1) 0) cI 6 f1n_9), (xI (bd (dp + 1) 1) cI 6 f2n_9), (xI (bd (dp + 1) 2) cI 6 f3n_9), (xI (bd (dp + 1) 3) cI 6 f4n_9), (xI (bd (dp + 1) 4) cI 6 f5n_9), (xo_3_iiiiiiiirrrrr (ad dp) (V dp 0) (V dp 1) (V dp 2) (V dp 3) (nI hh) (V dp 5) (nI ww) (nI kk) (bd dp 0) (bd dp 1) (bd dp 2) (bd dp 3) (bd dp 4)), (xI (bd dp 0) cI 6 (G dp 0)), (xI (bd dp 1) cI 6 (G dp 1)), (xI (bd dp 2) cI 6 (G dp 2)), (xI (bd dp 3) cI 6 (G dp 3)), (xI (bd dp 4) cI 6 (G dp 4))]) hP hD [8, 9, 10, 11, 12, 13, 2, 3, 4, 5, 6, 7] [0, 1] rfl rfl (by decide +kernel) (by decide +kernel) hk1 hc_9.2.2 hP1 hD1
    generalize H1 = H at hP hS ⊢
    have hP : va_P (dC, dI) vwCl (([(xo_2_riiiii c0 be (nI hn) wa br bw bt), (xJ be cL 9 fb), (xo_3_iiiiiiiirrrrr (ad (dp + 1)) (V dp 0) (V dp 1) (V dp 2) (V dp 3) (nI hh) (V dp 5) (nI ww) (nI kk) (bd (dp + 1) 0) (bd (dp + 1) 1) (bd (dp + 1) 2) (bd (dp + 1) 3) (bd (dp + 1) 4)), (xI (bd (dp + 1) 0) cI 6 f1n_9), (xI (bd (dp + 1) 1) cI 6 f2n_9), (xI (bd (dp + 1) 2) cI 6 f3n_9), (xI (bd (dp + 1) 3) cI 6 f4n_9), (xI (bd (dp + 1) 4) cI 6 f5n_9), (xo_3_iiiiiiiirrrrr (ad dp) (V dp 0) (V dp 1) (V dp 2) (V dp 3) (nI hh) (V dp 5) (nI ww) (nI kk) (bd dp 0) (bd dp 1) (bd dp 2) (bd dp 3) (bd dp 4)), (xI (bd dp 0) cI 6 (G dp 0)), (xI (bd dp 1) cI 6 (G dp 1)), (xI (bd dp 2) cI 6 (G dp 2)), (xI (bd dp 3) cI 6 (G dp 3)), (xI (bd dp 4) cI 6 (G dp 4))] : va_W) ++ pl_8) H := hP
    have hD := dto hP hD
    refine lv_aload hx hb dX2_tryRows_57 (lv_at hl 0 rfl) ?_
    refine va_get (D := (dC, dI)) (ci := 3) (v := .int (V dp 3)) (C := RX3) (T := TX3) (N := 13) hx hb hts i_X2_tryRows_X3 hown hK hP 2 rfl rfl 3 (by decide) (hts _ mx_X2_tryRows_3) (fun _ h9 => h9) rfl dX2_tryRows_59 ?_
    refine lv_iload hx hb dX2_tryRows_62 (lv_at hl 1 rfl) ?_
    refine lv_icmp_ne (tgt := 71) hx hb dX2_tryRows_64 (by decide) (fun c_10 => ?_) (fun c_10 => ?_)
    · skip
      refine lv_iconst (v := 1) hx hb dX2_tryRows_71 (by decide) ?_
      refine lv_istore (lv' := [(6, .int 1), (5, .ref (ad (dp + 1))), (4, .int 0), (0, .ref c0), (1, .int (nI dp)), (2, .int x), (3, .int y)]) hx hb dX2_tryRows_72 hl (by decide) rfl (fun ls hl => ?_)
      refine lv_aload hx hb dX2_tryRows_74 (lv_at hl 1 rfl) ?_
      refine lv_iload hx hb dX2_tryRows_76 (lv_at hl 2 rfl) ?_
      refine va_put (D := (dC, dI)) (ci := 3) (v := .int 0) (ty := .int) (C := RX3) (T := TX3) (N := 13) hx hb hts i_X2_tryRows_X3 tyX3 tyX3_ok nmX3 hown hK hP hD hS 2 rfl rfl 3 (by decide) (hts _ mx_X2_tryRows_3) (fun _ h9 => h9) rfl (by decide +kernel) rfl rfl (Nat.le_of_ble_eq_true rfl) dX2_tryRows_78 (fun H locs hP hD hS => ?_)
      have hP : va_P (dC, dI) vwCl (([(xo_2_riiiii c0 be (nI hn) wa br bw bt), (xJ be cL 9 fb), (xo_3_iiiiiiiirrrrr (ad (dp + 1)) (V dp 0) (V dp 1) (V dp 2) 0 (nI hh) (V dp 5) (nI ww) (nI kk) (bd (dp + 1) 0) (bd (dp + 1) 1) (bd (dp + 1) 2) (bd (dp + 1) 3) (bd (dp + 1) 4)), (xI (bd (dp + 1) 0) cI 6 f1n_9), (xI (bd (dp + 1) 1) cI 6 f2n_9), (xI (bd (dp + 1) 2) cI 6 f3n_9), (xI (bd (dp + 1) 3) cI 6 f4n_9), (xI (bd (dp + 1) 4) cI 6 f5n_9), (xo_3_iiiiiiiirrrrr (ad dp) (V dp 0) (V dp 1) (V dp 2) (V dp 3) (nI hh) (V dp 5) (nI ww) (nI kk) (bd dp 0) (bd dp 1) (bd dp 2) (bd dp 3) (bd dp 4)), (xI (bd dp 0) cI 6 (G dp 0)), (xI (bd dp 1) cI 6 (G dp 1)), (xI (bd dp 2) cI 6 (G dp 2)), (xI (bd dp 3) cI 6 (G dp 3)), (xI (bd dp 4) cI 6 (G dp 4))] : va_W) ++ pl_8) H := hP
      have hD := dto hP hD
      refine lv_aload hx hb dX2_tryRows_81 (lv_at hl 1 rfl) ?_
      have hc_11 := cutX (wc := [(xo_3_iiiiiiiirrrrr (ad (dp + 1)) (V dp 0) (V dp 1) (V dp 2) 0 (nI hh) (V dp 5) (nI ww) (nI kk) (bd (dp + 1) 0) (bd (dp + 1) 1) (bd (dp + 1) 2) (bd (dp + 1) 3) (bd (dp + 1) 4)), (xI (bd (dp + 1) 0) cI 6 f1n_9), (xI (bd (dp + 1) 1) cI 6 f2n_9), (xI (bd (dp + 1) 2) cI 6 f3n_9), (xI (bd (dp + 1) 3) cI 6 f4n_9), (xI (bd (dp + 1) 4) cI 6 f5n_9)]) hP hD hS hA [2, 3, 4, 5, 6, 7] (by decide +kernel) rfl
      refine va_callv (va_runV (As := []) (rest := []) ⟨hx, hb, hml, hown, hts⟩ (r_X3_pass l dC dI cI cZ cL cJ H.size (ad (dp + 1)) (V dp 0) (V dp 1) (V dp 2) 0 (V dp 5) hh ww kk (bd (dp + 1) 0) (bd (dp + 1) 1) (bd (dp + 1) 2) (bd (dp + 1) 3) (bd (dp + 1) 4) f1n_9 f2n_9 f3n_9 f4n_9 f5n_9 (by omega) (hww) (hkk)) (cwV 0 hts gX2_tryRows_X3_pass rfl rfl rfl (by decide +kernel) ⟨by show 3 + 1 ≤ 14 - dp; omega, by show 8 + (3 + 11) + 66 ≤ 3000 - 200 * dp; omega⟩) (pvW 3 2 hK hP rfl rfl hc_11) rfl rfl hl.1 rfl (lv_room (Nat.le_of_ble_eq_true rfl)) dX2_tryRows_83 ⟨Nat.le_of_ble_eq_true rfl, Nat.le_of_ble_eq_true rfl⟩) hS (fun q _ h => hc_11.2.2 q h) hc_11.2.2 (fun u_11 t_11 H1 locs ht hvm h_11 hB hz1 hk1 hS => ?_)
      refine xl_4_3 hB (fun v5n_11 g3n_11 g4n_11 g5n_11 hP1 hD1 hF_11_0 => ?_)
      clear hB
      rw [ht] at hP1
      obtain ⟨hP, hD⟩ := va_joinQ (wr := [(xo_2_riiiii c0 be (nI hn) wa br bw bt), (xJ be cL 9 fb), (xo_3_iiiiiiiirrrrr (ad dp) (V dp 0) (V dp 1) (V dp 2) (V dp 3) (nI hh) (V dp 5) (nI ww) (nI kk) (bd dp 0) (bd dp 1) (bd dp 2) (bd dp 3) (bd dp 4)), (xI (bd dp 0) cI 6 (G dp 0)), (xI (bd dp 1) cI 6 (G dp 1)), (xI (bd dp 2) cI 6 (G dp 2)), (xI (bd dp 3) cI 6 (G dp 3)), (xI (bd dp 4) cI 6 (G dp 4))]) (w1 := [(xo_3_iiiiiiiirrrrr (ad (dp + 1)) (V dp 0) (V dp 1) (V dp 2) 0 (nI (hh + 1)) v5n_11 (nI ww) (nI kk) (bd (dp + 1) 0) (bd (dp + 1) 1) (bd (dp + 1) 2) (bd (dp + 1) 3) (bd (dp + 1) 4)), (xI (bd (dp + 1) 0) cI 6 f1n_9), (xI (bd (dp + 1) 1) cI 6 f2n_9), (xI (bd (dp + 1) 2) cI 6 g3n_11), (xI (bd (dp + 1) 3) cI 6 g4n_11), (xI (bd (dp + 1) 4) cI 6 g5n_11)]) hP hD [2, 3, 4, 5, 6, 7] [0, 1, 8, 9, 10, 11, 12, 13] rfl rfl (by decide +kernel) (by decide +kernel) hk1 hc_11.2.2 hP1 hD1
      generalize H1 = H at hP hS ⊢
      have hP : va_P (dC, dI) vwCl (([(xo_2_riiiii c0 be (nI hn) wa br bw bt), (xJ be cL 9 fb), (xo_3_iiiiiiiirrrrr (ad dp) (V dp 0) (V dp 1) (V dp 2) (V dp 3) (nI hh) (V dp 5) (nI ww) (nI kk) (bd dp 0) (bd dp 1) (bd dp 2) (bd dp 3) (bd dp 4)), (xI (bd dp 0) cI 6 (G dp 0)), (xI (bd dp 1) cI 6 (G dp 1)), (xI (bd dp 2) cI 6 (G dp 2)), (xI (bd dp 3) cI 6 (G dp 3)), (xI (bd dp 4) cI 6 (G dp 4)), (xo_3_iiiiiiiirrrrr (ad (dp + 1)) (V dp 0) (V dp 1) (V dp 2) 0 (nI (hh + 1)) v5n_11 (nI ww) (nI kk) (bd (dp + 1) 0) (bd (dp + 1) 1) (bd (dp + 1) 2) (bd (dp + 1) 3) (bd (dp + 1) 4)), (xI (bd (dp + 1) 0) cI 6 f1n_9), (xI (bd (dp + 1) 1) cI 6 f2n_9), (xI (bd (dp + 1) 2) cI 6 g3n_11), (xI (bd (dp + 1) 3) cI 6 g4n_11), (xI (bd (dp + 1) 4) cI 6 g5n_11)] : va_W) ++ pl_8) H := hP
      have hD := dto hP hD
      refine lv_aload_n hx hb dX2_tryRows_86 rfl (lv_at hl 3 rfl) ?_
      refine lv_iload_n hx hb dX2_tryRows_87 rfl (lv_at hl 4 rfl) ?_
      refine lv_iconst (v := 1) hx hb dX2_tryRows_88 (by decide) ?_
      refine lv_iadd hx hb dX2_tryRows_89 ?_
      refine lv_topi (fun v_12 e_12 => ?_)
      obtain rfl : v_12 = (nI (dp + 1)) := (e_12).trans (nI_add dp 1)
      refine lv_iload_n hx hb dX2_tryRows_90 rfl (lv_at hl 5 rfl) ?_
      refine lv_iconst (v := 1) hx hb dX2_tryRows_91 (by decide) ?_
      refine lv_ishl hx hb dX2_tryRows_92 ?_
      refine lv_topi (fun v_13 e_13 => ?_)
      refine lv_iload hx hb dX2_tryRows_93 (lv_at hl 2 rfl) ?_
      refine lv_ior hx hb dX2_tryRows_95 ?_
      refine lv_topi (fun v_14 e_14 => ?_)
      refine lv_iload_n hx hb dX2_tryRows_96 rfl (lv_at hl 6 rfl) ?_
      refine lv_iload hx hb dX2_tryRows_97 (lv_at hl 0 rfl) ?_
      refine lv_iadd hx hb dX2_tryRows_99 ?_
      refine lv_topi (fun v_15 e_15 => ?_)
      have hP := hbP_8 [(xo_2_riiiii c0 be (nI hn) wa br bw bt), (xJ be cL 9 fb)] ((nI hh)) ((nI ww)) ((nI kk)) ((V dp 0)) ((V dp 1)) ((V dp 2)) (0) ((nI (hh + 1))) (v5n_11) ((nI ww)) ((nI kk)) (f1n_9) (f2n_9) (g3n_11) (g4n_11) (g5n_11) _ e4 e6 e7 (hP.part (cx := (([(xo_2_riiiii c0 be (nI hn) wa br bw bt), (xJ be cL 9 fb)] : va_W) ++ ([(xo_3_iiiiiiiirrrrr (ad dp) (V dp 0) (V dp 1) (V dp 2) (V dp 3) (nI hh) (V dp 5) (nI ww) (nI kk) (bd dp 0) (bd dp 1) (bd dp 2) (bd dp 3) (bd dp 4)), (xI (bd dp 0) cI 6 (G dp 0)), (xI (bd dp 1) cI 6 (G dp 1)), (xI (bd dp 2) cI 6 (G dp 2)), (xI (bd dp 3) cI 6 (G dp 3)), (xI (bd dp 4) cI 6 (G dp 4)), (xo_3_iiiiiiiirrrrr (ad (dp + 1)) (V dp 0) (V dp 1) (V dp 2) 0 (nI (hh + 1)) v5n_11 (nI ww) (nI kk) (bd (dp + 1) 0) (bd (dp + 1) 1) (bd (dp + 1) 2) (bd (dp + 1) 3) (bd (dp + 1) 4)), (xI (bd (dp + 1) 0) cI 6 f1n_9), (xI (bd (dp + 1) 1) cI 6 f2n_9), (xI (bd (dp + 1) 2) cI 6 g3n_11), (xI (bd (dp + 1) 3) cI 6 g4n_11), (xI (bd (dp + 1) 4) cI 6 g5n_11)] : va_W))) [0, 1, 2, 3, 4, 5, 6, 7, 8, 9, 10, 11, 12, 13] rfl)
      have hD := hbD_8 [(xo_2_riiiii c0 be (nI hn) wa br bw bt), (xJ be cL 9 fb)] ((nI hh)) ((nI ww)) ((nI kk)) ((V dp 0)) ((V dp 1)) ((V dp 2)) (0) ((nI (hh + 1))) (v5n_11) ((nI ww)) ((nI kk)) (f1n_9) (f2n_9) (g3n_11) (g4n_11) (g5n_11) _ e4 e6 e7 (hD.part (cx := (([(xo_2_riiiii c0 be (nI hn) wa br bw bt), (xJ be cL 9 fb)] : va_W) ++ ([(xo_3_iiiiiiiirrrrr (ad dp) (V dp 0) (V dp 1) (V dp 2) (V dp 3) (nI hh) (V dp 5) (nI ww) (nI kk) (bd dp 0) (bd dp 1) (bd dp 2) (bd dp 3) (bd dp 4)), (xI (bd dp 0) cI 6 (G dp 0)), (xI (bd dp 1) cI 6 (G dp 1)), (xI (bd dp 2) cI 6 (G dp 2)), (xI (bd dp 3) cI 6 (G dp 3)), (xI (bd dp 4) cI 6 (G dp 4)), (xo_3_iiiiiiiirrrrr (ad (dp + 1)) (V dp 0) (V dp 1) (V dp 2) 0 (nI (hh + 1)) v5n_11 (nI ww) (nI kk) (bd (dp + 1) 0) (bd (dp + 1) 1) (bd (dp + 1) 2) (bd (dp + 1) 3) (bd (dp + 1) 4)), (xI (bd (dp + 1) 0) cI 6 f1n_9), (xI (bd (dp + 1) 1) cI 6 f2n_9), (xI (bd (dp + 1) 2) cI 6 g3n_11), (xI (bd (dp + 1) 3) cI 6 g4n_11), (xI (bd (dp + 1) 4) cI 6 g5n_11)] : va_W))) [0, 1, 2, 3, 4, 5, 6, 7, 8, 9, 10, 11, 12, 13] (by decide +kernel) rfl)
      generalize hV_16 : va_up V (dp + 1) (fun k => [(V dp 0), (V dp 1), (V dp 2), 0, (nI (hh + 1)), v5n_11, (nI ww), (nI kk)].getD k 0) = V_16 at hP hD
      generalize hG_16 : va_up G (dp + 1) (fun k => [f1n_9, f2n_9, g3n_11, g4n_11, g5n_11].getD k (fun _ => 0)) = G_16 at hP hD
      have hP : va_P (dC, dI) vwCl (([(xo_2_riiiii c0 be (nI hn) wa br bw bt), (xJ be cL 9 fb)] : va_W) ++ lvs cI 9 ad bd V_16 G_16) H := hP
      have hD : va_D A (([(xo_2_riiiii c0 be (nI hn) wa br bw bt), (xJ be cL 9 fb)] : va_W) ++ lvs cI 9 ad bd V_16 G_16) := hD
      have s4_16 : V_16 (dp + 1) 4 = (nI (hh + 1)) := by rw [← hV_16, va_up_self]; rfl
      have s6_16 : V_16 (dp + 1) 6 = (nI ww) := by rw [← hV_16, va_up_self]; rfl
      have s7_16 : V_16 (dp + 1) 7 = (nI kk) := by rw [← hV_16, va_up_self]; rfl
      have kp_16 : ∀ j : Nat, j ≤ dp → V_16 j = V j ∧ G_16 j = G j := fun j hj => by rw [← hV_16, ← hG_16, va_up_ne _ _ (by omega), va_up_ne _ _ (by omega)]; exact ⟨rfl, rfl⟩
      have a4_16 : V_16 dp 4 = nI hh := by rw [(kp_16 dp (Nat.le_refl _)).1]; exact e4
      have a6_16 : V_16 dp 6 = nI ww := by rw [(kp_16 dp (Nat.le_refl _)).1]; exact e6
      have a7_16 : V_16 dp 7 = nI kk := by rw [(kp_16 dp (Nat.le_refl _)).1]; exact e7
      have nx_16 : nrV (V_16 (dp + 1)) (G_16 (dp + 1)) = mH (upd (nrV (V dp) (G dp)) 6 0) ∧ okN (999 + (dp + 1)) (nrV (V_16 (dp + 1)) (G_16 (dp + 1))) := by
        rw [← hV_16, ← hG_16, va_up_self, va_up_self]
        exact cap_nx rfl rfl hN e4 e6 e7 hhb hww hkk (by omega) (by decide) hF_9_0 hF_9_1 hF_9_2 hF_9_3 hF_9_4 hF_11_0
      have hc_17 := cutP (cx := [(xo_2_riiiii c0 be (nI hn) wa br bw bt), (xJ be cL 9 fb)]) hP hD hS hA [0, 1] (by decide +kernel) rfl
      refine va_callv (va_runV (As := [.int (nI (dp + 1)), .int v_14, .int v_15]) (rest := []) ⟨hx, hb, hml, hown, hts⟩ (IH l dC dI cI cZ cL cJ H.size c0 be hn wa br bw bt fb ad bd V_16 G_16 (hh + 1) ww kk v_14 v_15 (hfb) (s4_16) (s6_16) (s7_16) (by omega) (hww) (hkk) (by omega) (hn8) (nx_16.2)) (cwV 3 hts gX2_tryRows_X2_tryRows rfl rfl rfl (by decide +kernel) ⟨by show 14 - (dp + 1) + 1 ≤ 14 - dp; omega, by show 8 + (7 + 11) + (3000 - 200 * (dp + 1)) ≤ 3000 - 200 * dp; omega⟩) (pvW 2 0 hK hP rfl rfl hc_17) rfl rfl hl.1 rfl (lv_room (Nat.le_of_ble_eq_true rfl)) dX2_tryRows_100 ⟨Nat.le_of_ble_eq_true rfl, Nat.le_of_ble_eq_true rfl⟩) hS (fun q _ h => hc_17.2.2 q h) hc_17.2.2 (fun u_17 t_17 H1 locs ht hvm h_17 hB hz1 hk1 hS => ?_)
      refine xl_5_4 hB (fun Vn_17 Gn_17 brn_17 bwn_17 btn_17 hP1 hD1 hF_17_0 hF_17_1 => ?_)
      clear hB
      rw [ht] at hP1
      obtain ⟨hP, hD⟩ := va_joinP (wr := []) (rx := [(xo_2_riiiii c0 be (nI hn) wa brn_17 bwn_17 btn_17), (xJ be cL 9 fb)]) (pl1 := lvs cI 9 ad bd Vn_17 Gn_17) hP hD [0, 1] [] rfl rfl (by decide +kernel) (by decide +kernel) hk1 hc_17.2.2 hP1 hD1
      generalize H1 = H at hP hS ⊢
      have hP : va_P (dC, dI) vwCl (([(xo_2_riiiii c0 be (nI hn) wa brn_17 bwn_17 btn_17), (xJ be cL 9 fb)] : va_W) ++ lvs cI 9 ad bd Vn_17 Gn_17) H := hP
      have hD := dto hP hD
      have kq_17 : ∀ j : Nat, j ≤ dp → Vn_17 j = V j ∧ Gn_17 j = G j := fun j hj => ⟨(hF_17_0 j (by omega)).1.trans ((kp_16 j hj)).1, (hF_17_0 j (by omega)).2.trans ((kp_16 j hj)).2⟩
      have b4_17 : Vn_17 dp 4 = nI hh := by rw [(kq_17 dp (Nat.le_refl _)).1]; exact e4
      have b6_17 : Vn_17 dp 6 = nI ww := by rw [(kq_17 dp (Nat.le_refl _)).1]; exact e6
      have b7_17 : Vn_17 dp 7 = nI kk := by rw [(kq_17 dp (Nat.le_refl _)).1]; exact e7
      have kd_17 : Vn_17 dp = V dp := (kq_17 dp (Nat.le_refl _)).1
      refine lv_iinc (v := 1) (lv' := [(4, .int 1), (6, .int 1), (5, .ref (ad (dp + 1))), (0, .ref c0), (1, .int (nI dp)), (2, .int x), (3, .int y)]) hx hb dX2_tryRows_103 hl (k := 2) rfl (by decide) (by decide) rfl (fun ls hl => ?_)
      refine lv_goto (tgt := 30) hx hb dX2_tryRows_106 (by decide) ?_
      refine lv_iload hx hb dX2_tryRows_30 (lv_at hl 0 rfl) ?_
      refine lv_iconst (v := 1) hx hb dX2_tryRows_32 (by decide) ?_
      refine lv_icmp_gt (tgt := 109) hx hb dX2_tryRows_33 (by decide) (fun c_ => absurd c_ (by decide)) (fun _ => ?_)
      refine lv_aload_n hx hb dX2_tryRows_36 rfl (lv_at hl 3 rfl) ?_
      refine va_get (D := (dC, dI)) (ci := 2) (v := .ref be) (C := RX2) (T := TX2) (N := 6) hx hb hts i_X2_tryRows_X2 hown hK hP 0 rfl rfl 0 (by decide) (hts _ mx_X2_tryRows_2) (fun _ h9 => h9) rfl dX2_tryRows_37 ?_
      refine lv_iload_n hx hb dX2_tryRows_40 rfl (lv_at hl 4 rfl) ?_
      refine lv_iconst (v := 1) hx hb dX2_tryRows_41 (by decide) ?_
      refine lv_iadd hx hb dX2_tryRows_42 ?_
      refine lv_topi (fun v_19 e_19 => ?_)
      obtain rfl : v_19 = (nI (dp + 1)) := (e_19).trans (nI_add dp 1)
      refine va_aldq hx hb hK hP 1 2 rfl rfl (vp_in_nI (by omega) (by omega)) dX2_tryRows_43 ?_
      refine W.eq (g2 := F0 m 44 ls (.ref (ad (dp + 1)) :: [])) (by show F0 m 44 ls (va_rf (fb (nI (dp + 1)).toNatClampNeg) :: _) = _; rw [nI_clamp (by omega), hfb _ (by omega)]; rfl) ?_
      obtain ⟨pl_20, hP, hD, hbP_20, hbD_20⟩ := blk_opn2 hP hD (i := dp) (by omega)
      have hP : va_P (dC, dI) vwCl (([(xo_2_riiiii c0 be (nI hn) wa brn_17 bwn_17 btn_17), (xJ be cL 9 fb), (xo_3_iiiiiiiirrrrr (ad dp) (Vn_17 dp 0) (Vn_17 dp 1) (Vn_17 dp 2) (Vn_17 dp 3) (Vn_17 dp 4) (Vn_17 dp 5) (Vn_17 dp 6) (Vn_17 dp 7) (bd dp 0) (bd dp 1) (bd dp 2) (bd dp 3) (bd dp 4)), (xI (bd dp 0) cI 6 (Gn_17 dp 0)), (xI (bd dp 1) cI 6 (Gn_17 dp 1)), (xI (bd dp 2) cI 6 (Gn_17 dp 2)), (xI (bd dp 3) cI 6 (Gn_17 dp 3)), (xI (bd dp 4) cI 6 (Gn_17 dp 4)), (xo_3_iiiiiiiirrrrr (ad (dp + 1)) (Vn_17 (dp + 1) 0) (Vn_17 (dp + 1) 1) (Vn_17 (dp + 1) 2) (Vn_17 (dp + 1) 3) (Vn_17 (dp + 1) 4) (Vn_17 (dp + 1) 5) (Vn_17 (dp + 1) 6) (Vn_17 (dp + 1) 7) (bd (dp + 1) 0) (bd (dp + 1) 1) (bd (dp + 1) 2) (bd (dp + 1) 3) (bd (dp + 1) 4)), (xI (bd (dp + 1) 0) cI 6 (Gn_17 (dp + 1) 0)), (xI (bd (dp + 1) 1) cI 6 (Gn_17 (dp + 1) 1)), (xI (bd (dp + 1) 2) cI 6 (Gn_17 (dp + 1) 2)), (xI (bd (dp + 1) 3) cI 6 (Gn_17 (dp + 1) 3)), (xI (bd (dp + 1) 4) cI 6 (Gn_17 (dp + 1) 4))] : va_W) ++ pl_20) H := hP
      have hD : va_D A (([(xo_2_riiiii c0 be (nI hn) wa brn_17 bwn_17 btn_17), (xJ be cL 9 fb), (xo_3_iiiiiiiirrrrr (ad dp) (Vn_17 dp 0) (Vn_17 dp 1) (Vn_17 dp 2) (Vn_17 dp 3) (Vn_17 dp 4) (Vn_17 dp 5) (Vn_17 dp 6) (Vn_17 dp 7) (bd dp 0) (bd dp 1) (bd dp 2) (bd dp 3) (bd dp 4)), (xI (bd dp 0) cI 6 (Gn_17 dp 0)), (xI (bd dp 1) cI 6 (Gn_17 dp 1)), (xI (bd dp 2) cI 6 (Gn_17 dp 2)), (xI (bd dp 3) cI 6 (Gn_17 dp 3)), (xI (bd dp 4) cI 6 (Gn_17 dp 4)), (xo_3_iiiiiiiirrrrr (ad (dp + 1)) (Vn_17 (dp + 1) 0) (Vn_17 (dp + 1) 1) (Vn_17 (dp + 1) 2) (Vn_17 (dp + 1) 3) (Vn_17 (dp + 1) 4) (Vn_17 (dp + 1) 5) (Vn_17 (dp + 1) 6) (Vn_17 (dp + 1) 7) (bd (dp + 1) 0) (bd (dp + 1) 1) (bd (dp + 1) 2) (bd (dp + 1) 3) (bd (dp + 1) 4)), (xI (bd (dp + 1) 0) cI 6 (Gn_17 (dp + 1) 0)), (xI (bd (dp + 1) 1) cI 6 (Gn_17 (dp + 1) 1)), (xI (bd (dp + 1) 2) cI 6 (Gn_17 (dp + 1) 2)), (xI (bd (dp + 1) 3) cI 6 (Gn_17 (dp + 1) 3)), (xI (bd (dp + 1) 4) cI 6 (Gn_17 (dp + 1) 4))] : va_W) ++ pl_20) := hD
      rw [b4_17, b6_17, b7_17] at hP hD
      refine lv_astore (lv' := [(5, .ref (ad (dp + 1))), (4, .int 1), (6, .int 1), (0, .ref c0), (1, .int (nI dp)), (2, .int x), (3, .int y)]) hx hb dX2_tryRows_44 hl (by decide) rfl (fun ls hl => ?_)
      refine lv_aload hx hb dX2_tryRows_46 (lv_at hl 0 rfl) ?_
      refine lv_aload_n hx hb dX2_tryRows_48 rfl (lv_at hl 3 rfl) ?_
      refine va_get (D := (dC, dI)) (ci := 2) (v := .ref be) (C := RX2) (T := TX2) (N := 6) hx hb hts i_X2_tryRows_X2 hown hK hP 0 rfl rfl 0 (by decide) (hts _ mx_X2_tryRows_2) (fun _ h9 => h9) rfl dX2_tryRows_49 ?_
      refine lv_iload_n hx hb dX2_tryRows_52 rfl (lv_at hl 4 rfl) ?_
      refine va_aldq hx hb hK hP 1 2 rfl rfl (vp_in_nI (by omega) (by omega)) dX2_tryRows_53 ?_
      refine W.eq (g2 := F0 m 54 ls (.ref (ad dp) :: [.ref (ad (dp + 1))])) (by show F0 m 54 ls (va_rf (fb (nI dp).toNatClampNeg) :: _) = _; rw [nI_clamp (by omega), hfb _ (by omega)]; rfl) ?_
      have hc_21 := cutX (wc := [(xo_3_iiiiiiiirrrrr (ad (dp + 1)) (Vn_17 (dp + 1) 0) (Vn_17 (dp + 1) 1) (Vn_17 (dp + 1) 2) (Vn_17 (dp + 1) 3) (Vn_17 (dp + 1) 4) (Vn_17 (dp + 1) 5) (Vn_17 (dp + 1) 6) (Vn_17 (dp + 1) 7) (bd (dp + 1) 0) (bd (dp + 1) 1) (bd (dp + 1) 2) (bd (dp + 1) 3) (bd (dp + 1) 4)), (xI (bd (dp + 1) 0) cI 6 (Gn_17 (dp + 1) 0)), (xI (bd (dp + 1) 1) cI 6 (Gn_17 (dp + 1) 1)), (xI (bd (dp + 1) 2) cI 6 (Gn_17 (dp + 1) 2)), (xI (bd (dp + 1) 3) cI 6 (Gn_17 (dp + 1) 3)), (xI (bd (dp + 1) 4) cI 6 (Gn_17 (dp + 1) 4)), (xo_3_iiiiiiiirrrrr (ad dp) (Vn_17 dp 0) (Vn_17 dp 1) (Vn_17 dp 2) (Vn_17 dp 3) (nI hh) (Vn_17 dp 5) (nI ww) (nI kk) (bd dp 0) (bd dp 1) (bd dp 2) (bd dp 3) (bd dp 4)), (xI (bd dp 0) cI 6 (Gn_17 dp 0)), (xI (bd dp 1) cI 6 (Gn_17 dp 1)), (xI (bd dp 2) cI 6 (Gn_17 dp 2)), (xI (bd dp 3) cI 6 (Gn_17 dp 3)), (xI (bd dp 4) cI 6 (Gn_17 dp 4))]) hP hD hS hA [8, 9, 10, 11, 12, 13, 2, 3, 4, 5, 6, 7] (by decide +kernel) rfl
      refine va_callv (va_runV (As := [.ref (ad dp)]) (rest := []) ⟨hx, hb, hml, hown, hts⟩ (r_X3_becomeLike l dC dI cI cZ cL cJ H.size (ad (dp + 1)) (Vn_17 (dp + 1) 0) (Vn_17 (dp + 1) 1) (Vn_17 (dp + 1) 2) (Vn_17 (dp + 1) 3) (Vn_17 (dp + 1) 4) (Vn_17 (dp + 1) 5) (Vn_17 (dp + 1) 6) (Vn_17 (dp + 1) 7) (bd (dp + 1) 0) (bd (dp + 1) 1) (bd (dp + 1) 2) (bd (dp + 1) 3) (bd (dp + 1) 4) (Gn_17 (dp + 1) 0) (Gn_17 (dp + 1) 1) (Gn_17 (dp + 1) 2) (Gn_17 (dp + 1) 3) (Gn_17 (dp + 1) 4) (ad dp) (Vn_17 dp 0) (Vn_17 dp 1) (Vn_17 dp 2) (Vn_17 dp 3) (nI hh) (Vn_17 dp 5) (nI ww) (nI kk) (bd dp 0) (bd dp 1) (bd dp 2) (bd dp 3) (bd dp 4) (Gn_17 dp 0) (Gn_17 dp 1) (Gn_17 dp 2) (Gn_17 dp 3) (Gn_17 dp 4) ) (cwV 1 hts gX2_tryRows_X3_becomeLike rfl rfl rfl (by decide +kernel) ⟨by show 1 + 1 ≤ 14 - dp; omega, by show 8 + (2 + 11) + 80 ≤ 3000 - 200 * dp; omega⟩) (pvW 3 8 hK hP rfl rfl hc_21) rfl rfl hl.1 rfl (lv_room (Nat.le_of_ble_eq_true rfl)) dX2_tryRows_54 ⟨Nat.le_of_ble_eq_true rfl, Nat.le_of_ble_eq_true rfl⟩) hS (fun q _ h => hc_21.2.2 q h) hc_21.2.2 (fun u_21 t_21 H1 locs ht hvm h_21 hB hz1 hk1 hS => ?_)
      refine xl_5_7 hB (fun f1n_21 f2n_21 f3n_21 f4n_21 f5n_21 hP1 hD1 hF_21_0 hF_21_1 hF_21_2 hF_21_3 hF_21_4 => ?_)
      clear hB
      rw [ht] at hP1
      obtain ⟨hP, hD⟩ := va_joinQ (wr := [(xo_2_riiiii c0 be (nI hn) wa brn_17 bwn_17 btn_17), (xJ be cL 9 fb)]) (w1 := [(xo_3_iiiiiiiirrrrr (ad (dp + 1)) (Vn_17 dp 0) (Vn_17 dp 1) (Vn_17 dp 2) (Vn_17 dp 3) (nI hh) (Vn_17 dp 5) (nI ww) (nI kk) (bd (dp + 1) 0) (bd (dp + 1) 1) (bd (dp + 1) 2) (bd (dp + 1) 3) (bd (dp + 1) 4)), (xI (bd (dp + 1) 0) cI 6 f1n_21), (xI (bd (dp + 1) 1) cI 6 f2n_21), (xI (bd (dp + 1) 2) cI 6 f3n_21), (xI (bd (dp + 1) 3) cI 6 f4n_21), (xI (bd (dp + 1) 4) cI 6 f5n_21), (xo_3_iiiiiiiirrrrr (ad dp) (Vn_17 dp 0) (Vn_17 dp 1) (Vn_17 dp 2) (Vn_17 dp 3) (nI hh) (Vn_17 dp 5) (nI ww) (nI kk) (bd dp 0) (bd dp 1) (bd dp 2) (bd dp 3) (bd dp 4)), (xI (bd dp 0) cI 6 (Gn_17 dp 0)), (xI (bd dp 1) cI 6 (Gn_17 dp 1)), (xI (bd dp 2) cI 6 (Gn_17 dp 2)), (xI (bd dp 3) cI 6 (Gn_17 dp 3)), (xI (bd dp 4) cI 6 (Gn_17 dp 4))]) hP hD [8, 9, 10, 11, 12, 13, 2, 3, 4, 5, 6, 7] [0, 1] rfl rfl (by decide +kernel) (by decide +kernel) hk1 hc_21.2.2 hP1 hD1
      generalize H1 = H at hP hS ⊢
      have hP : va_P (dC, dI) vwCl (([(xo_2_riiiii c0 be (nI hn) wa brn_17 bwn_17 btn_17), (xJ be cL 9 fb), (xo_3_iiiiiiiirrrrr (ad (dp + 1)) (Vn_17 dp 0) (Vn_17 dp 1) (Vn_17 dp 2) (Vn_17 dp 3) (nI hh) (Vn_17 dp 5) (nI ww) (nI kk) (bd (dp + 1) 0) (bd (dp + 1) 1) (bd (dp + 1) 2) (bd (dp + 1) 3) (bd (dp + 1) 4)), (xI (bd (dp + 1) 0) cI 6 f1n_21), (xI (bd (dp + 1) 1) cI 6 f2n_21), (xI (bd (dp + 1) 2) cI 6 f3n_21), (xI (bd (dp + 1) 3) cI 6 f4n_21), (xI (bd (dp + 1) 4) cI 6 f5n_21), (xo_3_iiiiiiiirrrrr (ad dp) (Vn_17 dp 0) (Vn_17 dp 1) (Vn_17 dp 2) (Vn_17 dp 3) (nI hh) (Vn_17 dp 5) (nI ww) (nI kk) (bd dp 0) (bd dp 1) (bd dp 2) (bd dp 3) (bd dp 4)), (xI (bd dp 0) cI 6 (Gn_17 dp 0)), (xI (bd dp 1) cI 6 (Gn_17 dp 1)), (xI (bd dp 2) cI 6 (Gn_17 dp 2)), (xI (bd dp 3) cI 6 (Gn_17 dp 3)), (xI (bd dp 4) cI 6 (Gn_17 dp 4))] : va_W) ++ pl_20) H := hP
      have hD := dto hP hD
      refine lv_aload hx hb dX2_tryRows_57 (lv_at hl 0 rfl) ?_
      refine va_get (D := (dC, dI)) (ci := 3) (v := .int (Vn_17 dp 3)) (C := RX3) (T := TX3) (N := 13) hx hb hts i_X2_tryRows_X3 hown hK hP 2 rfl rfl 3 (by decide) (hts _ mx_X2_tryRows_3) (fun _ h9 => h9) rfl dX2_tryRows_59 ?_
      refine lv_iload hx hb dX2_tryRows_62 (lv_at hl 1 rfl) ?_
      refine lv_icmp_ne (tgt := 71) hx hb dX2_tryRows_64 (by decide) (fun c_22 => ?_) (fun c_22 => ?_)
      · skip
        refine lv_iconst (v := 1) hx hb dX2_tryRows_71 (by decide) ?_
        refine lv_istore (lv' := [(6, .int 1), (5, .ref (ad (dp + 1))), (4, .int 1), (0, .ref c0), (1, .int (nI dp)), (2, .int x), (3, .int y)]) hx hb dX2_tryRows_72 hl (by decide) rfl (fun ls hl => ?_)
        refine lv_aload hx hb dX2_tryRows_74 (lv_at hl 1 rfl) ?_
        refine lv_iload hx hb dX2_tryRows_76 (lv_at hl 2 rfl) ?_
        refine va_put (D := (dC, dI)) (ci := 3) (v := .int 1) (ty := .int) (C := RX3) (T := TX3) (N := 13) hx hb hts i_X2_tryRows_X3 tyX3 tyX3_ok nmX3 hown hK hP hD hS 2 rfl rfl 3 (by decide) (hts _ mx_X2_tryRows_3) (fun _ h9 => h9) rfl (by decide +kernel) rfl rfl (Nat.le_of_ble_eq_true rfl) dX2_tryRows_78 (fun H locs hP hD hS => ?_)
        have hP : va_P (dC, dI) vwCl (([(xo_2_riiiii c0 be (nI hn) wa brn_17 bwn_17 btn_17), (xJ be cL 9 fb), (xo_3_iiiiiiiirrrrr (ad (dp + 1)) (Vn_17 dp 0) (Vn_17 dp 1) (Vn_17 dp 2) 1 (nI hh) (Vn_17 dp 5) (nI ww) (nI kk) (bd (dp + 1) 0) (bd (dp + 1) 1) (bd (dp + 1) 2) (bd (dp + 1) 3) (bd (dp + 1) 4)), (xI (bd (dp + 1) 0) cI 6 f1n_21), (xI (bd (dp + 1) 1) cI 6 f2n_21), (xI (bd (dp + 1) 2) cI 6 f3n_21), (xI (bd (dp + 1) 3) cI 6 f4n_21), (xI (bd (dp + 1) 4) cI 6 f5n_21), (xo_3_iiiiiiiirrrrr (ad dp) (Vn_17 dp 0) (Vn_17 dp 1) (Vn_17 dp 2) (Vn_17 dp 3) (nI hh) (Vn_17 dp 5) (nI ww) (nI kk) (bd dp 0) (bd dp 1) (bd dp 2) (bd dp 3) (bd dp 4)), (xI (bd dp 0) cI 6 (Gn_17 dp 0)), (xI (bd dp 1) cI 6 (Gn_17 dp 1)), (xI (bd dp 2) cI 6 (Gn_17 dp 2)), (xI (bd dp 3) cI 6 (Gn_17 dp 3)), (xI (bd dp 4) cI 6 (Gn_17 dp 4))] : va_W) ++ pl_20) H := hP
        have hD := dto hP hD
        refine lv_aload hx hb dX2_tryRows_81 (lv_at hl 1 rfl) ?_
        have hc_23 := cutX (wc := [(xo_3_iiiiiiiirrrrr (ad (dp + 1)) (Vn_17 dp 0) (Vn_17 dp 1) (Vn_17 dp 2) 1 (nI hh) (Vn_17 dp 5) (nI ww) (nI kk) (bd (dp + 1) 0) (bd (dp + 1) 1) (bd (dp + 1) 2) (bd (dp + 1) 3) (bd (dp + 1) 4)), (xI (bd (dp + 1) 0) cI 6 f1n_21), (xI (bd (dp + 1) 1) cI 6 f2n_21), (xI (bd (dp + 1) 2) cI 6 f3n_21), (xI (bd (dp + 1) 3) cI 6 f4n_21), (xI (bd (dp + 1) 4) cI 6 f5n_21)]) hP hD hS hA [2, 3, 4, 5, 6, 7] (by decide +kernel) rfl
        refine va_callv (va_runV (As := []) (rest := []) ⟨hx, hb, hml, hown, hts⟩ (r_X3_pass l dC dI cI cZ cL cJ H.size (ad (dp + 1)) (Vn_17 dp 0) (Vn_17 dp 1) (Vn_17 dp 2) 1 (Vn_17 dp 5) hh ww kk (bd (dp + 1) 0) (bd (dp + 1) 1) (bd (dp + 1) 2) (bd (dp + 1) 3) (bd (dp + 1) 4) f1n_21 f2n_21 f3n_21 f4n_21 f5n_21 (by omega) (hww) (hkk)) (cwV 0 hts gX2_tryRows_X3_pass rfl rfl rfl (by decide +kernel) ⟨by show 3 + 1 ≤ 14 - dp; omega, by show 8 + (3 + 11) + 66 ≤ 3000 - 200 * dp; omega⟩) (pvW 3 2 hK hP rfl rfl hc_23) rfl rfl hl.1 rfl (lv_room (Nat.le_of_ble_eq_true rfl)) dX2_tryRows_83 ⟨Nat.le_of_ble_eq_true rfl, Nat.le_of_ble_eq_true rfl⟩) hS (fun q _ h => hc_23.2.2 q h) hc_23.2.2 (fun u_23 t_23 H1 locs ht hvm h_23 hB hz1 hk1 hS => ?_)
        refine xl_4_3 hB (fun v5n_23 g3n_23 g4n_23 g5n_23 hP1 hD1 hF_23_0 => ?_)
        clear hB
        rw [ht] at hP1
        obtain ⟨hP, hD⟩ := va_joinQ (wr := [(xo_2_riiiii c0 be (nI hn) wa brn_17 bwn_17 btn_17), (xJ be cL 9 fb), (xo_3_iiiiiiiirrrrr (ad dp) (Vn_17 dp 0) (Vn_17 dp 1) (Vn_17 dp 2) (Vn_17 dp 3) (nI hh) (Vn_17 dp 5) (nI ww) (nI kk) (bd dp 0) (bd dp 1) (bd dp 2) (bd dp 3) (bd dp 4)), (xI (bd dp 0) cI 6 (Gn_17 dp 0)), (xI (bd dp 1) cI 6 (Gn_17 dp 1)), (xI (bd dp 2) cI 6 (Gn_17 dp 2)), (xI (bd dp 3) cI 6 (Gn_17 dp 3)), (xI (bd dp 4) cI 6 (Gn_17 dp 4))]) (w1 := [(xo_3_iiiiiiiirrrrr (ad (dp + 1)) (Vn_17 dp 0) (Vn_17 dp 1) (Vn_17 dp 2) 1 (nI (hh + 1)) v5n_23 (nI ww) (nI kk) (bd (dp + 1) 0) (bd (dp + 1) 1) (bd (dp + 1) 2) (bd (dp + 1) 3) (bd (dp + 1) 4)), (xI (bd (dp + 1) 0) cI 6 f1n_21), (xI (bd (dp + 1) 1) cI 6 f2n_21), (xI (bd (dp + 1) 2) cI 6 g3n_23), (xI (bd (dp + 1) 3) cI 6 g4n_23), (xI (bd (dp + 1) 4) cI 6 g5n_23)]) hP hD [2, 3, 4, 5, 6, 7] [0, 1, 8, 9, 10, 11, 12, 13] rfl rfl (by decide +kernel) (by decide +kernel) hk1 hc_23.2.2 hP1 hD1
        generalize H1 = H at hP hS ⊢
        have hP : va_P (dC, dI) vwCl (([(xo_2_riiiii c0 be (nI hn) wa brn_17 bwn_17 btn_17), (xJ be cL 9 fb), (xo_3_iiiiiiiirrrrr (ad dp) (Vn_17 dp 0) (Vn_17 dp 1) (Vn_17 dp 2) (Vn_17 dp 3) (nI hh) (Vn_17 dp 5) (nI ww) (nI kk) (bd dp 0) (bd dp 1) (bd dp 2) (bd dp 3) (bd dp 4)), (xI (bd dp 0) cI 6 (Gn_17 dp 0)), (xI (bd dp 1) cI 6 (Gn_17 dp 1)), (xI (bd dp 2) cI 6 (Gn_17 dp 2)), (xI (bd dp 3) cI 6 (Gn_17 dp 3)), (xI (bd dp 4) cI 6 (Gn_17 dp 4)), (xo_3_iiiiiiiirrrrr (ad (dp + 1)) (Vn_17 dp 0) (Vn_17 dp 1) (Vn_17 dp 2) 1 (nI (hh + 1)) v5n_23 (nI ww) (nI kk) (bd (dp + 1) 0) (bd (dp + 1) 1) (bd (dp + 1) 2) (bd (dp + 1) 3) (bd (dp + 1) 4)), (xI (bd (dp + 1) 0) cI 6 f1n_21), (xI (bd (dp + 1) 1) cI 6 f2n_21), (xI (bd (dp + 1) 2) cI 6 g3n_23), (xI (bd (dp + 1) 3) cI 6 g4n_23), (xI (bd (dp + 1) 4) cI 6 g5n_23)] : va_W) ++ pl_20) H := hP
        have hD := dto hP hD
        refine lv_aload_n hx hb dX2_tryRows_86 rfl (lv_at hl 3 rfl) ?_
        refine lv_iload_n hx hb dX2_tryRows_87 rfl (lv_at hl 4 rfl) ?_
        refine lv_iconst (v := 1) hx hb dX2_tryRows_88 (by decide) ?_
        refine lv_iadd hx hb dX2_tryRows_89 ?_
        refine lv_topi (fun v_24 e_24 => ?_)
        obtain rfl : v_24 = (nI (dp + 1)) := (e_24).trans (nI_add dp 1)
        refine lv_iload_n hx hb dX2_tryRows_90 rfl (lv_at hl 5 rfl) ?_
        refine lv_iconst (v := 1) hx hb dX2_tryRows_91 (by decide) ?_
        refine lv_ishl hx hb dX2_tryRows_92 ?_
        refine lv_topi (fun v_25 e_25 => ?_)
        refine lv_iload hx hb dX2_tryRows_93 (lv_at hl 2 rfl) ?_
        refine lv_ior hx hb dX2_tryRows_95 ?_
        refine lv_topi (fun v_26 e_26 => ?_)
        refine lv_iload_n hx hb dX2_tryRows_96 rfl (lv_at hl 6 rfl) ?_
        refine lv_iload hx hb dX2_tryRows_97 (lv_at hl 0 rfl) ?_
        refine lv_iadd hx hb dX2_tryRows_99 ?_
        refine lv_topi (fun v_27 e_27 => ?_)
        have hP := hbP_20 [(xo_2_riiiii c0 be (nI hn) wa brn_17 bwn_17 btn_17), (xJ be cL 9 fb)] ((nI hh)) ((nI ww)) ((nI kk)) ((Vn_17 dp 0)) ((Vn_17 dp 1)) ((Vn_17 dp 2)) (1) ((nI (hh + 1))) (v5n_23) ((nI ww)) ((nI kk)) (f1n_21) (f2n_21) (g3n_23) (g4n_23) (g5n_23) _ b4_17 b6_17 b7_17 (hP.part (cx := (([(xo_2_riiiii c0 be (nI hn) wa brn_17 bwn_17 btn_17), (xJ be cL 9 fb)] : va_W) ++ ([(xo_3_iiiiiiiirrrrr (ad dp) (Vn_17 dp 0) (Vn_17 dp 1) (Vn_17 dp 2) (Vn_17 dp 3) (nI hh) (Vn_17 dp 5) (nI ww) (nI kk) (bd dp 0) (bd dp 1) (bd dp 2) (bd dp 3) (bd dp 4)), (xI (bd dp 0) cI 6 (Gn_17 dp 0)), (xI (bd dp 1) cI 6 (Gn_17 dp 1)), (xI (bd dp 2) cI 6 (Gn_17 dp 2)), (xI (bd dp 3) cI 6 (Gn_17 dp 3)), (xI (bd dp 4) cI 6 (Gn_17 dp 4)), (xo_3_iiiiiiiirrrrr (ad (dp + 1)) (Vn_17 dp 0) (Vn_17 dp 1) (Vn_17 dp 2) 1 (nI (hh + 1)) v5n_23 (nI ww) (nI kk) (bd (dp + 1) 0) (bd (dp + 1) 1) (bd (dp + 1) 2) (bd (dp + 1) 3) (bd (dp + 1) 4)), (xI (bd (dp + 1) 0) cI 6 f1n_21), (xI (bd (dp + 1) 1) cI 6 f2n_21), (xI (bd (dp + 1) 2) cI 6 g3n_23), (xI (bd (dp + 1) 3) cI 6 g4n_23), (xI (bd (dp + 1) 4) cI 6 g5n_23)] : va_W))) [0, 1, 2, 3, 4, 5, 6, 7, 8, 9, 10, 11, 12, 13] rfl)
        have hD := hbD_20 [(xo_2_riiiii c0 be (nI hn) wa brn_17 bwn_17 btn_17), (xJ be cL 9 fb)] ((nI hh)) ((nI ww)) ((nI kk)) ((Vn_17 dp 0)) ((Vn_17 dp 1)) ((Vn_17 dp 2)) (1) ((nI (hh + 1))) (v5n_23) ((nI ww)) ((nI kk)) (f1n_21) (f2n_21) (g3n_23) (g4n_23) (g5n_23) _ b4_17 b6_17 b7_17 (hD.part (cx := (([(xo_2_riiiii c0 be (nI hn) wa brn_17 bwn_17 btn_17), (xJ be cL 9 fb)] : va_W) ++ ([(xo_3_iiiiiiiirrrrr (ad dp) (Vn_17 dp 0) (Vn_17 dp 1) (Vn_17 dp 2) (Vn_17 dp 3) (nI hh) (Vn_17 dp 5) (nI ww) (nI kk) (bd dp 0) (bd dp 1) (bd dp 2) (bd dp 3) (bd dp 4)), (xI (bd dp 0) cI 6 (Gn_17 dp 0)), (xI (bd dp 1) cI 6 (Gn_17 dp 1)), (xI (bd dp 2) cI 6 (Gn_17 dp 2)), (xI (bd dp 3) cI 6 (Gn_17 dp 3)), (xI (bd dp 4) cI 6 (Gn_17 dp 4)), (xo_3_iiiiiiiirrrrr (ad (dp + 1)) (Vn_17 dp 0) (Vn_17 dp 1) (Vn_17 dp 2) 1 (nI (hh + 1)) v5n_23 (nI ww) (nI kk) (bd (dp + 1) 0) (bd (dp + 1) 1) (bd (dp + 1) 2) (bd (dp + 1) 3) (bd (dp + 1) 4)), (xI (bd (dp + 1) 0) cI 6 f1n_21), (xI (bd (dp + 1) 1) cI 6 f2n_21), (xI (bd (dp + 1) 2) cI 6 g3n_23), (xI (bd (dp + 1) 3) cI 6 g4n_23), (xI (bd (dp + 1) 4) cI 6 g5n_23)] : va_W))) [0, 1, 2, 3, 4, 5, 6, 7, 8, 9, 10, 11, 12, 13] (by decide +kernel) rfl)
        generalize hV_28 : va_up Vn_17 (dp + 1) (fun k => [(Vn_17 dp 0), (Vn_17 dp 1), (Vn_17 dp 2), 1, (nI (hh + 1)), v5n_23, (nI ww), (nI kk)].getD k 0) = V_28 at hP hD
        generalize hG_28 : va_up Gn_17 (dp + 1) (fun k => [f1n_21, f2n_21, g3n_23, g4n_23, g5n_23].getD k (fun _ => 0)) = G_28 at hP hD
        have hP : va_P (dC, dI) vwCl (([(xo_2_riiiii c0 be (nI hn) wa brn_17 bwn_17 btn_17), (xJ be cL 9 fb)] : va_W) ++ lvs cI 9 ad bd V_28 G_28) H := hP
        have hD : va_D A (([(xo_2_riiiii c0 be (nI hn) wa brn_17 bwn_17 btn_17), (xJ be cL 9 fb)] : va_W) ++ lvs cI 9 ad bd V_28 G_28) := hD
        have s4_28 : V_28 (dp + 1) 4 = (nI (hh + 1)) := by rw [← hV_28, va_up_self]; rfl
        have s6_28 : V_28 (dp + 1) 6 = (nI ww) := by rw [← hV_28, va_up_self]; rfl
        have s7_28 : V_28 (dp + 1) 7 = (nI kk) := by rw [← hV_28, va_up_self]; rfl
        have kp_28 : ∀ j : Nat, j ≤ dp → V_28 j = V j ∧ G_28 j = G j := fun j hj => by rw [← hV_28, ← hG_28, va_up_ne _ _ (by omega), va_up_ne _ _ (by omega)]; exact (kq_17 j hj)
        have a4_28 : V_28 dp 4 = nI hh := by rw [(kp_28 dp (Nat.le_refl _)).1]; exact e4
        have a6_28 : V_28 dp 6 = nI ww := by rw [(kp_28 dp (Nat.le_refl _)).1]; exact e6
        have a7_28 : V_28 dp 7 = nI kk := by rw [(kp_28 dp (Nat.le_refl _)).1]; exact e7
        have nx_28 : nrV (V_28 (dp + 1)) (G_28 (dp + 1)) = mH (upd (nrV (V dp) (G dp)) 6 1) ∧ okN (999 + (dp + 1)) (nrV (V_28 (dp + 1)) (G_28 (dp + 1))) := by
          rw [← hV_28, ← hG_28, va_up_self, va_up_self]
          exact cap_nx ((kq_17 dp (Nat.le_refl _))).1 ((kq_17 dp (Nat.le_refl _))).2 hN e4 e6 e7 hhb hww hkk (by omega) (by decide) hF_21_0 hF_21_1 hF_21_2 hF_21_3 hF_21_4 hF_23_0
        have hc_29 := cutP (cx := [(xo_2_riiiii c0 be (nI hn) wa brn_17 bwn_17 btn_17), (xJ be cL 9 fb)]) hP hD hS hA [0, 1] (by decide +kernel) rfl
        refine va_callv (va_runV (As := [.int (nI (dp + 1)), .int v_26, .int v_27]) (rest := []) ⟨hx, hb, hml, hown, hts⟩ (IH l dC dI cI cZ cL cJ H.size c0 be hn wa brn_17 bwn_17 btn_17 fb ad bd V_28 G_28 (hh + 1) ww kk v_26 v_27 (hfb) (s4_28) (s6_28) (s7_28) (by omega) (hww) (hkk) (by omega) (hn8) (nx_28.2)) (cwV 3 hts gX2_tryRows_X2_tryRows rfl rfl rfl (by decide +kernel) ⟨by show 14 - (dp + 1) + 1 ≤ 14 - dp; omega, by show 8 + (7 + 11) + (3000 - 200 * (dp + 1)) ≤ 3000 - 200 * dp; omega⟩) (pvW 2 0 hK hP rfl rfl hc_29) rfl rfl hl.1 rfl (lv_room (Nat.le_of_ble_eq_true rfl)) dX2_tryRows_100 ⟨Nat.le_of_ble_eq_true rfl, Nat.le_of_ble_eq_true rfl⟩) hS (fun q _ h => hc_29.2.2 q h) hc_29.2.2 (fun u_29 t_29 H1 locs ht hvm h_29 hB hz1 hk1 hS => ?_)
        refine xl_5_4 hB (fun Vn_29 Gn_29 brn_29 bwn_29 btn_29 hP1 hD1 hF_29_0 hF_29_1 => ?_)
        clear hB
        rw [ht] at hP1
        obtain ⟨hP, hD⟩ := va_joinP (wr := []) (rx := [(xo_2_riiiii c0 be (nI hn) wa brn_29 bwn_29 btn_29), (xJ be cL 9 fb)]) (pl1 := lvs cI 9 ad bd Vn_29 Gn_29) hP hD [0, 1] [] rfl rfl (by decide +kernel) (by decide +kernel) hk1 hc_29.2.2 hP1 hD1
        generalize H1 = H at hP hS ⊢
        have hP : va_P (dC, dI) vwCl (([(xo_2_riiiii c0 be (nI hn) wa brn_29 bwn_29 btn_29), (xJ be cL 9 fb)] : va_W) ++ lvs cI 9 ad bd Vn_29 Gn_29) H := hP
        have hD := dto hP hD
        have kq_29 : ∀ j : Nat, j ≤ dp → Vn_29 j = V j ∧ Gn_29 j = G j := fun j hj => ⟨(hF_29_0 j (by omega)).1.trans ((kp_28 j hj)).1, (hF_29_0 j (by omega)).2.trans ((kp_28 j hj)).2⟩
        have b4_29 : Vn_29 dp 4 = nI hh := by rw [(kq_29 dp (Nat.le_refl _)).1]; exact e4
        have b6_29 : Vn_29 dp 6 = nI ww := by rw [(kq_29 dp (Nat.le_refl _)).1]; exact e6
        have b7_29 : Vn_29 dp 7 = nI kk := by rw [(kq_29 dp (Nat.le_refl _)).1]; exact e7
        have kd_29 : Vn_29 dp = V dp := (kq_29 dp (Nat.le_refl _)).1
        refine lv_iinc (v := 2) (lv' := [(4, .int 2), (6, .int 1), (5, .ref (ad (dp + 1))), (0, .ref c0), (1, .int (nI dp)), (2, .int x), (3, .int y)]) hx hb dX2_tryRows_103 hl (k := 2) rfl (by decide) (by decide) rfl (fun ls hl => ?_)
        refine lv_goto (tgt := 30) hx hb dX2_tryRows_106 (by decide) ?_
        refine lv_iload hx hb dX2_tryRows_30 (lv_at hl 0 rfl) ?_
        refine lv_iconst (v := 1) hx hb dX2_tryRows_32 (by decide) ?_
        refine lv_icmp_gt (tgt := 109) hx hb dX2_tryRows_33 (by decide) (fun _ => ?_) (fun c_ => absurd (by decide) c_)
        have hX9 := cut2P (cx := [(xo_2_riiiii c0 be (nI hn) wa brn_29 bwn_29 btn_29), (xJ be cL 9 fb)]) hP hD [0, 1] (by decide +kernel) rfl
        exact W.vret hx hb hr (fun t ht hW => ⟨⟨(), rfl, trivial, ⟨Vn_29, Gn_29, brn_29, bwn_29, btn_29, va_Ht ht hX9.1, hX9.2, (fun j hj => (kq_29 j (Nat.le_of_lt hj))), (lf_X2_tryRows_s_2 hfb e4 e6 e7 hhb hww hkk hdn hn8 hN c_1 hF_9_0 hF_9_1 hF_9_2 hF_9_3 hF_9_4 c_10 hF_11_0 e_13 e_14 e_15 nx_16 hF_17_0 hF_17_1 kd_17 hF_21_0 hF_21_1 hF_21_2 hF_21_3 hF_21_4 c_22 hF_23_0 e_25 e_26 e_27 nx_28 hF_29_0 hF_29_1 kd_29)⟩⟩, hS.F ht⟩) hS.2.2 dX2_tryRows_109
      · skip
        refine lv_iconst (v := 0) hx hb dX2_tryRows_67 (by decide) ?_
        refine lv_goto (tgt := 72) hx hb dX2_tryRows_68 (by decide) ?_
        refine lv_istore (lv' := [(6, .int 0), (5, .ref (ad (dp + 1))), (4, .int 1), (0, .ref c0), (1, .int (nI dp)), (2, .int x), (3, .int y)]) hx hb dX2_tryRows_72 hl (by decide) rfl (fun ls hl => ?_)
        refine lv_aload hx hb dX2_tryRows_74 (lv_at hl 1 rfl) ?_
        refine lv_iload hx hb dX2_tryRows_76 (lv_at hl 2 rfl) ?_
        refine va_put (D := (dC, dI)) (ci := 3) (v := .int 1) (ty := .int) (C := RX3) (T := TX3) (N := 13) hx hb hts i_X2_tryRows_X3 tyX3 tyX3_ok nmX3 hown hK hP hD hS 2 rfl rfl 3 (by decide) (hts _ mx_X2_tryRows_3) (fun _ h9 => h9) rfl (by decide +kernel) rfl rfl (Nat.le_of_ble_eq_true rfl) dX2_tryRows_78 (fun H locs hP hD hS => ?_)
        have hP : va_P (dC, dI) vwCl (([(xo_2_riiiii c0 be (nI hn) wa brn_17 bwn_17 btn_17), (xJ be cL 9 fb), (xo_3_iiiiiiiirrrrr (ad (dp + 1)) (Vn_17 dp 0) (Vn_17 dp 1) (Vn_17 dp 2) 1 (nI hh) (Vn_17 dp 5) (nI ww) (nI kk) (bd (dp + 1) 0) (bd (dp + 1) 1) (bd (dp + 1) 2) (bd (dp + 1) 3) (bd (dp + 1) 4)), (xI (bd (dp + 1) 0) cI 6 f1n_21), (xI (bd (dp + 1) 1) cI 6 f2n_21), (xI (bd (dp + 1) 2) cI 6 f3n_21), (xI (bd (dp + 1) 3) cI 6 f4n_21), (xI (bd (dp + 1) 4) cI 6 f5n_21), (xo_3_iiiiiiiirrrrr (ad dp) (Vn_17 dp 0) (Vn_17 dp 1) (Vn_17 dp 2) (Vn_17 dp 3) (nI hh) (Vn_17 dp 5) (nI ww) (nI kk) (bd dp 0) (bd dp 1) (bd dp 2) (bd dp 3) (bd dp 4)), (xI (bd dp 0) cI 6 (Gn_17 dp 0)), (xI (bd dp 1) cI 6 (Gn_17 dp 1)), (xI (bd dp 2) cI 6 (Gn_17 dp 2)), (xI (bd dp 3) cI 6 (Gn_17 dp 3)), (xI (bd dp 4) cI 6 (Gn_17 dp 4))] : va_W) ++ pl_20) H := hP
        have hD := dto hP hD
        refine lv_aload hx hb dX2_tryRows_81 (lv_at hl 1 rfl) ?_
        have hc_31 := cutX (wc := [(xo_3_iiiiiiiirrrrr (ad (dp + 1)) (Vn_17 dp 0) (Vn_17 dp 1) (Vn_17 dp 2) 1 (nI hh) (Vn_17 dp 5) (nI ww) (nI kk) (bd (dp + 1) 0) (bd (dp + 1) 1) (bd (dp + 1) 2) (bd (dp + 1) 3) (bd (dp + 1) 4)), (xI (bd (dp + 1) 0) cI 6 f1n_21), (xI (bd (dp + 1) 1) cI 6 f2n_21), (xI (bd (dp + 1) 2) cI 6 f3n_21), (xI (bd (dp + 1) 3) cI 6 f4n_21), (xI (bd (dp + 1) 4) cI 6 f5n_21)]) hP hD hS hA [2, 3, 4, 5, 6, 7] (by decide +kernel) rfl
        refine va_callv (va_runV (As := []) (rest := []) ⟨hx, hb, hml, hown, hts⟩ (r_X3_pass l dC dI cI cZ cL cJ H.size (ad (dp + 1)) (Vn_17 dp 0) (Vn_17 dp 1) (Vn_17 dp 2) 1 (Vn_17 dp 5) hh ww kk (bd (dp + 1) 0) (bd (dp + 1) 1) (bd (dp + 1) 2) (bd (dp + 1) 3) (bd (dp + 1) 4) f1n_21 f2n_21 f3n_21 f4n_21 f5n_21 (by omega) (hww) (hkk)) (cwV 0 hts gX2_tryRows_X3_pass rfl rfl rfl (by decide +kernel) ⟨by show 3 + 1 ≤ 14 - dp; omega, by show 8 + (3 + 11) + 66 ≤ 3000 - 200 * dp; omega⟩) (pvW 3 2 hK hP rfl rfl hc_31) rfl rfl hl.1 rfl (lv_room (Nat.le_of_ble_eq_true rfl)) dX2_tryRows_83 ⟨Nat.le_of_ble_eq_true rfl, Nat.le_of_ble_eq_true rfl⟩) hS (fun q _ h => hc_31.2.2 q h) hc_31.2.2 (fun u_31 t_31 H1 locs ht hvm h_31 hB hz1 hk1 hS => ?_)
        refine xl_4_3 hB (fun v5n_31 g3n_31 g4n_31 g5n_31 hP1 hD1 hF_31_0 => ?_)
        clear hB
        rw [ht] at hP1
        obtain ⟨hP, hD⟩ := va_joinQ (wr := [(xo_2_riiiii c0 be (nI hn) wa brn_17 bwn_17 btn_17), (xJ be cL 9 fb), (xo_3_iiiiiiiirrrrr (ad dp) (Vn_17 dp 0) (Vn_17 dp 1) (Vn_17 dp 2) (Vn_17 dp 3) (nI hh) (Vn_17 dp 5) (nI ww) (nI kk) (bd dp 0) (bd dp 1) (bd dp 2) (bd dp 3) (bd dp 4)), (xI (bd dp 0) cI 6 (Gn_17 dp 0)), (xI (bd dp 1) cI 6 (Gn_17 dp 1)), (xI (bd dp 2) cI 6 (Gn_17 dp 2)), (xI (bd dp 3) cI 6 (Gn_17 dp 3)), (xI (bd dp 4) cI 6 (Gn_17 dp 4))]) (w1 := [(xo_3_iiiiiiiirrrrr (ad (dp + 1)) (Vn_17 dp 0) (Vn_17 dp 1) (Vn_17 dp 2) 1 (nI (hh + 1)) v5n_31 (nI ww) (nI kk) (bd (dp + 1) 0) (bd (dp + 1) 1) (bd (dp + 1) 2) (bd (dp + 1) 3) (bd (dp + 1) 4)), (xI (bd (dp + 1) 0) cI 6 f1n_21), (xI (bd (dp + 1) 1) cI 6 f2n_21), (xI (bd (dp + 1) 2) cI 6 g3n_31), (xI (bd (dp + 1) 3) cI 6 g4n_31), (xI (bd (dp + 1) 4) cI 6 g5n_31)]) hP hD [2, 3, 4, 5, 6, 7] [0, 1, 8, 9, 10, 11, 12, 13] rfl rfl (by decide +kernel) (by decide +kernel) hk1 hc_31.2.2 hP1 hD1
        generalize H1 = H at hP hS ⊢
        have hP : va_P (dC, dI) vwCl (([(xo_2_riiiii c0 be (nI hn) wa brn_17 bwn_17 btn_17), (xJ be cL 9 fb), (xo_3_iiiiiiiirrrrr (ad dp) (Vn_17 dp 0) (Vn_17 dp 1) (Vn_17 dp 2) (Vn_17 dp 3) (nI hh) (Vn_17 dp 5) (nI ww) (nI kk) (bd dp 0) (bd dp 1) (bd dp 2) (bd dp 3) (bd dp 4)), (xI (bd dp 0) cI 6 (Gn_17 dp 0)), (xI (bd dp 1) cI 6 (Gn_17 dp 1)), (xI (bd dp 2) cI 6 (Gn_17 dp 2)), (xI (bd dp 3) cI 6 (Gn_17 dp 3)), (xI (bd dp 4) cI 6 (Gn_17 dp 4)), (xo_3_iiiiiiiirrrrr (ad (dp + 1)) (Vn_17 dp 0) (Vn_17 dp 1) (Vn_17 dp 2) 1 (nI (hh + 1)) v5n_31 (nI ww) (nI kk) (bd (dp + 1) 0) (bd (dp + 1) 1) (bd (dp + 1) 2) (bd (dp + 1) 3) (bd (dp + 1) 4)), (xI (bd (dp + 1) 0) cI 6 f1n_21), (xI (bd (dp + 1) 1) cI 6 f2n_21), (xI (bd (dp + 1) 2) cI 6 g3n_31), (xI (bd (dp + 1) 3) cI 6 g4n_31), (xI (bd (dp + 1) 4) cI 6 g5n_31)] : va_W) ++ pl_20) H := hP
        have hD := dto hP hD
        refine lv_aload_n hx hb dX2_tryRows_86 rfl (lv_at hl 3 rfl) ?_
        refine lv_iload_n hx hb dX2_tryRows_87 rfl (lv_at hl 4 rfl) ?_
        refine lv_iconst (v := 1) hx hb dX2_tryRows_88 (by decide) ?_
        refine lv_iadd hx hb dX2_tryRows_89 ?_
        refine lv_topi (fun v_32 e_32 => ?_)
        obtain rfl : v_32 = (nI (dp + 1)) := (e_32).trans (nI_add dp 1)
        refine lv_iload_n hx hb dX2_tryRows_90 rfl (lv_at hl 5 rfl) ?_
        refine lv_iconst (v := 1) hx hb dX2_tryRows_91 (by decide) ?_
        refine lv_ishl hx hb dX2_tryRows_92 ?_
        refine lv_topi (fun v_33 e_33 => ?_)
        refine lv_iload hx hb dX2_tryRows_93 (lv_at hl 2 rfl) ?_
        refine lv_ior hx hb dX2_tryRows_95 ?_
        refine lv_topi (fun v_34 e_34 => ?_)
        refine lv_iload_n hx hb dX2_tryRows_96 rfl (lv_at hl 6 rfl) ?_
        refine lv_iload hx hb dX2_tryRows_97 (lv_at hl 0 rfl) ?_
        refine lv_iadd hx hb dX2_tryRows_99 ?_
        refine lv_topi (fun v_35 e_35 => ?_)
        have hP := hbP_20 [(xo_2_riiiii c0 be (nI hn) wa brn_17 bwn_17 btn_17), (xJ be cL 9 fb)] ((nI hh)) ((nI ww)) ((nI kk)) ((Vn_17 dp 0)) ((Vn_17 dp 1)) ((Vn_17 dp 2)) (1) ((nI (hh + 1))) (v5n_31) ((nI ww)) ((nI kk)) (f1n_21) (f2n_21) (g3n_31) (g4n_31) (g5n_31) _ b4_17 b6_17 b7_17 (hP.part (cx := (([(xo_2_riiiii c0 be (nI hn) wa brn_17 bwn_17 btn_17), (xJ be cL 9 fb)] : va_W) ++ ([(xo_3_iiiiiiiirrrrr (ad dp) (Vn_17 dp 0) (Vn_17 dp 1) (Vn_17 dp 2) (Vn_17 dp 3) (nI hh) (Vn_17 dp 5) (nI ww) (nI kk) (bd dp 0) (bd dp 1) (bd dp 2) (bd dp 3) (bd dp 4)), (xI (bd dp 0) cI 6 (Gn_17 dp 0)), (xI (bd dp 1) cI 6 (Gn_17 dp 1)), (xI (bd dp 2) cI 6 (Gn_17 dp 2)), (xI (bd dp 3) cI 6 (Gn_17 dp 3)), (xI (bd dp 4) cI 6 (Gn_17 dp 4)), (xo_3_iiiiiiiirrrrr (ad (dp + 1)) (Vn_17 dp 0) (Vn_17 dp 1) (Vn_17 dp 2) 1 (nI (hh + 1)) v5n_31 (nI ww) (nI kk) (bd (dp + 1) 0) (bd (dp + 1) 1) (bd (dp + 1) 2) (bd (dp + 1) 3) (bd (dp + 1) 4)), (xI (bd (dp + 1) 0) cI 6 f1n_21), (xI (bd (dp + 1) 1) cI 6 f2n_21), (xI (bd (dp + 1) 2) cI 6 g3n_31), (xI (bd (dp + 1) 3) cI 6 g4n_31), (xI (bd (dp + 1) 4) cI 6 g5n_31)] : va_W))) [0, 1, 2, 3, 4, 5, 6, 7, 8, 9, 10, 11, 12, 13] rfl)
        have hD := hbD_20 [(xo_2_riiiii c0 be (nI hn) wa brn_17 bwn_17 btn_17), (xJ be cL 9 fb)] ((nI hh)) ((nI ww)) ((nI kk)) ((Vn_17 dp 0)) ((Vn_17 dp 1)) ((Vn_17 dp 2)) (1) ((nI (hh + 1))) (v5n_31) ((nI ww)) ((nI kk)) (f1n_21) (f2n_21) (g3n_31) (g4n_31) (g5n_31) _ b4_17 b6_17 b7_17 (hD.part (cx := (([(xo_2_riiiii c0 be (nI hn) wa brn_17 bwn_17 btn_17), (xJ be cL 9 fb)] : va_W) ++ ([(xo_3_iiiiiiiirrrrr (ad dp) (Vn_17 dp 0) (Vn_17 dp 1) (Vn_17 dp 2) (Vn_17 dp 3) (nI hh) (Vn_17 dp 5) (nI ww) (nI kk) (bd dp 0) (bd dp 1) (bd dp 2) (bd dp 3) (bd dp 4)), (xI (bd dp 0) cI 6 (Gn_17 dp 0)), (xI (bd dp 1) cI 6 (Gn_17 dp 1)), (xI (bd dp 2) cI 6 (Gn_17 dp 2)), (xI (bd dp 3) cI 6 (Gn_17 dp 3)), (xI (bd dp 4) cI 6 (Gn_17 dp 4)), (xo_3_iiiiiiiirrrrr (ad (dp + 1)) (Vn_17 dp 0) (Vn_17 dp 1) (Vn_17 dp 2) 1 (nI (hh + 1)) v5n_31 (nI ww) (nI kk) (bd (dp + 1) 0) (bd (dp + 1) 1) (bd (dp + 1) 2) (bd (dp + 1) 3) (bd (dp + 1) 4)), (xI (bd (dp + 1) 0) cI 6 f1n_21), (xI (bd (dp + 1) 1) cI 6 f2n_21), (xI (bd (dp + 1) 2) cI 6 g3n_31), (xI (bd (dp + 1) 3) cI 6 g4n_31), (xI (bd (dp + 1) 4) cI 6 g5n_31)] : va_W))) [0, 1, 2, 3, 4, 5, 6, 7, 8, 9, 10, 11, 12, 13] (by decide +kernel) rfl)
        generalize hV_36 : va_up Vn_17 (dp + 1) (fun k => [(Vn_17 dp 0), (Vn_17 dp 1), (Vn_17 dp 2), 1, (nI (hh + 1)), v5n_31, (nI ww), (nI kk)].getD k 0) = V_36 at hP hD
        generalize hG_36 : va_up Gn_17 (dp + 1) (fun k => [f1n_21, f2n_21, g3n_31, g4n_31, g5n_31].getD k (fun _ => 0)) = G_36 at hP hD
        have hP : va_P (dC, dI) vwCl (([(xo_2_riiiii c0 be (nI hn) wa brn_17 bwn_17 btn_17), (xJ be cL 9 fb)] : va_W) ++ lvs cI 9 ad bd V_36 G_36) H := hP
        have hD : va_D A (([(xo_2_riiiii c0 be (nI hn) wa brn_17 bwn_17 btn_17), (xJ be cL 9 fb)] : va_W) ++ lvs cI 9 ad bd V_36 G_36) := hD
        have s4_36 : V_36 (dp + 1) 4 = (nI (hh + 1)) := by rw [← hV_36, va_up_self]; rfl
        have s6_36 : V_36 (dp + 1) 6 = (nI ww) := by rw [← hV_36, va_up_self]; rfl
        have s7_36 : V_36 (dp + 1) 7 = (nI kk) := by rw [← hV_36, va_up_self]; rfl
        have kp_36 : ∀ j : Nat, j ≤ dp → V_36 j = V j ∧ G_36 j = G j := fun j hj => by rw [← hV_36, ← hG_36, va_up_ne _ _ (by omega), va_up_ne _ _ (by omega)]; exact (kq_17 j hj)
        have a4_36 : V_36 dp 4 = nI hh := by rw [(kp_36 dp (Nat.le_refl _)).1]; exact e4
        have a6_36 : V_36 dp 6 = nI ww := by rw [(kp_36 dp (Nat.le_refl _)).1]; exact e6
        have a7_36 : V_36 dp 7 = nI kk := by rw [(kp_36 dp (Nat.le_refl _)).1]; exact e7
        have nx_36 : nrV (V_36 (dp + 1)) (G_36 (dp + 1)) = mH (upd (nrV (V dp) (G dp)) 6 1) ∧ okN (999 + (dp + 1)) (nrV (V_36 (dp + 1)) (G_36 (dp + 1))) := by
          rw [← hV_36, ← hG_36, va_up_self, va_up_self]
          exact cap_nx ((kq_17 dp (Nat.le_refl _))).1 ((kq_17 dp (Nat.le_refl _))).2 hN e4 e6 e7 hhb hww hkk (by omega) (by decide) hF_21_0 hF_21_1 hF_21_2 hF_21_3 hF_21_4 hF_31_0
        have hc_37 := cutP (cx := [(xo_2_riiiii c0 be (nI hn) wa brn_17 bwn_17 btn_17), (xJ be cL 9 fb)]) hP hD hS hA [0, 1] (by decide +kernel) rfl
        refine va_callv (va_runV (As := [.int (nI (dp + 1)), .int v_34, .int v_35]) (rest := []) ⟨hx, hb, hml, hown, hts⟩ (IH l dC dI cI cZ cL cJ H.size c0 be hn wa brn_17 bwn_17 btn_17 fb ad bd V_36 G_36 (hh + 1) ww kk v_34 v_35 (hfb) (s4_36) (s6_36) (s7_36) (by omega) (hww) (hkk) (by omega) (hn8) (nx_36.2)) (cwV 3 hts gX2_tryRows_X2_tryRows rfl rfl rfl (by decide +kernel) ⟨by show 14 - (dp + 1) + 1 ≤ 14 - dp; omega, by show 8 + (7 + 11) + (3000 - 200 * (dp + 1)) ≤ 3000 - 200 * dp; omega⟩) (pvW 2 0 hK hP rfl rfl hc_37) rfl rfl hl.1 rfl (lv_room (Nat.le_of_ble_eq_true rfl)) dX2_tryRows_100 ⟨Nat.le_of_ble_eq_true rfl, Nat.le_of_ble_eq_true rfl⟩) hS (fun q _ h => hc_37.2.2 q h) hc_37.2.2 (fun u_37 t_37 H1 locs ht hvm h_37 hB hz1 hk1 hS => ?_)
        refine xl_5_4 hB (fun Vn_37 Gn_37 brn_37 bwn_37 btn_37 hP1 hD1 hF_37_0 hF_37_1 => ?_)
        clear hB
        rw [ht] at hP1
        obtain ⟨hP, hD⟩ := va_joinP (wr := []) (rx := [(xo_2_riiiii c0 be (nI hn) wa brn_37 bwn_37 btn_37), (xJ be cL 9 fb)]) (pl1 := lvs cI 9 ad bd Vn_37 Gn_37) hP hD [0, 1] [] rfl rfl (by decide +kernel) (by decide +kernel) hk1 hc_37.2.2 hP1 hD1
        generalize H1 = H at hP hS ⊢
        have hP : va_P (dC, dI) vwCl (([(xo_2_riiiii c0 be (nI hn) wa brn_37 bwn_37 btn_37), (xJ be cL 9 fb)] : va_W) ++ lvs cI 9 ad bd Vn_37 Gn_37) H := hP
        have hD := dto hP hD
        have kq_37 : ∀ j : Nat, j ≤ dp → Vn_37 j = V j ∧ Gn_37 j = G j := fun j hj => ⟨(hF_37_0 j (by omega)).1.trans ((kp_36 j hj)).1, (hF_37_0 j (by omega)).2.trans ((kp_36 j hj)).2⟩
        have b4_37 : Vn_37 dp 4 = nI hh := by rw [(kq_37 dp (Nat.le_refl _)).1]; exact e4
        have b6_37 : Vn_37 dp 6 = nI ww := by rw [(kq_37 dp (Nat.le_refl _)).1]; exact e6
        have b7_37 : Vn_37 dp 7 = nI kk := by rw [(kq_37 dp (Nat.le_refl _)).1]; exact e7
        have kd_37 : Vn_37 dp = V dp := (kq_37 dp (Nat.le_refl _)).1
        refine lv_iinc (v := 2) (lv' := [(4, .int 2), (6, .int 0), (5, .ref (ad (dp + 1))), (0, .ref c0), (1, .int (nI dp)), (2, .int x), (3, .int y)]) hx hb dX2_tryRows_103 hl (k := 2) rfl (by decide) (by decide) rfl (fun ls hl => ?_)
        refine lv_goto (tgt := 30) hx hb dX2_tryRows_106 (by decide) ?_
        refine lv_iload hx hb dX2_tryRows_30 (lv_at hl 0 rfl) ?_
        refine lv_iconst (v := 1) hx hb dX2_tryRows_32 (by decide) ?_
        refine lv_icmp_gt (tgt := 109) hx hb dX2_tryRows_33 (by decide) (fun _ => ?_) (fun c_ => absurd (by decide) c_)
        have hX9 := cut2P (cx := [(xo_2_riiiii c0 be (nI hn) wa brn_37 bwn_37 btn_37), (xJ be cL 9 fb)]) hP hD [0, 1] (by decide +kernel) rfl
        exact W.vret hx hb hr (fun t ht hW => ⟨⟨(), rfl, trivial, ⟨Vn_37, Gn_37, brn_37, bwn_37, btn_37, va_Ht ht hX9.1, hX9.2, (fun j hj => (kq_37 j (Nat.le_of_lt hj))), (lf_X2_tryRows_s_3 hfb e4 e6 e7 hhb hww hkk hdn hn8 hN c_1 hF_9_0 hF_9_1 hF_9_2 hF_9_3 hF_9_4 c_10 hF_11_0 e_13 e_14 e_15 nx_16 hF_17_0 hF_17_1 kd_17 hF_21_0 hF_21_1 hF_21_2 hF_21_3 hF_21_4 c_22 hF_31_0 e_33 e_34 e_35 nx_36 hF_37_0 hF_37_1 kd_37)⟩⟩, hS.F ht⟩) hS.2.2 dX2_tryRows_109
    · skip
      refine lv_iconst (v := 0) hx hb dX2_tryRows_67 (by decide) ?_
      refine lv_goto (tgt := 72) hx hb dX2_tryRows_68 (by decide) ?_
      refine lv_istore (lv' := [(6, .int 0), (5, .ref (ad (dp + 1))), (4, .int 0), (0, .ref c0), (1, .int (nI dp)), (2, .int x), (3, .int y)]) hx hb dX2_tryRows_72 hl (by decide) rfl (fun ls hl => ?_)
      refine lv_aload hx hb dX2_tryRows_74 (lv_at hl 1 rfl) ?_
      refine lv_iload hx hb dX2_tryRows_76 (lv_at hl 2 rfl) ?_
      refine va_put (D := (dC, dI)) (ci := 3) (v := .int 0) (ty := .int) (C := RX3) (T := TX3) (N := 13) hx hb hts i_X2_tryRows_X3 tyX3 tyX3_ok nmX3 hown hK hP hD hS 2 rfl rfl 3 (by decide) (hts _ mx_X2_tryRows_3) (fun _ h9 => h9) rfl (by decide +kernel) rfl rfl (Nat.le_of_ble_eq_true rfl) dX2_tryRows_78 (fun H locs hP hD hS => ?_)
      have hP : va_P (dC, dI) vwCl (([(xo_2_riiiii c0 be (nI hn) wa br bw bt), (xJ be cL 9 fb), (xo_3_iiiiiiiirrrrr (ad (dp + 1)) (V dp 0) (V dp 1) (V dp 2) 0 (nI hh) (V dp 5) (nI ww) (nI kk) (bd (dp + 1) 0) (bd (dp + 1) 1) (bd (dp + 1) 2) (bd (dp + 1) 3) (bd (dp + 1) 4)), (xI (bd (dp + 1) 0) cI 6 f1n_9), (xI (bd (dp + 1) 1) cI 6 f2n_9), (xI (bd (dp + 1) 2) cI 6 f3n_9), (xI (bd (dp + 1) 3) cI 6 f4n_9), (xI (bd (dp + 1) 4) cI 6 f5n_9), (xo_3_iiiiiiiirrrrr (ad dp) (V dp 0) (V dp 1) (V dp 2) (V dp 3) (nI hh) (V dp 5) (nI ww) (nI kk) (bd dp 0) (bd dp 1) (bd dp 2) (bd dp 3) (bd dp 4)), (xI (bd dp 0) cI 6 (G dp 0)), (xI (bd dp 1) cI 6 (G dp 1)), (xI (bd dp 2) cI 6 (G dp 2)), (xI (bd dp 3) cI 6 (G dp 3)), (xI (bd dp 4) cI 6 (G dp 4))] : va_W) ++ pl_8) H := hP
      have hD := dto hP hD
      refine lv_aload hx hb dX2_tryRows_81 (lv_at hl 1 rfl) ?_
      have hc_39 := cutX (wc := [(xo_3_iiiiiiiirrrrr (ad (dp + 1)) (V dp 0) (V dp 1) (V dp 2) 0 (nI hh) (V dp 5) (nI ww) (nI kk) (bd (dp + 1) 0) (bd (dp + 1) 1) (bd (dp + 1) 2) (bd (dp + 1) 3) (bd (dp + 1) 4)), (xI (bd (dp + 1) 0) cI 6 f1n_9), (xI (bd (dp + 1) 1) cI 6 f2n_9), (xI (bd (dp + 1) 2) cI 6 f3n_9), (xI (bd (dp + 1) 3) cI 6 f4n_9), (xI (bd (dp + 1) 4) cI 6 f5n_9)]) hP hD hS hA [2, 3, 4, 5, 6, 7] (by decide +kernel) rfl
      refine va_callv (va_runV (As := []) (rest := []) ⟨hx, hb, hml, hown, hts⟩ (r_X3_pass l dC dI cI cZ cL cJ H.size (ad (dp + 1)) (V dp 0) (V dp 1) (V dp 2) 0 (V dp 5) hh ww kk (bd (dp + 1) 0) (bd (dp + 1) 1) (bd (dp + 1) 2) (bd (dp + 1) 3) (bd (dp + 1) 4) f1n_9 f2n_9 f3n_9 f4n_9 f5n_9 (by omega) (hww) (hkk)) (cwV 0 hts gX2_tryRows_X3_pass rfl rfl rfl (by decide +kernel) ⟨by show 3 + 1 ≤ 14 - dp; omega, by show 8 + (3 + 11) + 66 ≤ 3000 - 200 * dp; omega⟩) (pvW 3 2 hK hP rfl rfl hc_39) rfl rfl hl.1 rfl (lv_room (Nat.le_of_ble_eq_true rfl)) dX2_tryRows_83 ⟨Nat.le_of_ble_eq_true rfl, Nat.le_of_ble_eq_true rfl⟩) hS (fun q _ h => hc_39.2.2 q h) hc_39.2.2 (fun u_39 t_39 H1 locs ht hvm h_39 hB hz1 hk1 hS => ?_)
      refine xl_4_3 hB (fun v5n_39 g3n_39 g4n_39 g5n_39 hP1 hD1 hF_39_0 => ?_)
      clear hB
      rw [ht] at hP1
      obtain ⟨hP, hD⟩ := va_joinQ (wr := [(xo_2_riiiii c0 be (nI hn) wa br bw bt), (xJ be cL 9 fb), (xo_3_iiiiiiiirrrrr (ad dp) (V dp 0) (V dp 1) (V dp 2) (V dp 3) (nI hh) (V dp 5) (nI ww) (nI kk) (bd dp 0) (bd dp 1) (bd dp 2) (bd dp 3) (bd dp 4)), (xI (bd dp 0) cI 6 (G dp 0)), (xI (bd dp 1) cI 6 (G dp 1)), (xI (bd dp 2) cI 6 (G dp 2)), (xI (bd dp 3) cI 6 (G dp 3)), (xI (bd dp 4) cI 6 (G dp 4))]) (w1 := [(xo_3_iiiiiiiirrrrr (ad (dp + 1)) (V dp 0) (V dp 1) (V dp 2) 0 (nI (hh + 1)) v5n_39 (nI ww) (nI kk) (bd (dp + 1) 0) (bd (dp + 1) 1) (bd (dp + 1) 2) (bd (dp + 1) 3) (bd (dp + 1) 4)), (xI (bd (dp + 1) 0) cI 6 f1n_9), (xI (bd (dp + 1) 1) cI 6 f2n_9), (xI (bd (dp + 1) 2) cI 6 g3n_39), (xI (bd (dp + 1) 3) cI 6 g4n_39), (xI (bd (dp + 1) 4) cI 6 g5n_39)]) hP hD [2, 3, 4, 5, 6, 7] [0, 1, 8, 9, 10, 11, 12, 13] rfl rfl (by decide +kernel) (by decide +kernel) hk1 hc_39.2.2 hP1 hD1
      generalize H1 = H at hP hS ⊢
      have hP : va_P (dC, dI) vwCl (([(xo_2_riiiii c0 be (nI hn) wa br bw bt), (xJ be cL 9 fb), (xo_3_iiiiiiiirrrrr (ad dp) (V dp 0) (V dp 1) (V dp 2) (V dp 3) (nI hh) (V dp 5) (nI ww) (nI kk) (bd dp 0) (bd dp 1) (bd dp 2) (bd dp 3) (bd dp 4)), (xI (bd dp 0) cI 6 (G dp 0)), (xI (bd dp 1) cI 6 (G dp 1)), (xI (bd dp 2) cI 6 (G dp 2)), (xI (bd dp 3) cI 6 (G dp 3)), (xI (bd dp 4) cI 6 (G dp 4)), (xo_3_iiiiiiiirrrrr (ad (dp + 1)) (V dp 0) (V dp 1) (V dp 2) 0 (nI (hh + 1)) v5n_39 (nI ww) (nI kk) (bd (dp + 1) 0) (bd (dp + 1) 1) (bd (dp + 1) 2) (bd (dp + 1) 3) (bd (dp + 1) 4)), (xI (bd (dp + 1) 0) cI 6 f1n_9), (xI (bd (dp + 1) 1) cI 6 f2n_9), (xI (bd (dp + 1) 2) cI 6 g3n_39), (xI (bd (dp + 1) 3) cI 6 g4n_39), (xI (bd (dp + 1) 4) cI 6 g5n_39)] : va_W) ++ pl_8) H := hP
      have hD := dto hP hD
      refine lv_aload_n hx hb dX2_tryRows_86 rfl (lv_at hl 3 rfl) ?_
      refine lv_iload_n hx hb dX2_tryRows_87 rfl (lv_at hl 4 rfl) ?_
      refine lv_iconst (v := 1) hx hb dX2_tryRows_88 (by decide) ?_
      refine lv_iadd hx hb dX2_tryRows_89 ?_
      refine lv_topi (fun v_40 e_40 => ?_)
      obtain rfl : v_40 = (nI (dp + 1)) := (e_40).trans (nI_add dp 1)
      refine lv_iload_n hx hb dX2_tryRows_90 rfl (lv_at hl 5 rfl) ?_
      refine lv_iconst (v := 1) hx hb dX2_tryRows_91 (by decide) ?_
      refine lv_ishl hx hb dX2_tryRows_92 ?_
      refine lv_topi (fun v_41 e_41 => ?_)
      refine lv_iload hx hb dX2_tryRows_93 (lv_at hl 2 rfl) ?_
      refine lv_ior hx hb dX2_tryRows_95 ?_
      refine lv_topi (fun v_42 e_42 => ?_)
      refine lv_iload_n hx hb dX2_tryRows_96 rfl (lv_at hl 6 rfl) ?_
      refine lv_iload hx hb dX2_tryRows_97 (lv_at hl 0 rfl) ?_
      refine lv_iadd hx hb dX2_tryRows_99 ?_
      refine lv_topi (fun v_43 e_43 => ?_)
      have hP := hbP_8 [(xo_2_riiiii c0 be (nI hn) wa br bw bt), (xJ be cL 9 fb)] ((nI hh)) ((nI ww)) ((nI kk)) ((V dp 0)) ((V dp 1)) ((V dp 2)) (0) ((nI (hh + 1))) (v5n_39) ((nI ww)) ((nI kk)) (f1n_9) (f2n_9) (g3n_39) (g4n_39) (g5n_39) _ e4 e6 e7 (hP.part (cx := (([(xo_2_riiiii c0 be (nI hn) wa br bw bt), (xJ be cL 9 fb)] : va_W) ++ ([(xo_3_iiiiiiiirrrrr (ad dp) (V dp 0) (V dp 1) (V dp 2) (V dp 3) (nI hh) (V dp 5) (nI ww) (nI kk) (bd dp 0) (bd dp 1) (bd dp 2) (bd dp 3) (bd dp 4)), (xI (bd dp 0) cI 6 (G dp 0)), (xI (bd dp 1) cI 6 (G dp 1)), (xI (bd dp 2) cI 6 (G dp 2)), (xI (bd dp 3) cI 6 (G dp 3)), (xI (bd dp 4) cI 6 (G dp 4)), (xo_3_iiiiiiiirrrrr (ad (dp + 1)) (V dp 0) (V dp 1) (V dp 2) 0 (nI (hh + 1)) v5n_39 (nI ww) (nI kk) (bd (dp + 1) 0) (bd (dp + 1) 1) (bd (dp + 1) 2) (bd (dp + 1) 3) (bd (dp + 1) 4)), (xI (bd (dp + 1) 0) cI 6 f1n_9), (xI (bd (dp + 1) 1) cI 6 f2n_9), (xI (bd (dp + 1) 2) cI 6 g3n_39), (xI (bd (dp + 1) 3) cI 6 g4n_39), (xI (bd (dp + 1) 4) cI 6 g5n_39)] : va_W))) [0, 1, 2, 3, 4, 5, 6, 7, 8, 9, 10, 11, 12, 13] rfl)
      have hD := hbD_8 [(xo_2_riiiii c0 be (nI hn) wa br bw bt), (xJ be cL 9 fb)] ((nI hh)) ((nI ww)) ((nI kk)) ((V dp 0)) ((V dp 1)) ((V dp 2)) (0) ((nI (hh + 1))) (v5n_39) ((nI ww)) ((nI kk)) (f1n_9) (f2n_9) (g3n_39) (g4n_39) (g5n_39) _ e4 e6 e7 (hD.part (cx := (([(xo_2_riiiii c0 be (nI hn) wa br bw bt), (xJ be cL 9 fb)] : va_W) ++ ([(xo_3_iiiiiiiirrrrr (ad dp) (V dp 0) (V dp 1) (V dp 2) (V dp 3) (nI hh) (V dp 5) (nI ww) (nI kk) (bd dp 0) (bd dp 1) (bd dp 2) (bd dp 3) (bd dp 4)), (xI (bd dp 0) cI 6 (G dp 0)), (xI (bd dp 1) cI 6 (G dp 1)), (xI (bd dp 2) cI 6 (G dp 2)), (xI (bd dp 3) cI 6 (G dp 3)), (xI (bd dp 4) cI 6 (G dp 4)), (xo_3_iiiiiiiirrrrr (ad (dp + 1)) (V dp 0) (V dp 1) (V dp 2) 0 (nI (hh + 1)) v5n_39 (nI ww) (nI kk) (bd (dp + 1) 0) (bd (dp + 1) 1) (bd (dp + 1) 2) (bd (dp + 1) 3) (bd (dp + 1) 4)), (xI (bd (dp + 1) 0) cI 6 f1n_9), (xI (bd (dp + 1) 1) cI 6 f2n_9), (xI (bd (dp + 1) 2) cI 6 g3n_39), (xI (bd (dp + 1) 3) cI 6 g4n_39), (xI (bd (dp + 1) 4) cI 6 g5n_39)] : va_W))) [0, 1, 2, 3, 4, 5, 6, 7, 8, 9, 10, 11, 12, 13] (by decide +kernel) rfl)
      generalize hV_44 : va_up V (dp + 1) (fun k => [(V dp 0), (V dp 1), (V dp 2), 0, (nI (hh + 1)), v5n_39, (nI ww), (nI kk)].getD k 0) = V_44 at hP hD
      generalize hG_44 : va_up G (dp + 1) (fun k => [f1n_9, f2n_9, g3n_39, g4n_39, g5n_39].getD k (fun _ => 0)) = G_44 at hP hD
      have hP : va_P (dC, dI) vwCl (([(xo_2_riiiii c0 be (nI hn) wa br bw bt), (xJ be cL 9 fb)] : va_W) ++ lvs cI 9 ad bd V_44 G_44) H := hP
      have hD : va_D A (([(xo_2_riiiii c0 be (nI hn) wa br bw bt), (xJ be cL 9 fb)] : va_W) ++ lvs cI 9 ad bd V_44 G_44) := hD
      have s4_44 : V_44 (dp + 1) 4 = (nI (hh + 1)) := by rw [← hV_44, va_up_self]; rfl
      have s6_44 : V_44 (dp + 1) 6 = (nI ww) := by rw [← hV_44, va_up_self]; rfl
      have s7_44 : V_44 (dp + 1) 7 = (nI kk) := by rw [← hV_44, va_up_self]; rfl
      have kp_44 : ∀ j : Nat, j ≤ dp → V_44 j = V j ∧ G_44 j = G j := fun j hj => by rw [← hV_44, ← hG_44, va_up_ne _ _ (by omega), va_up_ne _ _ (by omega)]; exact ⟨rfl, rfl⟩
      have a4_44 : V_44 dp 4 = nI hh := by rw [(kp_44 dp (Nat.le_refl _)).1]; exact e4
      have a6_44 : V_44 dp 6 = nI ww := by rw [(kp_44 dp (Nat.le_refl _)).1]; exact e6
      have a7_44 : V_44 dp 7 = nI kk := by rw [(kp_44 dp (Nat.le_refl _)).1]; exact e7
      have nx_44 : nrV (V_44 (dp + 1)) (G_44 (dp + 1)) = mH (upd (nrV (V dp) (G dp)) 6 0) ∧ okN (999 + (dp + 1)) (nrV (V_44 (dp + 1)) (G_44 (dp + 1))) := by
        rw [← hV_44, ← hG_44, va_up_self, va_up_self]
        exact cap_nx rfl rfl hN e4 e6 e7 hhb hww hkk (by omega) (by decide) hF_9_0 hF_9_1 hF_9_2 hF_9_3 hF_9_4 hF_39_0
      have hc_45 := cutP (cx := [(xo_2_riiiii c0 be (nI hn) wa br bw bt), (xJ be cL 9 fb)]) hP hD hS hA [0, 1] (by decide +kernel) rfl
      refine va_callv (va_runV (As := [.int (nI (dp + 1)), .int v_42, .int v_43]) (rest := []) ⟨hx, hb, hml, hown, hts⟩ (IH l dC dI cI cZ cL cJ H.size c0 be hn wa br bw bt fb ad bd V_44 G_44 (hh + 1) ww kk v_42 v_43 (hfb) (s4_44) (s6_44) (s7_44) (by omega) (hww) (hkk) (by omega) (hn8) (nx_44.2)) (cwV 3 hts gX2_tryRows_X2_tryRows rfl rfl rfl (by decide +kernel) ⟨by show 14 - (dp + 1) + 1 ≤ 14 - dp; omega, by show 8 + (7 + 11) + (3000 - 200 * (dp + 1)) ≤ 3000 - 200 * dp; omega⟩) (pvW 2 0 hK hP rfl rfl hc_45) rfl rfl hl.1 rfl (lv_room (Nat.le_of_ble_eq_true rfl)) dX2_tryRows_100 ⟨Nat.le_of_ble_eq_true rfl, Nat.le_of_ble_eq_true rfl⟩) hS (fun q _ h => hc_45.2.2 q h) hc_45.2.2 (fun u_45 t_45 H1 locs ht hvm h_45 hB hz1 hk1 hS => ?_)
      refine xl_5_4 hB (fun Vn_45 Gn_45 brn_45 bwn_45 btn_45 hP1 hD1 hF_45_0 hF_45_1 => ?_)
      clear hB
      rw [ht] at hP1
      obtain ⟨hP, hD⟩ := va_joinP (wr := []) (rx := [(xo_2_riiiii c0 be (nI hn) wa brn_45 bwn_45 btn_45), (xJ be cL 9 fb)]) (pl1 := lvs cI 9 ad bd Vn_45 Gn_45) hP hD [0, 1] [] rfl rfl (by decide +kernel) (by decide +kernel) hk1 hc_45.2.2 hP1 hD1
      generalize H1 = H at hP hS ⊢
      have hP : va_P (dC, dI) vwCl (([(xo_2_riiiii c0 be (nI hn) wa brn_45 bwn_45 btn_45), (xJ be cL 9 fb)] : va_W) ++ lvs cI 9 ad bd Vn_45 Gn_45) H := hP
      have hD := dto hP hD
      have kq_45 : ∀ j : Nat, j ≤ dp → Vn_45 j = V j ∧ Gn_45 j = G j := fun j hj => ⟨(hF_45_0 j (by omega)).1.trans ((kp_44 j hj)).1, (hF_45_0 j (by omega)).2.trans ((kp_44 j hj)).2⟩
      have b4_45 : Vn_45 dp 4 = nI hh := by rw [(kq_45 dp (Nat.le_refl _)).1]; exact e4
      have b6_45 : Vn_45 dp 6 = nI ww := by rw [(kq_45 dp (Nat.le_refl _)).1]; exact e6
      have b7_45 : Vn_45 dp 7 = nI kk := by rw [(kq_45 dp (Nat.le_refl _)).1]; exact e7
      have kd_45 : Vn_45 dp = V dp := (kq_45 dp (Nat.le_refl _)).1
      refine lv_iinc (v := 1) (lv' := [(4, .int 1), (6, .int 0), (5, .ref (ad (dp + 1))), (0, .ref c0), (1, .int (nI dp)), (2, .int x), (3, .int y)]) hx hb dX2_tryRows_103 hl (k := 2) rfl (by decide) (by decide) rfl (fun ls hl => ?_)
      refine lv_goto (tgt := 30) hx hb dX2_tryRows_106 (by decide) ?_
      refine lv_iload hx hb dX2_tryRows_30 (lv_at hl 0 rfl) ?_
      refine lv_iconst (v := 1) hx hb dX2_tryRows_32 (by decide) ?_
      refine lv_icmp_gt (tgt := 109) hx hb dX2_tryRows_33 (by decide) (fun c_ => absurd c_ (by decide)) (fun _ => ?_)
      refine lv_aload_n hx hb dX2_tryRows_36 rfl (lv_at hl 3 rfl) ?_
      refine va_get (D := (dC, dI)) (ci := 2) (v := .ref be) (C := RX2) (T := TX2) (N := 6) hx hb hts i_X2_tryRows_X2 hown hK hP 0 rfl rfl 0 (by decide) (hts _ mx_X2_tryRows_2) (fun _ h9 => h9) rfl dX2_tryRows_37 ?_
      refine lv_iload_n hx hb dX2_tryRows_40 rfl (lv_at hl 4 rfl) ?_
      refine lv_iconst (v := 1) hx hb dX2_tryRows_41 (by decide) ?_
      refine lv_iadd hx hb dX2_tryRows_42 ?_
      refine lv_topi (fun v_47 e_47 => ?_)
      obtain rfl : v_47 = (nI (dp + 1)) := (e_47).trans (nI_add dp 1)
      refine va_aldq hx hb hK hP 1 2 rfl rfl (vp_in_nI (by omega) (by omega)) dX2_tryRows_43 ?_
      refine W.eq (g2 := F0 m 44 ls (.ref (ad (dp + 1)) :: [])) (by show F0 m 44 ls (va_rf (fb (nI (dp + 1)).toNatClampNeg) :: _) = _; rw [nI_clamp (by omega), hfb _ (by omega)]; rfl) ?_
      obtain ⟨pl_48, hP, hD, hbP_48, hbD_48⟩ := blk_opn2 hP hD (i := dp) (by omega)
      have hP : va_P (dC, dI) vwCl (([(xo_2_riiiii c0 be (nI hn) wa brn_45 bwn_45 btn_45), (xJ be cL 9 fb), (xo_3_iiiiiiiirrrrr (ad dp) (Vn_45 dp 0) (Vn_45 dp 1) (Vn_45 dp 2) (Vn_45 dp 3) (Vn_45 dp 4) (Vn_45 dp 5) (Vn_45 dp 6) (Vn_45 dp 7) (bd dp 0) (bd dp 1) (bd dp 2) (bd dp 3) (bd dp 4)), (xI (bd dp 0) cI 6 (Gn_45 dp 0)), (xI (bd dp 1) cI 6 (Gn_45 dp 1)), (xI (bd dp 2) cI 6 (Gn_45 dp 2)), (xI (bd dp 3) cI 6 (Gn_45 dp 3)), (xI (bd dp 4) cI 6 (Gn_45 dp 4)), (xo_3_iiiiiiiirrrrr (ad (dp + 1)) (Vn_45 (dp + 1) 0) (Vn_45 (dp + 1) 1) (Vn_45 (dp + 1) 2) (Vn_45 (dp + 1) 3) (Vn_45 (dp + 1) 4) (Vn_45 (dp + 1) 5) (Vn_45 (dp + 1) 6) (Vn_45 (dp + 1) 7) (bd (dp + 1) 0) (bd (dp + 1) 1) (bd (dp + 1) 2) (bd (dp + 1) 3) (bd (dp + 1) 4)), (xI (bd (dp + 1) 0) cI 6 (Gn_45 (dp + 1) 0)), (xI (bd (dp + 1) 1) cI 6 (Gn_45 (dp + 1) 1)), (xI (bd (dp + 1) 2) cI 6 (Gn_45 (dp + 1) 2)), (xI (bd (dp + 1) 3) cI 6 (Gn_45 (dp + 1) 3)), (xI (bd (dp + 1) 4) cI 6 (Gn_45 (dp + 1) 4))] : va_W) ++ pl_48) H := hP
      have hD : va_D A (([(xo_2_riiiii c0 be (nI hn) wa brn_45 bwn_45 btn_45), (xJ be cL 9 fb), (xo_3_iiiiiiiirrrrr (ad dp) (Vn_45 dp 0) (Vn_45 dp 1) (Vn_45 dp 2) (Vn_45 dp 3) (Vn_45 dp 4) (Vn_45 dp 5) (Vn_45 dp 6) (Vn_45 dp 7) (bd dp 0) (bd dp 1) (bd dp 2) (bd dp 3) (bd dp 4)), (xI (bd dp 0) cI 6 (Gn_45 dp 0)), (xI (bd dp 1) cI 6 (Gn_45 dp 1)), (xI (bd dp 2) cI 6 (Gn_45 dp 2)), (xI (bd dp 3) cI 6 (Gn_45 dp 3)), (xI (bd dp 4) cI 6 (Gn_45 dp 4)), (xo_3_iiiiiiiirrrrr (ad (dp + 1)) (Vn_45 (dp + 1) 0) (Vn_45 (dp + 1) 1) (Vn_45 (dp + 1) 2) (Vn_45 (dp + 1) 3) (Vn_45 (dp + 1) 4) (Vn_45 (dp + 1) 5) (Vn_45 (dp + 1) 6) (Vn_45 (dp + 1) 7) (bd (dp + 1) 0) (bd (dp + 1) 1) (bd (dp + 1) 2) (bd (dp + 1) 3) (bd (dp + 1) 4)), (xI (bd (dp + 1) 0) cI 6 (Gn_45 (dp + 1) 0)), (xI (bd (dp + 1) 1) cI 6 (Gn_45 (dp + 1) 1)), (xI (bd (dp + 1) 2) cI 6 (Gn_45 (dp + 1) 2)), (xI (bd (dp + 1) 3) cI 6 (Gn_45 (dp + 1) 3)), (xI (bd (dp + 1) 4) cI 6 (Gn_45 (dp + 1) 4))] : va_W) ++ pl_48) := hD
      rw [b4_45, b6_45, b7_45] at hP hD
      refine lv_astore (lv' := [(5, .ref (ad (dp + 1))), (4, .int 1), (6, .int 0), (0, .ref c0), (1, .int (nI dp)), (2, .int x), (3, .int y)]) hx hb dX2_tryRows_44 hl (by decide) rfl (fun ls hl => ?_)
      refine lv_aload hx hb dX2_tryRows_46 (lv_at hl 0 rfl) ?_
      refine lv_aload_n hx hb dX2_tryRows_48 rfl (lv_at hl 3 rfl) ?_
      refine va_get (D := (dC, dI)) (ci := 2) (v := .ref be) (C := RX2) (T := TX2) (N := 6) hx hb hts i_X2_tryRows_X2 hown hK hP 0 rfl rfl 0 (by decide) (hts _ mx_X2_tryRows_2) (fun _ h9 => h9) rfl dX2_tryRows_49 ?_
      refine lv_iload_n hx hb dX2_tryRows_52 rfl (lv_at hl 4 rfl) ?_
      refine va_aldq hx hb hK hP 1 2 rfl rfl (vp_in_nI (by omega) (by omega)) dX2_tryRows_53 ?_
      refine W.eq (g2 := F0 m 54 ls (.ref (ad dp) :: [.ref (ad (dp + 1))])) (by show F0 m 54 ls (va_rf (fb (nI dp).toNatClampNeg) :: _) = _; rw [nI_clamp (by omega), hfb _ (by omega)]; rfl) ?_
      have hc_49 := cutX (wc := [(xo_3_iiiiiiiirrrrr (ad (dp + 1)) (Vn_45 (dp + 1) 0) (Vn_45 (dp + 1) 1) (Vn_45 (dp + 1) 2) (Vn_45 (dp + 1) 3) (Vn_45 (dp + 1) 4) (Vn_45 (dp + 1) 5) (Vn_45 (dp + 1) 6) (Vn_45 (dp + 1) 7) (bd (dp + 1) 0) (bd (dp + 1) 1) (bd (dp + 1) 2) (bd (dp + 1) 3) (bd (dp + 1) 4)), (xI (bd (dp + 1) 0) cI 6 (Gn_45 (dp + 1) 0)), (xI (bd (dp + 1) 1) cI 6 (Gn_45 (dp + 1) 1)), (xI (bd (dp + 1) 2) cI 6 (Gn_45 (dp + 1) 2)), (xI (bd (dp + 1) 3) cI 6 (Gn_45 (dp + 1) 3)), (xI (bd (dp + 1) 4) cI 6 (Gn_45 (dp + 1) 4)), (xo_3_iiiiiiiirrrrr (ad dp) (Vn_45 dp 0) (Vn_45 dp 1) (Vn_45 dp 2) (Vn_45 dp 3) (nI hh) (Vn_45 dp 5) (nI ww) (nI kk) (bd dp 0) (bd dp 1) (bd dp 2) (bd dp 3) (bd dp 4)), (xI (bd dp 0) cI 6 (Gn_45 dp 0)), (xI (bd dp 1) cI 6 (Gn_45 dp 1)), (xI (bd dp 2) cI 6 (Gn_45 dp 2)), (xI (bd dp 3) cI 6 (Gn_45 dp 3)), (xI (bd dp 4) cI 6 (Gn_45 dp 4))]) hP hD hS hA [8, 9, 10, 11, 12, 13, 2, 3, 4, 5, 6, 7] (by decide +kernel) rfl
      refine va_callv (va_runV (As := [.ref (ad dp)]) (rest := []) ⟨hx, hb, hml, hown, hts⟩ (r_X3_becomeLike l dC dI cI cZ cL cJ H.size (ad (dp + 1)) (Vn_45 (dp + 1) 0) (Vn_45 (dp + 1) 1) (Vn_45 (dp + 1) 2) (Vn_45 (dp + 1) 3) (Vn_45 (dp + 1) 4) (Vn_45 (dp + 1) 5) (Vn_45 (dp + 1) 6) (Vn_45 (dp + 1) 7) (bd (dp + 1) 0) (bd (dp + 1) 1) (bd (dp + 1) 2) (bd (dp + 1) 3) (bd (dp + 1) 4) (Gn_45 (dp + 1) 0) (Gn_45 (dp + 1) 1) (Gn_45 (dp + 1) 2) (Gn_45 (dp + 1) 3) (Gn_45 (dp + 1) 4) (ad dp) (Vn_45 dp 0) (Vn_45 dp 1) (Vn_45 dp 2) (Vn_45 dp 3) (nI hh) (Vn_45 dp 5) (nI ww) (nI kk) (bd dp 0) (bd dp 1) (bd dp 2) (bd dp 3) (bd dp 4) (Gn_45 dp 0) (Gn_45 dp 1) (Gn_45 dp 2) (Gn_45 dp 3) (Gn_45 dp 4) ) (cwV 1 hts gX2_tryRows_X3_becomeLike rfl rfl rfl (by decide +kernel) ⟨by show 1 + 1 ≤ 14 - dp; omega, by show 8 + (2 + 11) + 80 ≤ 3000 - 200 * dp; omega⟩) (pvW 3 8 hK hP rfl rfl hc_49) rfl rfl hl.1 rfl (lv_room (Nat.le_of_ble_eq_true rfl)) dX2_tryRows_54 ⟨Nat.le_of_ble_eq_true rfl, Nat.le_of_ble_eq_true rfl⟩) hS (fun q _ h => hc_49.2.2 q h) hc_49.2.2 (fun u_49 t_49 H1 locs ht hvm h_49 hB hz1 hk1 hS => ?_)
      refine xl_5_7 hB (fun f1n_49 f2n_49 f3n_49 f4n_49 f5n_49 hP1 hD1 hF_49_0 hF_49_1 hF_49_2 hF_49_3 hF_49_4 => ?_)
      clear hB
      rw [ht] at hP1
      obtain ⟨hP, hD⟩ := va_joinQ (wr := [(xo_2_riiiii c0 be (nI hn) wa brn_45 bwn_45 btn_45), (xJ be cL 9 fb)]) (w1 := [(xo_3_iiiiiiiirrrrr (ad (dp + 1)) (Vn_45 dp 0) (Vn_45 dp 1) (Vn_45 dp 2) (Vn_45 dp 3) (nI hh) (Vn_45 dp 5) (nI ww) (nI kk) (bd (dp + 1) 0) (bd (dp + 1) 1) (bd (dp + 1) 2) (bd (dp + 1) 3) (bd (dp + 1) 4)), (xI (bd (dp + 1) 0) cI 6 f1n_49), (xI (bd (dp + 1) 1) cI 6 f2n_49), (xI (bd (dp + 1) 2) cI 6 f3n_49), (xI (bd (dp + 1) 3) cI 6 f4n_49), (xI (bd (dp + 1) 4) cI 6 f5n_49), (xo_3_iiiiiiiirrrrr (ad dp) (Vn_45 dp 0) (Vn_45 dp 1) (Vn_45 dp 2) (Vn_45 dp 3) (nI hh) (Vn_45 dp 5) (nI ww) (nI kk) (bd dp 0) (bd dp 1) (bd dp 2) (bd dp 3) (bd dp 4)), (xI (bd dp 0) cI 6 (Gn_45 dp 0)), (xI (bd dp 1) cI 6 (Gn_45 dp 1)), (xI (bd dp 2) cI 6 (Gn_45 dp 2)), (xI (bd dp 3) cI 6 (Gn_45 dp 3)), (xI (bd dp 4) cI 6 (Gn_45 dp 4))]) hP hD [8, 9, 10, 11, 12, 13, 2, 3, 4, 5, 6, 7] [0, 1] rfl rfl (by decide +kernel) (by decide +kernel) hk1 hc_49.2.2 hP1 hD1
      generalize H1 = H at hP hS ⊢
      have hP : va_P (dC, dI) vwCl (([(xo_2_riiiii c0 be (nI hn) wa brn_45 bwn_45 btn_45), (xJ be cL 9 fb), (xo_3_iiiiiiiirrrrr (ad (dp + 1)) (Vn_45 dp 0) (Vn_45 dp 1) (Vn_45 dp 2) (Vn_45 dp 3) (nI hh) (Vn_45 dp 5) (nI ww) (nI kk) (bd (dp + 1) 0) (bd (dp + 1) 1) (bd (dp + 1) 2) (bd (dp + 1) 3) (bd (dp + 1) 4)), (xI (bd (dp + 1) 0) cI 6 f1n_49), (xI (bd (dp + 1) 1) cI 6 f2n_49), (xI (bd (dp + 1) 2) cI 6 f3n_49), (xI (bd (dp + 1) 3) cI 6 f4n_49), (xI (bd (dp + 1) 4) cI 6 f5n_49), (xo_3_iiiiiiiirrrrr (ad dp) (Vn_45 dp 0) (Vn_45 dp 1) (Vn_45 dp 2) (Vn_45 dp 3) (nI hh) (Vn_45 dp 5) (nI ww) (nI kk) (bd dp 0) (bd dp 1) (bd dp 2) (bd dp 3) (bd dp 4)), (xI (bd dp 0) cI 6 (Gn_45 dp 0)), (xI (bd dp 1) cI 6 (Gn_45 dp 1)), (xI (bd dp 2) cI 6 (Gn_45 dp 2)), (xI (bd dp 3) cI 6 (Gn_45 dp 3)), (xI (bd dp 4) cI 6 (Gn_45 dp 4))] : va_W) ++ pl_48) H := hP
      have hD := dto hP hD
      refine lv_aload hx hb dX2_tryRows_57 (lv_at hl 0 rfl) ?_
      refine va_get (D := (dC, dI)) (ci := 3) (v := .int (Vn_45 dp 3)) (C := RX3) (T := TX3) (N := 13) hx hb hts i_X2_tryRows_X3 hown hK hP 2 rfl rfl 3 (by decide) (hts _ mx_X2_tryRows_3) (fun _ h9 => h9) rfl dX2_tryRows_59 ?_
      refine lv_iload hx hb dX2_tryRows_62 (lv_at hl 1 rfl) ?_
      refine lv_icmp_ne (tgt := 71) hx hb dX2_tryRows_64 (by decide) (fun c_50 => ?_) (fun c_50 => ?_)
      · skip
        refine lv_iconst (v := 1) hx hb dX2_tryRows_71 (by decide) ?_
        refine lv_istore (lv' := [(6, .int 1), (5, .ref (ad (dp + 1))), (4, .int 1), (0, .ref c0), (1, .int (nI dp)), (2, .int x), (3, .int y)]) hx hb dX2_tryRows_72 hl (by decide) rfl (fun ls hl => ?_)
        refine lv_aload hx hb dX2_tryRows_74 (lv_at hl 1 rfl) ?_
        refine lv_iload hx hb dX2_tryRows_76 (lv_at hl 2 rfl) ?_
        refine va_put (D := (dC, dI)) (ci := 3) (v := .int 1) (ty := .int) (C := RX3) (T := TX3) (N := 13) hx hb hts i_X2_tryRows_X3 tyX3 tyX3_ok nmX3 hown hK hP hD hS 2 rfl rfl 3 (by decide) (hts _ mx_X2_tryRows_3) (fun _ h9 => h9) rfl (by decide +kernel) rfl rfl (Nat.le_of_ble_eq_true rfl) dX2_tryRows_78 (fun H locs hP hD hS => ?_)
        have hP : va_P (dC, dI) vwCl (([(xo_2_riiiii c0 be (nI hn) wa brn_45 bwn_45 btn_45), (xJ be cL 9 fb), (xo_3_iiiiiiiirrrrr (ad (dp + 1)) (Vn_45 dp 0) (Vn_45 dp 1) (Vn_45 dp 2) 1 (nI hh) (Vn_45 dp 5) (nI ww) (nI kk) (bd (dp + 1) 0) (bd (dp + 1) 1) (bd (dp + 1) 2) (bd (dp + 1) 3) (bd (dp + 1) 4)), (xI (bd (dp + 1) 0) cI 6 f1n_49), (xI (bd (dp + 1) 1) cI 6 f2n_49), (xI (bd (dp + 1) 2) cI 6 f3n_49), (xI (bd (dp + 1) 3) cI 6 f4n_49), (xI (bd (dp + 1) 4) cI 6 f5n_49), (xo_3_iiiiiiiirrrrr (ad dp) (Vn_45 dp 0) (Vn_45 dp 1) (Vn_45 dp 2) (Vn_45 dp 3) (nI hh) (Vn_45 dp 5) (nI ww) (nI kk) (bd dp 0) (bd dp 1) (bd dp 2) (bd dp 3) (bd dp 4)), (xI (bd dp 0) cI 6 (Gn_45 dp 0)), (xI (bd dp 1) cI 6 (Gn_45 dp 1)), (xI (bd dp 2) cI 6 (Gn_45 dp 2)), (xI (bd dp 3) cI 6 (Gn_45 dp 3)), (xI (bd dp 4) cI 6 (Gn_45 dp 4))] : va_W) ++ pl_48) H := hP
        have hD := dto hP hD
        refine lv_aload hx hb dX2_tryRows_81 (lv_at hl 1 rfl) ?_
        have hc_51 := cutX (wc := [(xo_3_iiiiiiiirrrrr (ad (dp + 1)) (Vn_45 dp 0) (Vn_45 dp 1) (Vn_45 dp 2) 1 (nI hh) (Vn_45 dp 5) (nI ww) (nI kk) (bd (dp + 1) 0) (bd (dp + 1) 1) (bd (dp + 1) 2) (bd (dp + 1) 3) (bd (dp + 1) 4)), (xI (bd (dp + 1) 0) cI 6 f1n_49), (xI (bd (dp + 1) 1) cI 6 f2n_49), (xI (bd (dp + 1) 2) cI 6 f3n_49), (xI (bd (dp + 1) 3) cI 6 f4n_49), (xI (bd (dp + 1) 4) cI 6 f5n_49)]) hP hD hS hA [2, 3, 4, 5, 6, 7] (by decide +kernel) rfl
        refine va_callv (va_runV (As := []) (rest := []) ⟨hx, hb, hml, hown, hts⟩ (r_X3_pass l dC dI cI cZ cL cJ H.size (ad (dp + 1)) (Vn_45 dp 0) (Vn_45 dp 1) (Vn_45 dp 2) 1 (Vn_45 dp 5) hh ww kk (bd (dp + 1) 0) (bd (dp + 1) 1) (bd (dp + 1) 2) (bd (dp + 1) 3) (bd (dp + 1) 4) f1n_49 f2n_49 f3n_49 f4n_49 f5n_49 (by omega) (hww) (hkk)) (cwV 0 hts gX2_tryRows_X3_pass rfl rfl rfl (by decide +kernel) ⟨by show 3 + 1 ≤ 14 - dp; omega, by show 8 + (3 + 11) + 66 ≤ 3000 - 200 * dp; omega⟩) (pvW 3 2 hK hP rfl rfl hc_51) rfl rfl hl.1 rfl (lv_room (Nat.le_of_ble_eq_true rfl)) dX2_tryRows_83 ⟨Nat.le_of_ble_eq_true rfl, Nat.le_of_ble_eq_true rfl⟩) hS (fun q _ h => hc_51.2.2 q h) hc_51.2.2 (fun u_51 t_51 H1 locs ht hvm h_51 hB hz1 hk1 hS => ?_)
        refine xl_4_3 hB (fun v5n_51 g3n_51 g4n_51 g5n_51 hP1 hD1 hF_51_0 => ?_)
        clear hB
        rw [ht] at hP1
        obtain ⟨hP, hD⟩ := va_joinQ (wr := [(xo_2_riiiii c0 be (nI hn) wa brn_45 bwn_45 btn_45), (xJ be cL 9 fb), (xo_3_iiiiiiiirrrrr (ad dp) (Vn_45 dp 0) (Vn_45 dp 1) (Vn_45 dp 2) (Vn_45 dp 3) (nI hh) (Vn_45 dp 5) (nI ww) (nI kk) (bd dp 0) (bd dp 1) (bd dp 2) (bd dp 3) (bd dp 4)), (xI (bd dp 0) cI 6 (Gn_45 dp 0)), (xI (bd dp 1) cI 6 (Gn_45 dp 1)), (xI (bd dp 2) cI 6 (Gn_45 dp 2)), (xI (bd dp 3) cI 6 (Gn_45 dp 3)), (xI (bd dp 4) cI 6 (Gn_45 dp 4))]) (w1 := [(xo_3_iiiiiiiirrrrr (ad (dp + 1)) (Vn_45 dp 0) (Vn_45 dp 1) (Vn_45 dp 2) 1 (nI (hh + 1)) v5n_51 (nI ww) (nI kk) (bd (dp + 1) 0) (bd (dp + 1) 1) (bd (dp + 1) 2) (bd (dp + 1) 3) (bd (dp + 1) 4)), (xI (bd (dp + 1) 0) cI 6 f1n_49), (xI (bd (dp + 1) 1) cI 6 f2n_49), (xI (bd (dp + 1) 2) cI 6 g3n_51), (xI (bd (dp + 1) 3) cI 6 g4n_51), (xI (bd (dp + 1) 4) cI 6 g5n_51)]) hP hD [2, 3, 4, 5, 6, 7] [0, 1, 8, 9, 10, 11, 12, 13] rfl rfl (by decide +kernel) (by decide +kernel) hk1 hc_51.2.2 hP1 hD1
        generalize H1 = H at hP hS ⊢
        have hP : va_P (dC, dI) vwCl (([(xo_2_riiiii c0 be (nI hn) wa brn_45 bwn_45 btn_45), (xJ be cL 9 fb), (xo_3_iiiiiiiirrrrr (ad dp) (Vn_45 dp 0) (Vn_45 dp 1) (Vn_45 dp 2) (Vn_45 dp 3) (nI hh) (Vn_45 dp 5) (nI ww) (nI kk) (bd dp 0) (bd dp 1) (bd dp 2) (bd dp 3) (bd dp 4)), (xI (bd dp 0) cI 6 (Gn_45 dp 0)), (xI (bd dp 1) cI 6 (Gn_45 dp 1)), (xI (bd dp 2) cI 6 (Gn_45 dp 2)), (xI (bd dp 3) cI 6 (Gn_45 dp 3)), (xI (bd dp 4) cI 6 (Gn_45 dp 4)), (xo_3_iiiiiiiirrrrr (ad (dp + 1)) (Vn_45 dp 0) (Vn_45 dp 1) (Vn_45 dp 2) 1 (nI (hh + 1)) v5n_51 (nI ww) (nI kk) (bd (dp + 1) 0) (bd (dp + 1) 1) (bd (dp + 1) 2) (bd (dp + 1) 3) (bd (dp + 1) 4)), (xI (bd (dp + 1) 0) cI 6 f1n_49), (xI (bd (dp + 1) 1) cI 6 f2n_49), (xI (bd (dp + 1) 2) cI 6 g3n_51), (xI (bd (dp + 1) 3) cI 6 g4n_51), (xI (bd (dp + 1) 4) cI 6 g5n_51)] : va_W) ++ pl_48) H := hP
        have hD := dto hP hD
        refine lv_aload_n hx hb dX2_tryRows_86 rfl (lv_at hl 3 rfl) ?_
        refine lv_iload_n hx hb dX2_tryRows_87 rfl (lv_at hl 4 rfl) ?_
        refine lv_iconst (v := 1) hx hb dX2_tryRows_88 (by decide) ?_
        refine lv_iadd hx hb dX2_tryRows_89 ?_
        refine lv_topi (fun v_52 e_52 => ?_)
        obtain rfl : v_52 = (nI (dp + 1)) := (e_52).trans (nI_add dp 1)
        refine lv_iload_n hx hb dX2_tryRows_90 rfl (lv_at hl 5 rfl) ?_
        refine lv_iconst (v := 1) hx hb dX2_tryRows_91 (by decide) ?_
        refine lv_ishl hx hb dX2_tryRows_92 ?_
        refine lv_topi (fun v_53 e_53 => ?_)
        refine lv_iload hx hb dX2_tryRows_93 (lv_at hl 2 rfl) ?_
        refine lv_ior hx hb dX2_tryRows_95 ?_
        refine lv_topi (fun v_54 e_54 => ?_)
        refine lv_iload_n hx hb dX2_tryRows_96 rfl (lv_at hl 6 rfl) ?_
        refine lv_iload hx hb dX2_tryRows_97 (lv_at hl 0 rfl) ?_
        refine lv_iadd hx hb dX2_tryRows_99 ?_
        refine lv_topi (fun v_55 e_55 => ?_)
        have hP := hbP_48 [(xo_2_riiiii c0 be (nI hn) wa brn_45 bwn_45 btn_45), (xJ be cL 9 fb)] ((nI hh)) ((nI ww)) ((nI kk)) ((Vn_45 dp 0)) ((Vn_45 dp 1)) ((Vn_45 dp 2)) (1) ((nI (hh + 1))) (v5n_51) ((nI ww)) ((nI kk)) (f1n_49) (f2n_49) (g3n_51) (g4n_51) (g5n_51) _ b4_45 b6_45 b7_45 (hP.part (cx := (([(xo_2_riiiii c0 be (nI hn) wa brn_45 bwn_45 btn_45), (xJ be cL 9 fb)] : va_W) ++ ([(xo_3_iiiiiiiirrrrr (ad dp) (Vn_45 dp 0) (Vn_45 dp 1) (Vn_45 dp 2) (Vn_45 dp 3) (nI hh) (Vn_45 dp 5) (nI ww) (nI kk) (bd dp 0) (bd dp 1) (bd dp 2) (bd dp 3) (bd dp 4)), (xI (bd dp 0) cI 6 (Gn_45 dp 0)), (xI (bd dp 1) cI 6 (Gn_45 dp 1)), (xI (bd dp 2) cI 6 (Gn_45 dp 2)), (xI (bd dp 3) cI 6 (Gn_45 dp 3)), (xI (bd dp 4) cI 6 (Gn_45 dp 4)), (xo_3_iiiiiiiirrrrr (ad (dp + 1)) (Vn_45 dp 0) (Vn_45 dp 1) (Vn_45 dp 2) 1 (nI (hh + 1)) v5n_51 (nI ww) (nI kk) (bd (dp + 1) 0) (bd (dp + 1) 1) (bd (dp + 1) 2) (bd (dp + 1) 3) (bd (dp + 1) 4)), (xI (bd (dp + 1) 0) cI 6 f1n_49), (xI (bd (dp + 1) 1) cI 6 f2n_49), (xI (bd (dp + 1) 2) cI 6 g3n_51), (xI (bd (dp + 1) 3) cI 6 g4n_51), (xI (bd (dp + 1) 4) cI 6 g5n_51)] : va_W))) [0, 1, 2, 3, 4, 5, 6, 7, 8, 9, 10, 11, 12, 13] rfl)
        have hD := hbD_48 [(xo_2_riiiii c0 be (nI hn) wa brn_45 bwn_45 btn_45), (xJ be cL 9 fb)] ((nI hh)) ((nI ww)) ((nI kk)) ((Vn_45 dp 0)) ((Vn_45 dp 1)) ((Vn_45 dp 2)) (1) ((nI (hh + 1))) (v5n_51) ((nI ww)) ((nI kk)) (f1n_49) (f2n_49) (g3n_51) (g4n_51) (g5n_51) _ b4_45 b6_45 b7_45 (hD.part (cx := (([(xo_2_riiiii c0 be (nI hn) wa brn_45 bwn_45 btn_45), (xJ be cL 9 fb)] : va_W) ++ ([(xo_3_iiiiiiiirrrrr (ad dp) (Vn_45 dp 0) (Vn_45 dp 1) (Vn_45 dp 2) (Vn_45 dp 3) (nI hh) (Vn_45 dp 5) (nI ww) (nI kk) (bd dp 0) (bd dp 1) (bd dp 2) (bd dp 3) (bd dp 4)), (xI (bd dp 0) cI 6 (Gn_45 dp 0)), (xI (bd dp 1) cI 6 (Gn_45 dp 1)), (xI (bd dp 2) cI 6 (Gn_45 dp 2)), (xI (bd dp 3) cI 6 (Gn_45 dp 3)), (xI (bd dp 4) cI 6 (Gn_45 dp 4)), (xo_3_iiiiiiiirrrrr (ad (dp + 1)) (Vn_45 dp 0) (Vn_45 dp 1) (Vn_45 dp 2) 1 (nI (hh + 1)) v5n_51 (nI ww) (nI kk) (bd (dp + 1) 0) (bd (dp + 1) 1) (bd (dp + 1) 2) (bd (dp + 1) 3) (bd (dp + 1) 4)), (xI (bd (dp + 1) 0) cI 6 f1n_49), (xI (bd (dp + 1) 1) cI 6 f2n_49), (xI (bd (dp + 1) 2) cI 6 g3n_51), (xI (bd (dp + 1) 3) cI 6 g4n_51), (xI (bd (dp + 1) 4) cI 6 g5n_51)] : va_W))) [0, 1, 2, 3, 4, 5, 6, 7, 8, 9, 10, 11, 12, 13] (by decide +kernel) rfl)
        generalize hV_56 : va_up Vn_45 (dp + 1) (fun k => [(Vn_45 dp 0), (Vn_45 dp 1), (Vn_45 dp 2), 1, (nI (hh + 1)), v5n_51, (nI ww), (nI kk)].getD k 0) = V_56 at hP hD
        generalize hG_56 : va_up Gn_45 (dp + 1) (fun k => [f1n_49, f2n_49, g3n_51, g4n_51, g5n_51].getD k (fun _ => 0)) = G_56 at hP hD
        have hP : va_P (dC, dI) vwCl (([(xo_2_riiiii c0 be (nI hn) wa brn_45 bwn_45 btn_45), (xJ be cL 9 fb)] : va_W) ++ lvs cI 9 ad bd V_56 G_56) H := hP
        have hD : va_D A (([(xo_2_riiiii c0 be (nI hn) wa brn_45 bwn_45 btn_45), (xJ be cL 9 fb)] : va_W) ++ lvs cI 9 ad bd V_56 G_56) := hD
        have s4_56 : V_56 (dp + 1) 4 = (nI (hh + 1)) := by rw [← hV_56, va_up_self]; rfl
        have s6_56 : V_56 (dp + 1) 6 = (nI ww) := by rw [← hV_56, va_up_self]; rfl
        have s7_56 : V_56 (dp + 1) 7 = (nI kk) := by rw [← hV_56, va_up_self]; rfl
        have kp_56 : ∀ j : Nat, j ≤ dp → V_56 j = V j ∧ G_56 j = G j := fun j hj => by rw [← hV_56, ← hG_56, va_up_ne _ _ (by omega), va_up_ne _ _ (by omega)]; exact (kq_45 j hj)
        have a4_56 : V_56 dp 4 = nI hh := by rw [(kp_56 dp (Nat.le_refl _)).1]; exact e4
        have a6_56 : V_56 dp 6 = nI ww := by rw [(kp_56 dp (Nat.le_refl _)).1]; exact e6
        have a7_56 : V_56 dp 7 = nI kk := by rw [(kp_56 dp (Nat.le_refl _)).1]; exact e7
        have nx_56 : nrV (V_56 (dp + 1)) (G_56 (dp + 1)) = mH (upd (nrV (V dp) (G dp)) 6 1) ∧ okN (999 + (dp + 1)) (nrV (V_56 (dp + 1)) (G_56 (dp + 1))) := by
          rw [← hV_56, ← hG_56, va_up_self, va_up_self]
          exact cap_nx ((kq_45 dp (Nat.le_refl _))).1 ((kq_45 dp (Nat.le_refl _))).2 hN e4 e6 e7 hhb hww hkk (by omega) (by decide) hF_49_0 hF_49_1 hF_49_2 hF_49_3 hF_49_4 hF_51_0
        have hc_57 := cutP (cx := [(xo_2_riiiii c0 be (nI hn) wa brn_45 bwn_45 btn_45), (xJ be cL 9 fb)]) hP hD hS hA [0, 1] (by decide +kernel) rfl
        refine va_callv (va_runV (As := [.int (nI (dp + 1)), .int v_54, .int v_55]) (rest := []) ⟨hx, hb, hml, hown, hts⟩ (IH l dC dI cI cZ cL cJ H.size c0 be hn wa brn_45 bwn_45 btn_45 fb ad bd V_56 G_56 (hh + 1) ww kk v_54 v_55 (hfb) (s4_56) (s6_56) (s7_56) (by omega) (hww) (hkk) (by omega) (hn8) (nx_56.2)) (cwV 3 hts gX2_tryRows_X2_tryRows rfl rfl rfl (by decide +kernel) ⟨by show 14 - (dp + 1) + 1 ≤ 14 - dp; omega, by show 8 + (7 + 11) + (3000 - 200 * (dp + 1)) ≤ 3000 - 200 * dp; omega⟩) (pvW 2 0 hK hP rfl rfl hc_57) rfl rfl hl.1 rfl (lv_room (Nat.le_of_ble_eq_true rfl)) dX2_tryRows_100 ⟨Nat.le_of_ble_eq_true rfl, Nat.le_of_ble_eq_true rfl⟩) hS (fun q _ h => hc_57.2.2 q h) hc_57.2.2 (fun u_57 t_57 H1 locs ht hvm h_57 hB hz1 hk1 hS => ?_)
        refine xl_5_4 hB (fun Vn_57 Gn_57 brn_57 bwn_57 btn_57 hP1 hD1 hF_57_0 hF_57_1 => ?_)
        clear hB
        rw [ht] at hP1
        obtain ⟨hP, hD⟩ := va_joinP (wr := []) (rx := [(xo_2_riiiii c0 be (nI hn) wa brn_57 bwn_57 btn_57), (xJ be cL 9 fb)]) (pl1 := lvs cI 9 ad bd Vn_57 Gn_57) hP hD [0, 1] [] rfl rfl (by decide +kernel) (by decide +kernel) hk1 hc_57.2.2 hP1 hD1
        generalize H1 = H at hP hS ⊢
        have hP : va_P (dC, dI) vwCl (([(xo_2_riiiii c0 be (nI hn) wa brn_57 bwn_57 btn_57), (xJ be cL 9 fb)] : va_W) ++ lvs cI 9 ad bd Vn_57 Gn_57) H := hP
        have hD := dto hP hD
        have kq_57 : ∀ j : Nat, j ≤ dp → Vn_57 j = V j ∧ Gn_57 j = G j := fun j hj => ⟨(hF_57_0 j (by omega)).1.trans ((kp_56 j hj)).1, (hF_57_0 j (by omega)).2.trans ((kp_56 j hj)).2⟩
        have b4_57 : Vn_57 dp 4 = nI hh := by rw [(kq_57 dp (Nat.le_refl _)).1]; exact e4
        have b6_57 : Vn_57 dp 6 = nI ww := by rw [(kq_57 dp (Nat.le_refl _)).1]; exact e6
        have b7_57 : Vn_57 dp 7 = nI kk := by rw [(kq_57 dp (Nat.le_refl _)).1]; exact e7
        have kd_57 : Vn_57 dp = V dp := (kq_57 dp (Nat.le_refl _)).1
        refine lv_iinc (v := 2) (lv' := [(4, .int 2), (6, .int 1), (5, .ref (ad (dp + 1))), (0, .ref c0), (1, .int (nI dp)), (2, .int x), (3, .int y)]) hx hb dX2_tryRows_103 hl (k := 2) rfl (by decide) (by decide) rfl (fun ls hl => ?_)
        refine lv_goto (tgt := 30) hx hb dX2_tryRows_106 (by decide) ?_
        refine lv_iload hx hb dX2_tryRows_30 (lv_at hl 0 rfl) ?_
        refine lv_iconst (v := 1) hx hb dX2_tryRows_32 (by decide) ?_
        refine lv_icmp_gt (tgt := 109) hx hb dX2_tryRows_33 (by decide) (fun _ => ?_) (fun c_ => absurd (by decide) c_)
        have hX9 := cut2P (cx := [(xo_2_riiiii c0 be (nI hn) wa brn_57 bwn_57 btn_57), (xJ be cL 9 fb)]) hP hD [0, 1] (by decide +kernel) rfl
        exact W.vret hx hb hr (fun t ht hW => ⟨⟨(), rfl, trivial, ⟨Vn_57, Gn_57, brn_57, bwn_57, btn_57, va_Ht ht hX9.1, hX9.2, (fun j hj => (kq_57 j (Nat.le_of_lt hj))), (lf_X2_tryRows_s_4 hfb e4 e6 e7 hhb hww hkk hdn hn8 hN c_1 hF_9_0 hF_9_1 hF_9_2 hF_9_3 hF_9_4 c_10 hF_39_0 e_41 e_42 e_43 nx_44 hF_45_0 hF_45_1 kd_45 hF_49_0 hF_49_1 hF_49_2 hF_49_3 hF_49_4 c_50 hF_51_0 e_53 e_54 e_55 nx_56 hF_57_0 hF_57_1 kd_57)⟩⟩, hS.F ht⟩) hS.2.2 dX2_tryRows_109
      · skip
        refine lv_iconst (v := 0) hx hb dX2_tryRows_67 (by decide) ?_
        refine lv_goto (tgt := 72) hx hb dX2_tryRows_68 (by decide) ?_
        refine lv_istore (lv' := [(6, .int 0), (5, .ref (ad (dp + 1))), (4, .int 1), (0, .ref c0), (1, .int (nI dp)), (2, .int x), (3, .int y)]) hx hb dX2_tryRows_72 hl (by decide) rfl (fun ls hl => ?_)
        refine lv_aload hx hb dX2_tryRows_74 (lv_at hl 1 rfl) ?_
        refine lv_iload hx hb dX2_tryRows_76 (lv_at hl 2 rfl) ?_
        refine va_put (D := (dC, dI)) (ci := 3) (v := .int 1) (ty := .int) (C := RX3) (T := TX3) (N := 13) hx hb hts i_X2_tryRows_X3 tyX3 tyX3_ok nmX3 hown hK hP hD hS 2 rfl rfl 3 (by decide) (hts _ mx_X2_tryRows_3) (fun _ h9 => h9) rfl (by decide +kernel) rfl rfl (Nat.le_of_ble_eq_true rfl) dX2_tryRows_78 (fun H locs hP hD hS => ?_)
        have hP : va_P (dC, dI) vwCl (([(xo_2_riiiii c0 be (nI hn) wa brn_45 bwn_45 btn_45), (xJ be cL 9 fb), (xo_3_iiiiiiiirrrrr (ad (dp + 1)) (Vn_45 dp 0) (Vn_45 dp 1) (Vn_45 dp 2) 1 (nI hh) (Vn_45 dp 5) (nI ww) (nI kk) (bd (dp + 1) 0) (bd (dp + 1) 1) (bd (dp + 1) 2) (bd (dp + 1) 3) (bd (dp + 1) 4)), (xI (bd (dp + 1) 0) cI 6 f1n_49), (xI (bd (dp + 1) 1) cI 6 f2n_49), (xI (bd (dp + 1) 2) cI 6 f3n_49), (xI (bd (dp + 1) 3) cI 6 f4n_49), (xI (bd (dp + 1) 4) cI 6 f5n_49), (xo_3_iiiiiiiirrrrr (ad dp) (Vn_45 dp 0) (Vn_45 dp 1) (Vn_45 dp 2) (Vn_45 dp 3) (nI hh) (Vn_45 dp 5) (nI ww) (nI kk) (bd dp 0) (bd dp 1) (bd dp 2) (bd dp 3) (bd dp 4)), (xI (bd dp 0) cI 6 (Gn_45 dp 0)), (xI (bd dp 1) cI 6 (Gn_45 dp 1)), (xI (bd dp 2) cI 6 (Gn_45 dp 2)), (xI (bd dp 3) cI 6 (Gn_45 dp 3)), (xI (bd dp 4) cI 6 (Gn_45 dp 4))] : va_W) ++ pl_48) H := hP
        have hD := dto hP hD
        refine lv_aload hx hb dX2_tryRows_81 (lv_at hl 1 rfl) ?_
        have hc_59 := cutX (wc := [(xo_3_iiiiiiiirrrrr (ad (dp + 1)) (Vn_45 dp 0) (Vn_45 dp 1) (Vn_45 dp 2) 1 (nI hh) (Vn_45 dp 5) (nI ww) (nI kk) (bd (dp + 1) 0) (bd (dp + 1) 1) (bd (dp + 1) 2) (bd (dp + 1) 3) (bd (dp + 1) 4)), (xI (bd (dp + 1) 0) cI 6 f1n_49), (xI (bd (dp + 1) 1) cI 6 f2n_49), (xI (bd (dp + 1) 2) cI 6 f3n_49), (xI (bd (dp + 1) 3) cI 6 f4n_49), (xI (bd (dp + 1) 4) cI 6 f5n_49)]) hP hD hS hA [2, 3, 4, 5, 6, 7] (by decide +kernel) rfl
        refine va_callv (va_runV (As := []) (rest := []) ⟨hx, hb, hml, hown, hts⟩ (r_X3_pass l dC dI cI cZ cL cJ H.size (ad (dp + 1)) (Vn_45 dp 0) (Vn_45 dp 1) (Vn_45 dp 2) 1 (Vn_45 dp 5) hh ww kk (bd (dp + 1) 0) (bd (dp + 1) 1) (bd (dp + 1) 2) (bd (dp + 1) 3) (bd (dp + 1) 4) f1n_49 f2n_49 f3n_49 f4n_49 f5n_49 (by omega) (hww) (hkk)) (cwV 0 hts gX2_tryRows_X3_pass rfl rfl rfl (by decide +kernel) ⟨by show 3 + 1 ≤ 14 - dp; omega, by show 8 + (3 + 11) + 66 ≤ 3000 - 200 * dp; omega⟩) (pvW 3 2 hK hP rfl rfl hc_59) rfl rfl hl.1 rfl (lv_room (Nat.le_of_ble_eq_true rfl)) dX2_tryRows_83 ⟨Nat.le_of_ble_eq_true rfl, Nat.le_of_ble_eq_true rfl⟩) hS (fun q _ h => hc_59.2.2 q h) hc_59.2.2 (fun u_59 t_59 H1 locs ht hvm h_59 hB hz1 hk1 hS => ?_)
        refine xl_4_3 hB (fun v5n_59 g3n_59 g4n_59 g5n_59 hP1 hD1 hF_59_0 => ?_)
        clear hB
        rw [ht] at hP1
        obtain ⟨hP, hD⟩ := va_joinQ (wr := [(xo_2_riiiii c0 be (nI hn) wa brn_45 bwn_45 btn_45), (xJ be cL 9 fb), (xo_3_iiiiiiiirrrrr (ad dp) (Vn_45 dp 0) (Vn_45 dp 1) (Vn_45 dp 2) (Vn_45 dp 3) (nI hh) (Vn_45 dp 5) (nI ww) (nI kk) (bd dp 0) (bd dp 1) (bd dp 2) (bd dp 3) (bd dp 4)), (xI (bd dp 0) cI 6 (Gn_45 dp 0)), (xI (bd dp 1) cI 6 (Gn_45 dp 1)), (xI (bd dp 2) cI 6 (Gn_45 dp 2)), (xI (bd dp 3) cI 6 (Gn_45 dp 3)), (xI (bd dp 4) cI 6 (Gn_45 dp 4))]) (w1 := [(xo_3_iiiiiiiirrrrr (ad (dp + 1)) (Vn_45 dp 0) (Vn_45 dp 1) (Vn_45 dp 2) 1 (nI (hh + 1)) v5n_59 (nI ww) (nI kk) (bd (dp + 1) 0) (bd (dp + 1) 1) (bd (dp + 1) 2) (bd (dp + 1) 3) (bd (dp + 1) 4)), (xI (bd (dp + 1) 0) cI 6 f1n_49), (xI (bd (dp + 1) 1) cI 6 f2n_49), (xI (bd (dp + 1) 2) cI 6 g3n_59), (xI (bd (dp + 1) 3) cI 6 g4n_59), (xI (bd (dp + 1) 4) cI 6 g5n_59)]) hP hD [2, 3, 4, 5, 6, 7] [0, 1, 8, 9, 10, 11, 12, 13] rfl rfl (by decide +kernel) (by decide +kernel) hk1 hc_59.2.2 hP1 hD1
        generalize H1 = H at hP hS ⊢
        have hP : va_P (dC, dI) vwCl (([(xo_2_riiiii c0 be (nI hn) wa brn_45 bwn_45 btn_45), (xJ be cL 9 fb), (xo_3_iiiiiiiirrrrr (ad dp) (Vn_45 dp 0) (Vn_45 dp 1) (Vn_45 dp 2) (Vn_45 dp 3) (nI hh) (Vn_45 dp 5) (nI ww) (nI kk) (bd dp 0) (bd dp 1) (bd dp 2) (bd dp 3) (bd dp 4)), (xI (bd dp 0) cI 6 (Gn_45 dp 0)), (xI (bd dp 1) cI 6 (Gn_45 dp 1)), (xI (bd dp 2) cI 6 (Gn_45 dp 2)), (xI (bd dp 3) cI 6 (Gn_45 dp 3)), (xI (bd dp 4) cI 6 (Gn_45 dp 4)), (xo_3_iiiiiiiirrrrr (ad (dp + 1)) (Vn_45 dp 0) (Vn_45 dp 1) (Vn_45 dp 2) 1 (nI (hh + 1)) v5n_59 (nI ww) (nI kk) (bd (dp + 1) 0) (bd (dp + 1) 1) (bd (dp + 1) 2) (bd (dp + 1) 3) (bd (dp + 1) 4)), (xI (bd (dp + 1) 0) cI 6 f1n_49), (xI (bd (dp + 1) 1) cI 6 f2n_49), (xI (bd (dp + 1) 2) cI 6 g3n_59), (xI (bd (dp + 1) 3) cI 6 g4n_59), (xI (bd (dp + 1) 4) cI 6 g5n_59)] : va_W) ++ pl_48) H := hP
        have hD := dto hP hD
        refine lv_aload_n hx hb dX2_tryRows_86 rfl (lv_at hl 3 rfl) ?_
        refine lv_iload_n hx hb dX2_tryRows_87 rfl (lv_at hl 4 rfl) ?_
        refine lv_iconst (v := 1) hx hb dX2_tryRows_88 (by decide) ?_
        refine lv_iadd hx hb dX2_tryRows_89 ?_
        refine lv_topi (fun v_60 e_60 => ?_)
        obtain rfl : v_60 = (nI (dp + 1)) := (e_60).trans (nI_add dp 1)
        refine lv_iload_n hx hb dX2_tryRows_90 rfl (lv_at hl 5 rfl) ?_
        refine lv_iconst (v := 1) hx hb dX2_tryRows_91 (by decide) ?_
        refine lv_ishl hx hb dX2_tryRows_92 ?_
        refine lv_topi (fun v_61 e_61 => ?_)
        refine lv_iload hx hb dX2_tryRows_93 (lv_at hl 2 rfl) ?_
        refine lv_ior hx hb dX2_tryRows_95 ?_
        refine lv_topi (fun v_62 e_62 => ?_)
        refine lv_iload_n hx hb dX2_tryRows_96 rfl (lv_at hl 6 rfl) ?_
        refine lv_iload hx hb dX2_tryRows_97 (lv_at hl 0 rfl) ?_
        refine lv_iadd hx hb dX2_tryRows_99 ?_
        refine lv_topi (fun v_63 e_63 => ?_)
        have hP := hbP_48 [(xo_2_riiiii c0 be (nI hn) wa brn_45 bwn_45 btn_45), (xJ be cL 9 fb)] ((nI hh)) ((nI ww)) ((nI kk)) ((Vn_45 dp 0)) ((Vn_45 dp 1)) ((Vn_45 dp 2)) (1) ((nI (hh + 1))) (v5n_59) ((nI ww)) ((nI kk)) (f1n_49) (f2n_49) (g3n_59) (g4n_59) (g5n_59) _ b4_45 b6_45 b7_45 (hP.part (cx := (([(xo_2_riiiii c0 be (nI hn) wa brn_45 bwn_45 btn_45), (xJ be cL 9 fb)] : va_W) ++ ([(xo_3_iiiiiiiirrrrr (ad dp) (Vn_45 dp 0) (Vn_45 dp 1) (Vn_45 dp 2) (Vn_45 dp 3) (nI hh) (Vn_45 dp 5) (nI ww) (nI kk) (bd dp 0) (bd dp 1) (bd dp 2) (bd dp 3) (bd dp 4)), (xI (bd dp 0) cI 6 (Gn_45 dp 0)), (xI (bd dp 1) cI 6 (Gn_45 dp 1)), (xI (bd dp 2) cI 6 (Gn_45 dp 2)), (xI (bd dp 3) cI 6 (Gn_45 dp 3)), (xI (bd dp 4) cI 6 (Gn_45 dp 4)), (xo_3_iiiiiiiirrrrr (ad (dp + 1)) (Vn_45 dp 0) (Vn_45 dp 1) (Vn_45 dp 2) 1 (nI (hh + 1)) v5n_59 (nI ww) (nI kk) (bd (dp + 1) 0) (bd (dp + 1) 1) (bd (dp + 1) 2) (bd (dp + 1) 3) (bd (dp + 1) 4)), (xI (bd (dp + 1) 0) cI 6 f1n_49), (xI (bd (dp + 1) 1) cI 6 f2n_49), (xI (bd (dp + 1) 2) cI 6 g3n_59), (xI (bd (dp + 1) 3) cI 6 g4n_59), (xI (bd (dp + 1) 4) cI 6 g5n_59)] : va_W))) [0, 1, 2, 3, 4, 5, 6, 7, 8, 9, 10, 11, 12, 13] rfl)
        have hD := hbD_48 [(xo_2_riiiii c0 be (nI hn) wa brn_45 bwn_45 btn_45), (xJ be cL 9 fb)] ((nI hh)) ((nI ww)) ((nI kk)) ((Vn_45 dp 0)) ((Vn_45 dp 1)) ((Vn_45 dp 2)) (1) ((nI (hh + 1))) (v5n_59) ((nI ww)) ((nI kk)) (f1n_49) (f2n_49) (g3n_59) (g4n_59) (g5n_59) _ b4_45 b6_45 b7_45 (hD.part (cx := (([(xo_2_riiiii c0 be (nI hn) wa brn_45 bwn_45 btn_45), (xJ be cL 9 fb)] : va_W) ++ ([(xo_3_iiiiiiiirrrrr (ad dp) (Vn_45 dp 0) (Vn_45 dp 1) (Vn_45 dp 2) (Vn_45 dp 3) (nI hh) (Vn_45 dp 5) (nI ww) (nI kk) (bd dp 0) (bd dp 1) (bd dp 2) (bd dp 3) (bd dp 4)), (xI (bd dp 0) cI 6 (Gn_45 dp 0)), (xI (bd dp 1) cI 6 (Gn_45 dp 1)), (xI (bd dp 2) cI 6 (Gn_45 dp 2)), (xI (bd dp 3) cI 6 (Gn_45 dp 3)), (xI (bd dp 4) cI 6 (Gn_45 dp 4)), (xo_3_iiiiiiiirrrrr (ad (dp + 1)) (Vn_45 dp 0) (Vn_45 dp 1) (Vn_45 dp 2) 1 (nI (hh + 1)) v5n_59 (nI ww) (nI kk) (bd (dp + 1) 0) (bd (dp + 1) 1) (bd (dp + 1) 2) (bd (dp + 1) 3) (bd (dp + 1) 4)), (xI (bd (dp + 1) 0) cI 6 f1n_49), (xI (bd (dp + 1) 1) cI 6 f2n_49), (xI (bd (dp + 1) 2) cI 6 g3n_59), (xI (bd (dp + 1) 3) cI 6 g4n_59), (xI (bd (dp + 1) 4) cI 6 g5n_59)] : va_W))) [0, 1, 2, 3, 4, 5, 6, 7, 8, 9, 10, 11, 12, 13] (by decide +kernel) rfl)
        generalize hV_64 : va_up Vn_45 (dp + 1) (fun k => [(Vn_45 dp 0), (Vn_45 dp 1), (Vn_45 dp 2), 1, (nI (hh + 1)), v5n_59, (nI ww), (nI kk)].getD k 0) = V_64 at hP hD
        generalize hG_64 : va_up Gn_45 (dp + 1) (fun k => [f1n_49, f2n_49, g3n_59, g4n_59, g5n_59].getD k (fun _ => 0)) = G_64 at hP hD
        have hP : va_P (dC, dI) vwCl (([(xo_2_riiiii c0 be (nI hn) wa brn_45 bwn_45 btn_45), (xJ be cL 9 fb)] : va_W) ++ lvs cI 9 ad bd V_64 G_64) H := hP
        have hD : va_D A (([(xo_2_riiiii c0 be (nI hn) wa brn_45 bwn_45 btn_45), (xJ be cL 9 fb)] : va_W) ++ lvs cI 9 ad bd V_64 G_64) := hD
        have s4_64 : V_64 (dp + 1) 4 = (nI (hh + 1)) := by rw [← hV_64, va_up_self]; rfl
        have s6_64 : V_64 (dp + 1) 6 = (nI ww) := by rw [← hV_64, va_up_self]; rfl
        have s7_64 : V_64 (dp + 1) 7 = (nI kk) := by rw [← hV_64, va_up_self]; rfl
        have kp_64 : ∀ j : Nat, j ≤ dp → V_64 j = V j ∧ G_64 j = G j := fun j hj => by rw [← hV_64, ← hG_64, va_up_ne _ _ (by omega), va_up_ne _ _ (by omega)]; exact (kq_45 j hj)
        have a4_64 : V_64 dp 4 = nI hh := by rw [(kp_64 dp (Nat.le_refl _)).1]; exact e4
        have a6_64 : V_64 dp 6 = nI ww := by rw [(kp_64 dp (Nat.le_refl _)).1]; exact e6
        have a7_64 : V_64 dp 7 = nI kk := by rw [(kp_64 dp (Nat.le_refl _)).1]; exact e7
        have nx_64 : nrV (V_64 (dp + 1)) (G_64 (dp + 1)) = mH (upd (nrV (V dp) (G dp)) 6 1) ∧ okN (999 + (dp + 1)) (nrV (V_64 (dp + 1)) (G_64 (dp + 1))) := by
          rw [← hV_64, ← hG_64, va_up_self, va_up_self]
          exact cap_nx ((kq_45 dp (Nat.le_refl _))).1 ((kq_45 dp (Nat.le_refl _))).2 hN e4 e6 e7 hhb hww hkk (by omega) (by decide) hF_49_0 hF_49_1 hF_49_2 hF_49_3 hF_49_4 hF_59_0
        have hc_65 := cutP (cx := [(xo_2_riiiii c0 be (nI hn) wa brn_45 bwn_45 btn_45), (xJ be cL 9 fb)]) hP hD hS hA [0, 1] (by decide +kernel) rfl
        refine va_callv (va_runV (As := [.int (nI (dp + 1)), .int v_62, .int v_63]) (rest := []) ⟨hx, hb, hml, hown, hts⟩ (IH l dC dI cI cZ cL cJ H.size c0 be hn wa brn_45 bwn_45 btn_45 fb ad bd V_64 G_64 (hh + 1) ww kk v_62 v_63 (hfb) (s4_64) (s6_64) (s7_64) (by omega) (hww) (hkk) (by omega) (hn8) (nx_64.2)) (cwV 3 hts gX2_tryRows_X2_tryRows rfl rfl rfl (by decide +kernel) ⟨by show 14 - (dp + 1) + 1 ≤ 14 - dp; omega, by show 8 + (7 + 11) + (3000 - 200 * (dp + 1)) ≤ 3000 - 200 * dp; omega⟩) (pvW 2 0 hK hP rfl rfl hc_65) rfl rfl hl.1 rfl (lv_room (Nat.le_of_ble_eq_true rfl)) dX2_tryRows_100 ⟨Nat.le_of_ble_eq_true rfl, Nat.le_of_ble_eq_true rfl⟩) hS (fun q _ h => hc_65.2.2 q h) hc_65.2.2 (fun u_65 t_65 H1 locs ht hvm h_65 hB hz1 hk1 hS => ?_)
        refine xl_5_4 hB (fun Vn_65 Gn_65 brn_65 bwn_65 btn_65 hP1 hD1 hF_65_0 hF_65_1 => ?_)
        clear hB
        rw [ht] at hP1
        obtain ⟨hP, hD⟩ := va_joinP (wr := []) (rx := [(xo_2_riiiii c0 be (nI hn) wa brn_65 bwn_65 btn_65), (xJ be cL 9 fb)]) (pl1 := lvs cI 9 ad bd Vn_65 Gn_65) hP hD [0, 1] [] rfl rfl (by decide +kernel) (by decide +kernel) hk1 hc_65.2.2 hP1 hD1
        generalize H1 = H at hP hS ⊢
        have hP : va_P (dC, dI) vwCl (([(xo_2_riiiii c0 be (nI hn) wa brn_65 bwn_65 btn_65), (xJ be cL 9 fb)] : va_W) ++ lvs cI 9 ad bd Vn_65 Gn_65) H := hP
        have hD := dto hP hD
        have kq_65 : ∀ j : Nat, j ≤ dp → Vn_65 j = V j ∧ Gn_65 j = G j := fun j hj => ⟨(hF_65_0 j (by omega)).1.trans ((kp_64 j hj)).1, (hF_65_0 j (by omega)).2.trans ((kp_64 j hj)).2⟩
        have b4_65 : Vn_65 dp 4 = nI hh := by rw [(kq_65 dp (Nat.le_refl _)).1]; exact e4
        have b6_65 : Vn_65 dp 6 = nI ww := by rw [(kq_65 dp (Nat.le_refl _)).1]; exact e6
        have b7_65 : Vn_65 dp 7 = nI kk := by rw [(kq_65 dp (Nat.le_refl _)).1]; exact e7
        have kd_65 : Vn_65 dp = V dp := (kq_65 dp (Nat.le_refl _)).1
        refine lv_iinc (v := 2) (lv' := [(4, .int 2), (6, .int 0), (5, .ref (ad (dp + 1))), (0, .ref c0), (1, .int (nI dp)), (2, .int x), (3, .int y)]) hx hb dX2_tryRows_103 hl (k := 2) rfl (by decide) (by decide) rfl (fun ls hl => ?_)
        refine lv_goto (tgt := 30) hx hb dX2_tryRows_106 (by decide) ?_
        refine lv_iload hx hb dX2_tryRows_30 (lv_at hl 0 rfl) ?_
        refine lv_iconst (v := 1) hx hb dX2_tryRows_32 (by decide) ?_
        refine lv_icmp_gt (tgt := 109) hx hb dX2_tryRows_33 (by decide) (fun _ => ?_) (fun c_ => absurd (by decide) c_)
        have hX9 := cut2P (cx := [(xo_2_riiiii c0 be (nI hn) wa brn_65 bwn_65 btn_65), (xJ be cL 9 fb)]) hP hD [0, 1] (by decide +kernel) rfl
        exact W.vret hx hb hr (fun t ht hW => ⟨⟨(), rfl, trivial, ⟨Vn_65, Gn_65, brn_65, bwn_65, btn_65, va_Ht ht hX9.1, hX9.2, (fun j hj => (kq_65 j (Nat.le_of_lt hj))), (lf_X2_tryRows_s_5 hfb e4 e6 e7 hhb hww hkk hdn hn8 hN c_1 hF_9_0 hF_9_1 hF_9_2 hF_9_3 hF_9_4 c_10 hF_39_0 e_41 e_42 e_43 nx_44 hF_45_0 hF_45_1 kd_45 hF_49_0 hF_49_1 hF_49_2 hF_49_3 hF_49_4 c_50 hF_59_0 e_61 e_62 e_63 nx_64 hF_65_0 hF_65_1 kd_65)⟩⟩, hS.F ht⟩) hS.2.2 dX2_tryRows_109
theorem r_X2_tryRows_i : ∀ (n_ : Nat) (dp : Nat), 8 - dp ≤ n_ → ∀ (l : Launch) (dC : Nat → ClassId) (dI : Nat → Nat → Nat) (cI cZ cL cJ : ClassId) (sz : Nat) (c0 : Nat) (be : Nat) (hn : Nat) (wa : Int32) (br : Int32) (bw : Int32) (bt : Int32) (fb : Nat → Option Nat) (ad : Nat → Nat) (bd : Nat → Nat → Nat) (V : Nat → Nat → Int32) (G : Nat → Nat → Nat → Int32) (hh : Nat) (ww : Nat) (kk : Nat) (x : Int32) (y : Int32) (hfb : ∀ i : Nat, i < 9 → fb i = some (ad i)) (e4 : V dp 4 = nI hh) (e6 : V dp 6 = nI ww) (e7 : V dp 7 = nI kk) (hhb : hh ≤ 999 + dp) (hww : ww ≤ 6) (hkk : kk ≤ 6) (hdn : dp ≤ hn) (hn8 : hn ≤ 8) (hN : okN (999 + dp) (nrV (V dp) (G dp))), Met l yX2_tryRows wsX2_tryRows ({ frames := 14 - dp, cells := 0, slots := 0, locals := 3000 - 200 * dp }) (va_Pc [.ref c0, .int (nI dp), .int x, .int y] (fun U => U.heap.size = sz ∧ va_P (dC, dI) vwCl (([(xo_2_riiiii c0 be (nI hn) wa br bw bt), (xJ be cL 9 fb)] : va_W) ++ lvs cI 9 ad bd V G) U.heap ∧ va_K (dC, dI) vwCl [(cI, .int), (cZ, .boolean), (cL, .object RX3), (cJ, .array .int)] U ∧ va_D (fun _ => True) (([(xo_2_riiiii c0 be (nI hn) wa br bw bt), (xJ be cL 9 fb)] : va_W) ++ lvs cI 9 ad bd V G))) (va_Qv (fun (_ : Unit) => True) (fun (_ : Unit) t => ∃ (Vn : Nat → Nat → Int32) (Gn : Nat → Nat → Nat → Int32) (brn : Int32) (bwn : Int32) (btn : Int32), va_P (dC, dI) vwCl (([(xo_2_riiiii c0 be (nI hn) wa brn bwn btn), (xJ be cL 9 fb)] : va_W) ++ lvs cI 9 ad bd Vn Gn) t.heap ∧ va_D (va_A (([(xo_2_riiiii c0 be (nI hn) wa br bw bt), (xJ be cL 9 fb)] : va_W) ++ lvs cI 9 ad bd V G) sz) (([(xo_2_riiiii c0 be (nI hn) wa brn bwn btn), (xJ be cL 9 fb)] : va_W) ++ lvs cI 9 ad bd Vn Gn) ∧ (∀ j : Nat, j < dp → Vn j = V j ∧ Gn j = G j) ∧ trB wa (hn - dp) (nrV (V dp) (G dp)) x y (bw, bt, br) = (bwn, btn, brn)) (va_A (([(xo_2_riiiii c0 be (nI hn) wa br bw bt), (xJ be cL 9 fb)] : va_W) ++ lvs cI 9 ad bd V G) sz)) 0 0 (va_A (([(xo_2_riiiii c0 be (nI hn) wa br bw bt), (xJ be cL 9 fb)] : va_W) ++ lvs cI 9 ad bd V G) sz)
  | 0, dp, hdp => fun l dC dI cI cZ cL cJ sz c0 be hn wa br bw bt fb ad bd V G hh ww kk x y hfb e4 e6 e7 hhb hww hkk hdn hn8 hN => r_X2_tryRows_s l dC dI cI cZ cL cJ sz c0 be hn wa br bw bt fb ad bd V G hh ww kk dp x y hfb e4 e6 e7 hhb hww hkk hdn hn8 hN (fun l dC dI cI cZ cL cJ sz c0 be hn wa br bw bt fb ad bd V G hh ww kk x y hfb e4 e6 e7 hhb hww hkk hdn hn8 hN => absurd hdn (by omega))
  | n_ + 1, dp, hdp => fun l dC dI cI cZ cL cJ sz c0 be hn wa br bw bt fb ad bd V G hh ww kk x y hfb e4 e6 e7 hhb hww hkk hdn hn8 hN => r_X2_tryRows_s l dC dI cI cZ cL cJ sz c0 be hn wa br bw bt fb ad bd V G hh ww kk dp x y hfb e4 e6 e7 hhb hww hkk hdn hn8 hN (fun l dC dI cI cZ cL cJ sz c0 be hn wa br bw bt fb ad bd V G hh ww kk x y hfb e4 e6 e7 hhb hww hkk hdn hn8 hN => r_X2_tryRows_i n_ (dp + 1) (by omega) l dC dI cI cZ cL cJ sz c0 be hn wa br bw bt fb ad bd V G hh ww kk x y hfb e4 e6 e7 hhb hww hkk hdn hn8 hN)
theorem r_X2_tryRows (l : Launch) (dC : Nat → ClassId) (dI : Nat → Nat → Nat) (cI cZ cL cJ : ClassId) (sz : Nat) (c0 : Nat) (be : Nat) (hn : Nat) (wa : Int32) (br : Int32) (bw : Int32) (bt : Int32) (fb : Nat → Option Nat) (ad : Nat → Nat) (bd : Nat → Nat → Nat) (V : Nat → Nat → Int32) (G : Nat → Nat → Nat → Int32) (hh : Nat) (ww : Nat) (kk : Nat) (dp : Nat) (x : Int32) (y : Int32) (hfb : ∀ i : Nat, i < 9 → fb i = some (ad i)) (e4 : V dp 4 = nI hh) (e6 : V dp 6 = nI ww) (e7 : V dp 7 = nI kk) (hhb : hh ≤ 999 + dp) (hww : ww ≤ 6) (hkk : kk ≤ 6) (hdn : dp ≤ hn) (hn8 : hn ≤ 8) (hN : okN (999 + dp) (nrV (V dp) (G dp))) : Met l yX2_tryRows wsX2_tryRows ({ frames := 14 - dp, cells := 0, slots := 0, locals := 3000 - 200 * dp }) (va_Pc [.ref c0, .int (nI dp), .int x, .int y] (fun U => U.heap.size = sz ∧ va_P (dC, dI) vwCl (([(xo_2_riiiii c0 be (nI hn) wa br bw bt), (xJ be cL 9 fb)] : va_W) ++ lvs cI 9 ad bd V G) U.heap ∧ va_K (dC, dI) vwCl [(cI, .int), (cZ, .boolean), (cL, .object RX3), (cJ, .array .int)] U ∧ va_D (fun _ => True) (([(xo_2_riiiii c0 be (nI hn) wa br bw bt), (xJ be cL 9 fb)] : va_W) ++ lvs cI 9 ad bd V G))) (va_Qv (fun (_ : Unit) => True) (fun (_ : Unit) t => ∃ (Vn : Nat → Nat → Int32) (Gn : Nat → Nat → Nat → Int32) (brn : Int32) (bwn : Int32) (btn : Int32), va_P (dC, dI) vwCl (([(xo_2_riiiii c0 be (nI hn) wa brn bwn btn), (xJ be cL 9 fb)] : va_W) ++ lvs cI 9 ad bd Vn Gn) t.heap ∧ va_D (va_A (([(xo_2_riiiii c0 be (nI hn) wa br bw bt), (xJ be cL 9 fb)] : va_W) ++ lvs cI 9 ad bd V G) sz) (([(xo_2_riiiii c0 be (nI hn) wa brn bwn btn), (xJ be cL 9 fb)] : va_W) ++ lvs cI 9 ad bd Vn Gn) ∧ (∀ j : Nat, j < dp → Vn j = V j ∧ Gn j = G j) ∧ trB wa (hn - dp) (nrV (V dp) (G dp)) x y (bw, bt, br) = (bwn, btn, brn)) (va_A (([(xo_2_riiiii c0 be (nI hn) wa br bw bt), (xJ be cL 9 fb)] : va_W) ++ lvs cI 9 ad bd V G) sz)) 0 0 (va_A (([(xo_2_riiiii c0 be (nI hn) wa br bw bt), (xJ be cL 9 fb)] : va_W) ++ lvs cI 9 ad bd V G) sz) :=
  r_X2_tryRows_i 8 dp (by omega) l dC dI cI cZ cL cJ sz c0 be hn wa br bw bt fb ad bd V G hh ww kk x y hfb e4 e6 e7 hhb hww hkk hdn hn8 hN
theorem lf_X2_search_1 {fb : Nat → Option Nat} {ad : Nat → Nat} {v0 : Int32} {v1 : Int32} {v2 : Int32} {v3 : Int32} {v5 : Int32} {hh : Nat} {ww : Nat} {kk : Nat} {g1 : Nat → Int32} {g2 : Nat → Int32} {g3 : Nat → Int32} {g4 : Nat → Int32} {g5 : Nat → Int32} {x : Nat} {y : Int32} {f1n_2 : Nat → Int32} {f2n_2 : Nat → Int32} {f3n_2 : Nat → Int32} {f4n_2 : Nat → Int32} {f5n_2 : Nat → Int32} {V_3 : Nat → Nat → Int32} {G_3 : Nat → Nat → Nat → Int32} {Vn_4 : Nat → Nat → Int32} {Gn_4 : Nat → Nat → Nat → Int32} {brn_4 : Int32} {bwn_4 : Int32} {btn_4 : Int32} (hfb : ∀ i : Nat, i < 9 → fb i = some (ad i)) (hhb : hh ≤ 999) (hww : ww ≤ 6) (hkk : kk ≤ 6) (hx8 : x ≤ 8) (hN : okN 999 (nrm v0 v1 v2 v3 hh v5 ww kk g1 g2 g3 g4 g5)) (hF_2_0 : (∀ jq : Nat, jq < 6 → f1n_2 jq = g1 jq)) (hF_2_1 : (∀ jq : Nat, jq < 6 → f2n_2 jq = g2 jq)) (hF_2_2 : (∀ jq : Nat, jq < 6 → f3n_2 jq = g3 jq)) (hF_2_3 : (∀ jq : Nat, jq < 6 → f4n_2 jq = g4 jq)) (hF_2_4 : (∀ jq : Nat, jq < 6 → f5n_2 jq = g5 jq)) (sr_3 : nrV (V_3 0) (G_3 0) = (nrm v0 v1 v2 v3 hh v5 ww kk g1 g2 g3 g4 g5)) (hF_4_0 : (∀ j : Nat, j < 0 → Vn_4 j = V_3 j ∧ Gn_4 j = G_3 j)) (hF_4_1 : trB y (x - 0) (nrV (V_3 0) (G_3 0)) 0 0 ((-1), 0, 0) = (bwn_4, btn_4, brn_4)) : trB y x (nrm v0 v1 v2 v3 hh v5 ww kk g1 g2 g3 g4 g5) 0 0 (-1, 0, 0) = (bwn_4, btn_4, brn_4) := by
  simp only [Nat.sub_zero] at *; grind
set_option maxHeartbeats 4000000 in
set_option maxRecDepth 100000 in
theorem r_X2_search (l : Launch) (dC : Nat → ClassId) (dI : Nat → Nat → Nat) (cI cZ cL cJ : ClassId) (sz : Nat) (c0 : Nat) (be : Nat) (hrs : Int32) (wa : Int32) (br : Int32) (bw : Int32) (bt : Int32) (fb : Nat → Option Nat) (ad : Nat → Nat) (bd : Nat → Nat → Nat) (V : Nat → Nat → Int32) (G : Nat → Nat → Nat → Int32) (h : Nat) (v0 : Int32) (v1 : Int32) (v2 : Int32) (v3 : Int32) (v5 : Int32) (hh : Nat) (ww : Nat) (kk : Nat) (b1 : Nat) (b2 : Nat) (b3 : Nat) (b4 : Nat) (b5 : Nat) (g1 : Nat → Int32) (g2 : Nat → Int32) (g3 : Nat → Int32) (g4 : Nat → Int32) (g5 : Nat → Int32) (x : Nat) (y : Int32) (hfb : ∀ i : Nat, i < 9 → fb i = some (ad i)) (hhb : hh ≤ 999) (hww : ww ≤ 6) (hkk : kk ≤ 6) (hx8 : x ≤ 8) (hN : okN 999 (nrm v0 v1 v2 v3 hh v5 ww kk g1 g2 g3 g4 g5)) : Met l yX2_search wsX2_search ({ frames := 15, cells := 0, slots := 0, locals := 3026 }) (va_Pc [.ref c0, .ref h, .int (nI x), .int y] (fun U => U.heap.size = sz ∧ va_P (dC, dI) vwCl (([(xo_2_riiiii c0 be hrs wa br bw bt), (xJ be cL 9 fb), (xo_3_iiiiiiiirrrrr h v0 v1 v2 v3 (nI hh) v5 (nI ww) (nI kk) b1 b2 b3 b4 b5), (xI b1 cI 6 g1), (xI b2 cI 6 g2), (xI b3 cI 6 g3), (xI b4 cI 6 g4), (xI b5 cI 6 g5)] : va_W) ++ lvs cI 9 ad bd V G) U.heap ∧ va_K (dC, dI) vwCl [(cI, .int), (cZ, .boolean), (cL, .object RX3), (cJ, .array .int)] U ∧ va_D (fun _ => True) (([(xo_2_riiiii c0 be hrs wa br bw bt), (xJ be cL 9 fb), (xo_3_iiiiiiiirrrrr h v0 v1 v2 v3 (nI hh) v5 (nI ww) (nI kk) b1 b2 b3 b4 b5), (xI b1 cI 6 g1), (xI b2 cI 6 g2), (xI b3 cI 6 g3), (xI b4 cI 6 g4), (xI b5 cI 6 g5)] : va_W) ++ lvs cI 9 ad bd V G))) (va_Qv (fun (_ : Unit) => True) (fun (_ : Unit) t => ∃ (Vn : Nat → Nat → Int32) (Gn : Nat → Nat → Nat → Int32) (brn : Int32) (bwn : Int32) (btn : Int32), va_P (dC, dI) vwCl (([(xo_2_riiiii c0 be (nI x) y brn bwn btn), (xJ be cL 9 fb), (xo_3_iiiiiiiirrrrr h v0 v1 v2 v3 (nI hh) v5 (nI ww) (nI kk) b1 b2 b3 b4 b5), (xI b1 cI 6 g1), (xI b2 cI 6 g2), (xI b3 cI 6 g3), (xI b4 cI 6 g4), (xI b5 cI 6 g5)] : va_W) ++ lvs cI 9 ad bd Vn Gn) t.heap ∧ va_D (va_A (([(xo_2_riiiii c0 be hrs wa br bw bt), (xJ be cL 9 fb), (xo_3_iiiiiiiirrrrr h v0 v1 v2 v3 (nI hh) v5 (nI ww) (nI kk) b1 b2 b3 b4 b5), (xI b1 cI 6 g1), (xI b2 cI 6 g2), (xI b3 cI 6 g3), (xI b4 cI 6 g4), (xI b5 cI 6 g5)] : va_W) ++ lvs cI 9 ad bd V G) sz) (([(xo_2_riiiii c0 be (nI x) y brn bwn btn), (xJ be cL 9 fb), (xo_3_iiiiiiiirrrrr h v0 v1 v2 v3 (nI hh) v5 (nI ww) (nI kk) b1 b2 b3 b4 b5), (xI b1 cI 6 g1), (xI b2 cI 6 g2), (xI b3 cI 6 g3), (xI b4 cI 6 g4), (xI b5 cI 6 g5)] : va_W) ++ lvs cI 9 ad bd Vn Gn) ∧ trB y x (nrm v0 v1 v2 v3 hh v5 ww kk g1 g2 g3 g4 g5) 0 0 (-1, 0, 0) = (bwn, btn, brn)) (va_A (([(xo_2_riiiii c0 be hrs wa br bw bt), (xJ be cL 9 fb), (xo_3_iiiiiiiirrrrr h v0 v1 v2 v3 (nI hh) v5 (nI ww) (nI kk) b1 b2 b3 b4 b5), (xI b1 cI 6 g1), (xI b2 cI 6 g2), (xI b3 cI 6 g3), (xI b4 cI 6 g4), (xI b5 cI 6 g5)] : va_W) ++ lvs cI 9 ad bd V G) sz)) 0 0 (va_A (([(xo_2_riiiii c0 be hrs wa br bw bt), (xJ be cL 9 fb), (xo_3_iiiiiiiirrrrr h v0 v1 v2 v3 (nI hh) v5 (nI ww) (nI kk) b1 b2 b3 b4 b5), (xI b1 cI 6 g1), (xI b2 cI 6 g2), (xI b3 cI 6 g3), (xI b4 cI 6 g4), (xI b5 cI 6 g5)] : va_W) ++ lvs cI 9 ad bd V G) sz) := by
  refine Met.ofW (cc := cX2_search) (maxL := 4) (ret := none) (by decide) rfl ?_
  intro p e s m args below meth c s₁ B hml hv
  obtain ⟨rfl, hsz, hP, hK, hD0⟩ := hv
  have hx := B.exec
  have hb := B.bytes
  have hr := B.returns
  have hts := atoms_spec (ws := wsX2_search) B.pre
  have hown : s.vm.findClass RX2 = some m.cls := findClass_of_methodNamed B.named
  have hlocks := B.notSynchronized
  subst hsz
  have hD := hD0.self (sz := s.heap.size)
  generalize hAe : va_A (([(xo_2_riiiii c0 be hrs wa br bw bt), (xJ be cL 9 fb), (xo_3_iiiiiiiirrrrr h v0 v1 v2 v3 (nI hh) v5 (nI ww) (nI kk) b1 b2 b3 b4 b5), (xI b1 cI 6 g1), (xI b2 cI 6 g2), (xI b3 cI 6 g3), (xI b4 cI 6 g4), (xI b5 cI 6 g5)] : va_W) ++ lvs cI 9 ad bd V G) s.heap.size = A at hD ⊢
  have hA : ∀ q : Nat, s.heap.size ≤ q → A q := fun q h => by rw [← hAe]; exact Or.inr h
  have hS : va_S A s.heap s.heap [] := va_S.rf
  have hP : va_P (dC, dI) vwCl (([(xo_2_riiiii c0 be hrs wa br bw bt), (xJ be cL 9 fb), (xo_3_iiiiiiiirrrrr h v0 v1 v2 v3 (nI hh) v5 (nI ww) (nI kk) b1 b2 b3 b4 b5), (xI b1 cI 6 g1), (xI b2 cI 6 g2), (xI b3 cI 6 g3), (xI b4 cI 6 g4), (xI b5 cI 6 g5)] : va_W) ++ lvs cI 9 ad bd V G) s.heap := hP
  have hl := lv_entry ([.ref c0, .ref h, .int (nI x), .int y]) (n := 4) (Nat.le_of_ble_eq_true rfl)
  rw [lg_entry_eq]
  generalize (lg_sl ([.ref c0, .ref h, .int (nI x), .int y]) ++ List.replicate (4 - (lg_sl ([.ref c0, .ref h, .int (nI x), .int y])).length) Slot.unset).toArray = ls at hl ⊢
  have hl : lv_has ls 4 [(0, .ref c0), (1, .ref h), (2, .int (nI x)), (3, .int y)] := hl
  refine lv_aload_n hx hb dX2_search_0 rfl (lv_at hl 0 rfl) ?_
  refine lv_iload_n hx hb dX2_search_1 rfl (lv_at hl 2 rfl) ?_
  refine va_put (D := (dC, dI)) (ci := 2) (v := .int (nI x)) (ty := .int) (C := RX2) (T := TX2) (N := 6) hx hb hts i_X2_search_X2 tyX2 tyX2_ok nmX2 hown hK hP hD hS 0 rfl rfl 1 (by decide) (hts _ mx_X2_search_1) (fun _ h9 => h9) rfl (by decide +kernel) rfl rfl (Nat.le_of_ble_eq_true rfl) dX2_search_2 (fun H locs hP hD hS => ?_)
  have hP : va_P (dC, dI) vwCl (([(xo_2_riiiii c0 be (nI x) wa br bw bt), (xJ be cL 9 fb), (xo_3_iiiiiiiirrrrr h v0 v1 v2 v3 (nI hh) v5 (nI ww) (nI kk) b1 b2 b3 b4 b5), (xI b1 cI 6 g1), (xI b2 cI 6 g2), (xI b3 cI 6 g3), (xI b4 cI 6 g4), (xI b5 cI 6 g5)] : va_W) ++ lvs cI 9 ad bd V G) H := hP
  have hD := dto hP hD
  refine lv_aload_n hx hb dX2_search_5 rfl (lv_at hl 0 rfl) ?_
  refine lv_iload_n hx hb dX2_search_6 rfl (lv_at hl 3 rfl) ?_
  refine va_put (D := (dC, dI)) (ci := 2) (v := .int y) (ty := .int) (C := RX2) (T := TX2) (N := 6) hx hb hts i_X2_search_X2 tyX2 tyX2_ok nmX2 hown hK hP hD hS 0 rfl rfl 2 (by decide) (hts _ mx_X2_search_2) (fun _ h9 => h9) rfl (by decide +kernel) rfl rfl (Nat.le_of_ble_eq_true rfl) dX2_search_7 (fun H locs hP hD hS => ?_)
  have hP : va_P (dC, dI) vwCl (([(xo_2_riiiii c0 be (nI x) y br bw bt), (xJ be cL 9 fb), (xo_3_iiiiiiiirrrrr h v0 v1 v2 v3 (nI hh) v5 (nI ww) (nI kk) b1 b2 b3 b4 b5), (xI b1 cI 6 g1), (xI b2 cI 6 g2), (xI b3 cI 6 g3), (xI b4 cI 6 g4), (xI b5 cI 6 g5)] : va_W) ++ lvs cI 9 ad bd V G) H := hP
  have hD := dto hP hD
  refine lv_aload_n hx hb dX2_search_10 rfl (lv_at hl 0 rfl) ?_
  refine lv_iconst (v := 0) hx hb dX2_search_11 (by decide) ?_
  refine va_put (D := (dC, dI)) (ci := 2) (v := .int 0) (ty := .int) (C := RX2) (T := TX2) (N := 6) hx hb hts i_X2_search_X2 tyX2 tyX2_ok nmX2 hown hK hP hD hS 0 rfl rfl 3 (by decide) (hts _ mx_X2_search_3) (fun _ h9 => h9) rfl (by decide +kernel) rfl rfl (Nat.le_of_ble_eq_true rfl) dX2_search_12 (fun H locs hP hD hS => ?_)
  have hP : va_P (dC, dI) vwCl (([(xo_2_riiiii c0 be (nI x) y 0 bw bt), (xJ be cL 9 fb), (xo_3_iiiiiiiirrrrr h v0 v1 v2 v3 (nI hh) v5 (nI ww) (nI kk) b1 b2 b3 b4 b5), (xI b1 cI 6 g1), (xI b2 cI 6 g2), (xI b3 cI 6 g3), (xI b4 cI 6 g4), (xI b5 cI 6 g5)] : va_W) ++ lvs cI 9 ad bd V G) H := hP
  have hD := dto hP hD
  refine lv_aload_n hx hb dX2_search_15 rfl (lv_at hl 0 rfl) ?_
  refine lv_iconst (v := (-1)) hx hb dX2_search_16 (by decide) ?_
  refine va_put (D := (dC, dI)) (ci := 2) (v := .int (-1)) (ty := .int) (C := RX2) (T := TX2) (N := 6) hx hb hts i_X2_search_X2 tyX2 tyX2_ok nmX2 hown hK hP hD hS 0 rfl rfl 4 (by decide) (hts _ mx_X2_search_4) (fun _ h9 => h9) rfl (by decide +kernel) rfl rfl (Nat.le_of_ble_eq_true rfl) dX2_search_17 (fun H locs hP hD hS => ?_)
  have hP : va_P (dC, dI) vwCl (([(xo_2_riiiii c0 be (nI x) y 0 (-1) bt), (xJ be cL 9 fb), (xo_3_iiiiiiiirrrrr h v0 v1 v2 v3 (nI hh) v5 (nI ww) (nI kk) b1 b2 b3 b4 b5), (xI b1 cI 6 g1), (xI b2 cI 6 g2), (xI b3 cI 6 g3), (xI b4 cI 6 g4), (xI b5 cI 6 g5)] : va_W) ++ lvs cI 9 ad bd V G) H := hP
  have hD := dto hP hD
  refine lv_aload_n hx hb dX2_search_20 rfl (lv_at hl 0 rfl) ?_
  refine lv_iconst (v := 0) hx hb dX2_search_21 (by decide) ?_
  refine va_put (D := (dC, dI)) (ci := 2) (v := .int 0) (ty := .int) (C := RX2) (T := TX2) (N := 6) hx hb hts i_X2_search_X2 tyX2 tyX2_ok nmX2 hown hK hP hD hS 0 rfl rfl 5 (by decide) (hts _ mx_X2_search_5) (fun _ h9 => h9) rfl (by decide +kernel) rfl rfl (Nat.le_of_ble_eq_true rfl) dX2_search_22 (fun H locs hP hD hS => ?_)
  have hP : va_P (dC, dI) vwCl (([(xo_2_riiiii c0 be (nI x) y 0 (-1) 0), (xJ be cL 9 fb), (xo_3_iiiiiiiirrrrr h v0 v1 v2 v3 (nI hh) v5 (nI ww) (nI kk) b1 b2 b3 b4 b5), (xI b1 cI 6 g1), (xI b2 cI 6 g2), (xI b3 cI 6 g3), (xI b4 cI 6 g4), (xI b5 cI 6 g5)] : va_W) ++ lvs cI 9 ad bd V G) H := hP
  have hD := dto hP hD
  refine lv_aload_n hx hb dX2_search_25 rfl (lv_at hl 0 rfl) ?_
  refine va_get (D := (dC, dI)) (ci := 2) (v := .ref be) (C := RX2) (T := TX2) (N := 6) hx hb hts i_X2_search_X2 hown hK hP 0 rfl rfl 0 (by decide) (hts _ mx_X2_search_6) (fun _ h9 => h9) rfl dX2_search_26 ?_
  refine lv_iconst (v := 0) hx hb dX2_search_29 (by decide) ?_
  refine va_aldq hx hb hK hP 1 2 rfl rfl (by unfold vp_in; decide) dX2_search_30 ?_
  refine W.eq (g2 := F0 m 31 ls (.ref (ad 0) :: [])) (by show F0 m 31 ls (va_rf (fb (0 : Int32).toNatClampNeg) :: _) = _; rw [show (0 : Int32).toNatClampNeg = 0 from rfl, hfb _ (by decide)]; rfl) ?_
  obtain ⟨pl_1, hP, hD, hbP_1, hbD_1⟩ := blk_opn hP hD (i := 0) (by decide)
  have hP : va_P (dC, dI) vwCl (([(xo_2_riiiii c0 be (nI x) y 0 (-1) 0), (xJ be cL 9 fb), (xo_3_iiiiiiiirrrrr h v0 v1 v2 v3 (nI hh) v5 (nI ww) (nI kk) b1 b2 b3 b4 b5), (xI b1 cI 6 g1), (xI b2 cI 6 g2), (xI b3 cI 6 g3), (xI b4 cI 6 g4), (xI b5 cI 6 g5), (xo_3_iiiiiiiirrrrr (ad 0) (V 0 0) (V 0 1) (V 0 2) (V 0 3) (V 0 4) (V 0 5) (V 0 6) (V 0 7) (bd 0 0) (bd 0 1) (bd 0 2) (bd 0 3) (bd 0 4)), (xI (bd 0 0) cI 6 (G 0 0)), (xI (bd 0 1) cI 6 (G 0 1)), (xI (bd 0 2) cI 6 (G 0 2)), (xI (bd 0 3) cI 6 (G 0 3)), (xI (bd 0 4) cI 6 (G 0 4))] : va_W) ++ pl_1) H := hP
  have hD := dto hP hD
  refine lv_aload_n hx hb dX2_search_31 rfl (lv_at hl 1 rfl) ?_
  have hc_2 := cutX (wc := [(xo_3_iiiiiiiirrrrr (ad 0) (V 0 0) (V 0 1) (V 0 2) (V 0 3) (V 0 4) (V 0 5) (V 0 6) (V 0 7) (bd 0 0) (bd 0 1) (bd 0 2) (bd 0 3) (bd 0 4)), (xI (bd 0 0) cI 6 (G 0 0)), (xI (bd 0 1) cI 6 (G 0 1)), (xI (bd 0 2) cI 6 (G 0 2)), (xI (bd 0 3) cI 6 (G 0 3)), (xI (bd 0 4) cI 6 (G 0 4)), (xo_3_iiiiiiiirrrrr h v0 v1 v2 v3 (nI hh) v5 (nI ww) (nI kk) b1 b2 b3 b4 b5), (xI b1 cI 6 g1), (xI b2 cI 6 g2), (xI b3 cI 6 g3), (xI b4 cI 6 g4), (xI b5 cI 6 g5)]) hP hD hS hA [8, 9, 10, 11, 12, 13, 2, 3, 4, 5, 6, 7] (by decide +kernel) rfl
  refine va_callv (va_runV (As := [.ref h]) (rest := []) ⟨hx, hb, hml, hown, hts⟩ (r_X3_becomeLike l dC dI cI cZ cL cJ H.size (ad 0) (V 0 0) (V 0 1) (V 0 2) (V 0 3) (V 0 4) (V 0 5) (V 0 6) (V 0 7) (bd 0 0) (bd 0 1) (bd 0 2) (bd 0 3) (bd 0 4) (G 0 0) (G 0 1) (G 0 2) (G 0 3) (G 0 4) h v0 v1 v2 v3 (nI hh) v5 (nI ww) (nI kk) b1 b2 b3 b4 b5 g1 g2 g3 g4 g5 ) (cwV 1 hts gX2_search_X3_becomeLike rfl rfl rfl (by decide +kernel) ⟨Nat.le_of_ble_eq_true rfl, Nat.le_of_ble_eq_true rfl⟩) (pvW 3 8 hK hP rfl rfl hc_2) rfl rfl hl.1 rfl (lv_room (Nat.le_of_ble_eq_true rfl)) dX2_search_32 ⟨Nat.le_of_ble_eq_true rfl, Nat.le_of_ble_eq_true rfl⟩) hS (fun q _ h => hc_2.2.2 q h) hc_2.2.2 (fun u_2 t_2 H1 locs ht hvm h_2 hB hz1 hk1 hS => ?_)
  refine xl_5_7 hB (fun f1n_2 f2n_2 f3n_2 f4n_2 f5n_2 hP1 hD1 hF_2_0 hF_2_1 hF_2_2 hF_2_3 hF_2_4 => ?_)
  clear hB
  rw [ht] at hP1
  obtain ⟨hP, hD⟩ := va_joinQ (wr := [(xo_2_riiiii c0 be (nI x) y 0 (-1) 0), (xJ be cL 9 fb)]) (w1 := [(xo_3_iiiiiiiirrrrr (ad 0) v0 v1 v2 v3 (nI hh) v5 (nI ww) (nI kk) (bd 0 0) (bd 0 1) (bd 0 2) (bd 0 3) (bd 0 4)), (xI (bd 0 0) cI 6 f1n_2), (xI (bd 0 1) cI 6 f2n_2), (xI (bd 0 2) cI 6 f3n_2), (xI (bd 0 3) cI 6 f4n_2), (xI (bd 0 4) cI 6 f5n_2), (xo_3_iiiiiiiirrrrr h v0 v1 v2 v3 (nI hh) v5 (nI ww) (nI kk) b1 b2 b3 b4 b5), (xI b1 cI 6 g1), (xI b2 cI 6 g2), (xI b3 cI 6 g3), (xI b4 cI 6 g4), (xI b5 cI 6 g5)]) hP hD [8, 9, 10, 11, 12, 13, 2, 3, 4, 5, 6, 7] [0, 1] rfl rfl (by decide +kernel) (by decide +kernel) hk1 hc_2.2.2 hP1 hD1
  generalize H1 = H at hP hS ⊢
  have hP : va_P (dC, dI) vwCl (([(xo_2_riiiii c0 be (nI x) y 0 (-1) 0), (xJ be cL 9 fb), (xo_3_iiiiiiiirrrrr (ad 0) v0 v1 v2 v3 (nI hh) v5 (nI ww) (nI kk) (bd 0 0) (bd 0 1) (bd 0 2) (bd 0 3) (bd 0 4)), (xI (bd 0 0) cI 6 f1n_2), (xI (bd 0 1) cI 6 f2n_2), (xI (bd 0 2) cI 6 f3n_2), (xI (bd 0 3) cI 6 f4n_2), (xI (bd 0 4) cI 6 f5n_2), (xo_3_iiiiiiiirrrrr h v0 v1 v2 v3 (nI hh) v5 (nI ww) (nI kk) b1 b2 b3 b4 b5), (xI b1 cI 6 g1), (xI b2 cI 6 g2), (xI b3 cI 6 g3), (xI b4 cI 6 g4), (xI b5 cI 6 g5)] : va_W) ++ pl_1) H := hP
  have hD := dto hP hD
  have hP := hbP_1 [(xo_2_riiiii c0 be (nI x) y 0 (-1) 0), (xJ be cL 9 fb), (xo_3_iiiiiiiirrrrr h v0 v1 v2 v3 (nI hh) v5 (nI ww) (nI kk) b1 b2 b3 b4 b5), (xI b1 cI 6 g1), (xI b2 cI 6 g2), (xI b3 cI 6 g3), (xI b4 cI 6 g4), (xI b5 cI 6 g5)] (v0) (v1) (v2) (v3) ((nI hh)) (v5) ((nI ww)) ((nI kk)) (f1n_2) (f2n_2) (f3n_2) (f4n_2) (f5n_2) _ (hP.part (cx := (([(xo_2_riiiii c0 be (nI x) y 0 (-1) 0), (xJ be cL 9 fb), (xo_3_iiiiiiiirrrrr h v0 v1 v2 v3 (nI hh) v5 (nI ww) (nI kk) b1 b2 b3 b4 b5), (xI b1 cI 6 g1), (xI b2 cI 6 g2), (xI b3 cI 6 g3), (xI b4 cI 6 g4), (xI b5 cI 6 g5)] : va_W) ++ ([(xo_3_iiiiiiiirrrrr (ad 0) v0 v1 v2 v3 (nI hh) v5 (nI ww) (nI kk) (bd 0 0) (bd 0 1) (bd 0 2) (bd 0 3) (bd 0 4)), (xI (bd 0 0) cI 6 f1n_2), (xI (bd 0 1) cI 6 f2n_2), (xI (bd 0 2) cI 6 f3n_2), (xI (bd 0 3) cI 6 f4n_2), (xI (bd 0 4) cI 6 f5n_2)] : va_W))) [0, 1, 8, 9, 10, 11, 12, 13, 2, 3, 4, 5, 6, 7] rfl)
  have hD := hbD_1 [(xo_2_riiiii c0 be (nI x) y 0 (-1) 0), (xJ be cL 9 fb), (xo_3_iiiiiiiirrrrr h v0 v1 v2 v3 (nI hh) v5 (nI ww) (nI kk) b1 b2 b3 b4 b5), (xI b1 cI 6 g1), (xI b2 cI 6 g2), (xI b3 cI 6 g3), (xI b4 cI 6 g4), (xI b5 cI 6 g5)] (v0) (v1) (v2) (v3) ((nI hh)) (v5) ((nI ww)) ((nI kk)) (f1n_2) (f2n_2) (f3n_2) (f4n_2) (f5n_2) _ (hD.part (cx := (([(xo_2_riiiii c0 be (nI x) y 0 (-1) 0), (xJ be cL 9 fb), (xo_3_iiiiiiiirrrrr h v0 v1 v2 v3 (nI hh) v5 (nI ww) (nI kk) b1 b2 b3 b4 b5), (xI b1 cI 6 g1), (xI b2 cI 6 g2), (xI b3 cI 6 g3), (xI b4 cI 6 g4), (xI b5 cI 6 g5)] : va_W) ++ ([(xo_3_iiiiiiiirrrrr (ad 0) v0 v1 v2 v3 (nI hh) v5 (nI ww) (nI kk) (bd 0 0) (bd 0 1) (bd 0 2) (bd 0 3) (bd 0 4)), (xI (bd 0 0) cI 6 f1n_2), (xI (bd 0 1) cI 6 f2n_2), (xI (bd 0 2) cI 6 f3n_2), (xI (bd 0 3) cI 6 f4n_2), (xI (bd 0 4) cI 6 f5n_2)] : va_W))) [0, 1, 8, 9, 10, 11, 12, 13, 2, 3, 4, 5, 6, 7] (by decide +kernel) rfl)
  generalize hV_3 : va_up V 0 (fun k => [v0, v1, v2, v3, (nI hh), v5, (nI ww), (nI kk)].getD k 0) = V_3 at hP hD
  generalize hG_3 : va_up G 0 (fun k => [f1n_2, f2n_2, f3n_2, f4n_2, f5n_2].getD k (fun _ => 0)) = G_3 at hP hD
  have hP : va_P (dC, dI) vwCl (([(xo_2_riiiii c0 be (nI x) y 0 (-1) 0), (xJ be cL 9 fb), (xo_3_iiiiiiiirrrrr h v0 v1 v2 v3 (nI hh) v5 (nI ww) (nI kk) b1 b2 b3 b4 b5), (xI b1 cI 6 g1), (xI b2 cI 6 g2), (xI b3 cI 6 g3), (xI b4 cI 6 g4), (xI b5 cI 6 g5)] : va_W) ++ lvs cI 9 ad bd V_3 G_3) H := hP
  have hD := dto hP hD
  have s4_3 : V_3 0 4 = nI hh := by rw [← hV_3, va_up_self]; rfl
  have s6_3 : V_3 0 6 = nI ww := by rw [← hV_3, va_up_self]; rfl
  have s7_3 : V_3 0 7 = nI kk := by rw [← hV_3, va_up_self]; rfl
  have sr_3 : nrV (V_3 0) (G_3 0) = (nrm v0 v1 v2 v3 hh v5 ww kk g1 g2 g3 g4 g5) := by rw [← hV_3, ← hG_3, va_up_self, va_up_self]; exact nrV_lev (by omega) hww hkk hF_2_0 hF_2_1 hF_2_2 hF_2_3 hF_2_4
  have sn_3 : okN (999 + 0) (nrV (V_3 0) (G_3 0)) := by rw [sr_3]; exact hN
  refine lv_aload_n hx hb dX2_search_35 rfl (lv_at hl 0 rfl) ?_
  refine lv_iconst (v := 0) hx hb dX2_search_36 (by decide) ?_
  refine lv_iconst (v := 0) hx hb dX2_search_37 (by decide) ?_
  refine lv_iconst (v := 0) hx hb dX2_search_38 (by decide) ?_
  have hc_4 := cutP (cx := [(xo_2_riiiii c0 be (nI x) y 0 (-1) 0), (xJ be cL 9 fb)]) hP hD hS hA [0, 1] (by decide +kernel) rfl
  refine va_callv (va_runV (As := [.int 0, .int 0, .int 0]) (rest := []) ⟨hx, hb, hml, hown, hts⟩ (r_X2_tryRows l dC dI cI cZ cL cJ H.size c0 be x y 0 (-1) 0 fb ad bd V_3 G_3 hh ww kk 0 0 0 (hfb) (s4_3) (s6_3) (s7_3) (by omega) (hww) (hkk) (by omega) (hx8) (sn_3)) (cwV 3 hts gX2_search_X2_tryRows rfl rfl rfl (by decide +kernel) ⟨Nat.le_of_ble_eq_true rfl, Nat.le_of_ble_eq_true rfl⟩) (pvW 2 0 hK hP rfl rfl hc_4) rfl rfl hl.1 rfl (lv_room (Nat.le_of_ble_eq_true rfl)) dX2_search_39 ⟨Nat.le_of_ble_eq_true rfl, Nat.le_of_ble_eq_true rfl⟩) hS (fun q _ h => hc_4.2.2 q h) hc_4.2.2 (fun u_4 t_4 H1 locs ht hvm h_4 hB hz1 hk1 hS => ?_)
  refine xl_5_4 hB (fun Vn_4 Gn_4 brn_4 bwn_4 btn_4 hP1 hD1 hF_4_0 hF_4_1 => ?_)
  clear hB
  rw [ht] at hP1
  obtain ⟨hP, hD⟩ := va_joinP (wr := [(xo_3_iiiiiiiirrrrr h v0 v1 v2 v3 (nI hh) v5 (nI ww) (nI kk) b1 b2 b3 b4 b5), (xI b1 cI 6 g1), (xI b2 cI 6 g2), (xI b3 cI 6 g3), (xI b4 cI 6 g4), (xI b5 cI 6 g5)]) (rx := [(xo_2_riiiii c0 be (nI x) y brn_4 bwn_4 btn_4), (xJ be cL 9 fb)]) (pl1 := lvs cI 9 ad bd Vn_4 Gn_4) hP hD [0, 1] [2, 3, 4, 5, 6, 7] rfl rfl (by decide +kernel) (by decide +kernel) hk1 hc_4.2.2 hP1 hD1
  generalize H1 = H at hP hS ⊢
  have hP : va_P (dC, dI) vwCl (([(xo_3_iiiiiiiirrrrr h v0 v1 v2 v3 (nI hh) v5 (nI ww) (nI kk) b1 b2 b3 b4 b5), (xI b1 cI 6 g1), (xI b2 cI 6 g2), (xI b3 cI 6 g3), (xI b4 cI 6 g4), (xI b5 cI 6 g5), (xo_2_riiiii c0 be (nI x) y brn_4 bwn_4 btn_4), (xJ be cL 9 fb)] : va_W) ++ lvs cI 9 ad bd Vn_4 Gn_4) H := hP
  have hD := dto hP hD
  have hX9 := cut2P (cx := [(xo_2_riiiii c0 be (nI x) y brn_4 bwn_4 btn_4), (xJ be cL 9 fb), (xo_3_iiiiiiiirrrrr h v0 v1 v2 v3 (nI hh) v5 (nI ww) (nI kk) b1 b2 b3 b4 b5), (xI b1 cI 6 g1), (xI b2 cI 6 g2), (xI b3 cI 6 g3), (xI b4 cI 6 g4), (xI b5 cI 6 g5)]) hP hD [6, 7, 0, 1, 2, 3, 4, 5] (by decide +kernel) rfl
  exact W.vret hx hb hr (fun t ht hW => ⟨⟨(), rfl, trivial, ⟨Vn_4, Gn_4, brn_4, bwn_4, btn_4, va_Ht ht hX9.1, hX9.2, (lf_X2_search_1 hfb hhb hww hkk hx8 hN hF_2_0 hF_2_1 hF_2_2 hF_2_3 hF_2_4 sr_3 hF_4_0 hF_4_1)⟩⟩, hS.F ht⟩) hS.2.2 dX2_search_42
