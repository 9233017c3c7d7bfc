set_option maxHeartbeats 4000000 in
set_option maxRecDepth 100000 in
theorem r_X0_keep (l : Launch) (dC : Nat → ClassId) (dI : Nat → Nat → Nat) (cI cZ cL cJ : ClassId) (sz : Nat) (a0 : Nat) (be : Nat) (q : Nat) (z : Nat) (fb : Nat → Option Nat) (ad : Nat → Nat) (bd : Nat → Nat → Nat) (V : Nat → Nat → Int32) (G : Nat → Nat → Nat → Int32) (h : Nat) (v0 : Int32) (v1 : Int32) (v2 : Int32) (v3 : Int32) (v5 : Int32) (hh : Nat) (ww : Nat) (kk : Nat) (b1 : Nat) (b2 : Nat) (b3 : Nat) (b4 : Nat) (b5 : Nat) (g1 : Nat → Int32) (g2 : Nat → Int32) (g3 : Nat → Int32) (g4 : Nat → Int32) (g5 : Nat → Int32) (hfb : ∀ i : Nat, i < 24 → fb i = some (ad i)) (hok : ∀ i : Nat, i < 24 → okL (V i)) (hq : q < 24) (hz : z ≤ 24) (hhb : hh ≤ 999) (hww : ww ≤ 6) (hkk : kk ≤ 6) : Met l yX0_keep wsX0_keep ({ frames := 2, cells := 0, slots := 0, locals := 101 }) (va_Pc [.ref a0, .ref h] (fun U => U.heap.size = sz ∧ va_P (dC, dI) vwCl (([(xo_0_rii a0 be (nI q) (nI z)), (xJ be cL 24 fb), (xo_3_iiiiiiiirrrrr h v0 v1 v2 v3 (nI hh) v5 (nI ww) (nI kk) b1 b2 b3 b4 b5), (xI b1 cI 6 g1), (xI b2 cI 6 g2), (xI b3 cI 6 g3), (xI b4 cI 6 g4), (xI b5 cI 6 g5)] : va_W) ++ lvs cI 24 ad bd V G) U.heap ∧ va_K (dC, dI) vwCl [(cI, .int), (cZ, .boolean), (cL, .object RX3), (cJ, .array .int)] U ∧ va_D (fun _ => True) (([(xo_0_rii a0 be (nI q) (nI z)), (xJ be cL 24 fb), (xo_3_iiiiiiiirrrrr h v0 v1 v2 v3 (nI hh) v5 (nI ww) (nI kk) b1 b2 b3 b4 b5), (xI b1 cI 6 g1), (xI b2 cI 6 g2), (xI b3 cI 6 g3), (xI b4 cI 6 g4), (xI b5 cI 6 g5)] : va_W) ++ lvs cI 24 ad bd V G))) (va_Qv (fun (_ : Unit) => True) (fun (_ : Unit) t => ∃ (Vn : Nat → Nat → Int32) (Gn : Nat → Nat → Nat → Int32) (qn : Nat) (zn : Nat), va_P (dC, dI) vwCl (([(xo_0_rii a0 be (nI qn) (nI zn)), (xJ be cL 24 fb), (xo_3_iiiiiiiirrrrr h v0 v1 v2 v3 (nI hh) v5 (nI ww) (nI kk) b1 b2 b3 b4 b5), (xI b1 cI 6 g1), (xI b2 cI 6 g2), (xI b3 cI 6 g3), (xI b4 cI 6 g4), (xI b5 cI 6 g5)] : va_W) ++ lvs cI 24 ad bd Vn Gn) t.heap ∧ va_D (va_A (([(xo_0_rii a0 be (nI q) (nI z)), (xJ be cL 24 fb), (xo_3_iiiiiiiirrrrr h v0 v1 v2 v3 (nI hh) v5 (nI ww) (nI kk) b1 b2 b3 b4 b5), (xI b1 cI 6 g1), (xI b2 cI 6 g2), (xI b3 cI 6 g3), (xI b4 cI 6 g4), (xI b5 cI 6 g5)] : va_W) ++ lvs cI 24 ad bd V G) sz) (([(xo_0_rii a0 be (nI qn) (nI zn)), (xJ be cL 24 fb), (xo_3_iiiiiiiirrrrr h v0 v1 v2 v3 (nI hh) v5 (nI ww) (nI kk) b1 b2 b3 b4 b5), (xI b1 cI 6 g1), (xI b2 cI 6 g2), (xI b3 cI 6 g3), (xI b4 cI 6 g4), (xI b5 cI 6 g5)] : va_W) ++ lvs cI 24 ad bd Vn Gn) ∧ (∀ i : Nat, i < 24 → okL (Vn i)) ∧ qn < 24 ∧ zn ≤ 24 ∧ nrV (Vn q) (Gn q) = (nrm v0 v1 v2 v3 hh v5 ww kk g1 g2 g3 g4 g5) ∧ (∀ i : Nat, i < 24 → i ≠ q → nrV (Vn i) (Gn i) = nrV (V i) (G i)) ∧ qn = (q + 1) % 24 ∧ zn = ntN z) (va_A (([(xo_0_rii a0 be (nI q) (nI z)), (xJ be cL 24 fb), (xo_3_iiiiiiiirrrrr h v0 v1 v2 v3 (nI hh) v5 (nI ww) (nI kk) b1 b2 b3 b4 b5), (xI b1 cI 6 g1), (xI b2 cI 6 g2), (xI b3 cI 6 g3), (xI b4 cI 6 g4), (xI b5 cI 6 g5)] : va_W) ++ lvs cI 24 ad bd V G) sz)) 0 0 (va_A (([(xo_0_rii a0 be (nI q) (nI z)), (xJ be cL 24 fb), (xo_3_iiiiiiiirrrrr h v0 v1 v2 v3 (nI hh) v5 (nI ww) (nI kk) b1 b2 b3 b4 b5), (xI b1 cI 6 g1), (xI b2 cI 6 g2), (xI b3 cI 6 g3), (xI b4 cI 6 g4), (xI b5 cI 6 g5)] : va_W) ++ lvs cI 24 ad bd V G) sz) := by
  refine Met.ofW (cc := cX0_keep) (maxL := 2) (ret := none) (by decide) rfl ?_
  intro p e s m args below meth c s₁ B hml hv
  obtain ⟨rfl, hsz, hP, hK, hD0⟩ := hv
  have hx := B.exec
  have hb := B.bytes
  have hr := B.returns
  have hts := atoms_spec (ws := wsX0_keep) B.pre
  have hown : s.vm.findClass RX0 = some m.cls := findClass_of_methodNamed B.named
  have hlocks := B.notSynchronized
  subst hsz
  have hD := hD0.self (sz := s.heap.size)
  generalize hAe : va_A (([(xo_0_rii a0 be (nI q) (nI z)), (xJ be cL 24 fb), (xo_3_iiiiiiiirrrrr h v0 v1 v2 v3 (nI hh) v5 (nI ww) (nI kk) b1 b2 b3 b4 b5), (xI b1 cI 6 g1), (xI b2 cI 6 g2), (xI b3 cI 6 g3), (xI b4 cI 6 g4), (xI b5 cI 6 g5)] : va_W) ++ lvs cI 24 ad bd V G) s.heap.size = A at hD ⊢
  have hA : ∀ q : Nat, s.heap.size ≤ q → A q := fun q h => by rw [← hAe]; exact Or.inr h
  have hS : va_S A s.heap s.heap [] := va_S.rf
  have hP : va_P (dC, dI) vwCl (([(xo_0_rii a0 be (nI q) (nI z)), (xJ be cL 24 fb), (xo_3_iiiiiiiirrrrr h v0 v1 v2 v3 (nI hh) v5 (nI ww) (nI kk) b1 b2 b3 b4 b5), (xI b1 cI 6 g1), (xI b2 cI 6 g2), (xI b3 cI 6 g3), (xI b4 cI 6 g4), (xI b5 cI 6 g5)] : va_W) ++ lvs cI 24 ad bd V G) s.heap := hP
  have hl := lv_entry ([.ref a0, .ref h]) (n := 2) (Nat.le_of_ble_eq_true rfl)
  rw [lg_entry_eq]
  generalize (lg_sl ([.ref a0, .ref h]) ++ List.replicate (2 - (lg_sl ([.ref a0, .ref h])).length) Slot.unset).toArray = ls at hl ⊢
  have hl : lv_has ls 2 [(0, .ref a0), (1, .ref h)] := hl
  refine lv_aload_n hx hb dX0_keep_0 rfl (lv_at hl 0 rfl) ?_
  refine va_get (D := (dC, dI)) (ci := 0) (v := .ref be) (C := RX0) (T := TX0) (N := 3) hx hb hts i_X0_keep_X0 hown hK hP 0 rfl rfl 0 (by decide) (hts _ mx_X0_keep_1) (fun _ h9 => h9) rfl dX0_keep_1 ?_
  refine lv_aload_n hx hb dX0_keep_4 rfl (lv_at hl 0 rfl) ?_
  refine va_get (D := (dC, dI)) (ci := 0) (v := .int (nI q)) (C := RX0) (T := TX0) (N := 3) hx hb hts i_X0_keep_X0 hown hK hP 0 rfl rfl 1 (by decide) (hts _ mx_X0_keep_2) (fun _ h9 => h9) rfl dX0_keep_5 ?_
  refine va_aldq hx hb hK hP 1 2 rfl rfl (vp_in_nI (by omega) (by omega)) dX0_keep_8 ?_
  refine W.eq (g2 := F0 m 9 ls (.ref (ad q) :: [])) (by show F0 m 9 ls (va_rf (fb (nI q).toNatClampNeg) :: _) = _; rw [nI_clamp (by omega), hfb _ (by omega)]; rfl) ?_
  obtain ⟨pl_1, hP, hD, hbP_1, hbD_1⟩ := blk_opn hP hD (i := q) (by omega)
  have hP : va_P (dC, dI) vwCl (([(xo_0_rii a0 be (nI q) (nI z)), (xJ be cL 24 fb), (xo_3_iiiiiiiirrrrr h v0 v1 v2 v3 (nI hh) v5 (nI ww) (nI kk) b1 b2 b3 b4 b5), (xI b1 cI 6 g1), (xI b2 cI 6 g2), (xI b3 cI 6 g3), (xI b4 cI 6 g4), (xI b5 cI 6 g5), (xo_3_iiiiiiiirrrrr (ad q) (V q 0) (V q 1) (V q 2) (V q 3) (V q 4) (V q 5) (V q 6) (V q 7) (bd q 0) (bd q 1) (bd q 2) (bd q 3) (bd q 4)), (xI (bd q 0) cI 6 (G q 0)), (xI (bd q 1) cI 6 (G q 1)), (xI (bd q 2) cI 6 (G q 2)), (xI (bd q 3) cI 6 (G q 3)), (xI (bd q 4) cI 6 (G q 4))] : va_W) ++ pl_1) s.heap := hP
  have hD := dto hP hD
  refine lv_aload_n hx hb dX0_keep_9 rfl (lv_at hl 1 rfl) ?_
  have hc_2 := cutX (wc := [(xo_3_iiiiiiiirrrrr (ad q) (V q 0) (V q 1) (V q 2) (V q 3) (V q 4) (V q 5) (V q 6) (V q 7) (bd q 0) (bd q 1) (bd q 2) (bd q 3) (bd q 4)), (xI (bd q 0) cI 6 (G q 0)), (xI (bd q 1) cI 6 (G q 1)), (xI (bd q 2) cI 6 (G q 2)), (xI (bd q 3) cI 6 (G q 3)), (xI (bd q 4) cI 6 (G q 4)), (xo_3_iiiiiiiirrrrr h v0 v1 v2 v3 (nI hh) v5 (nI ww) (nI kk) b1 b2 b3 b4 b5), (xI b1 cI 6 g1), (xI b2 cI 6 g2), (xI b3 cI 6 g3), (xI b4 cI 6 g4), (xI b5 cI 6 g5)]) hP hD hS hA [8, 9, 10, 11, 12, 13, 2, 3, 4, 5, 6, 7] (by decide +kernel) rfl
  refine va_callv (va_runV (As := [.ref h]) (rest := []) ⟨hx, hb, hml, hown, hts⟩ (r_X3_becomeLike l dC dI cI cZ cL cJ s.heap.size (ad q) (V q 0) (V q 1) (V q 2) (V q 3) (V q 4) (V q 5) (V q 6) (V q 7) (bd q 0) (bd q 1) (bd q 2) (bd q 3) (bd q 4) (G q 0) (G q 1) (G q 2) (G q 3) (G q 4) h v0 v1 v2 v3 (nI hh) v5 (nI ww) (nI kk) b1 b2 b3 b4 b5 g1 g2 g3 g4 g5 ) (cwV 1 hts gX0_keep_X3_becomeLike rfl rfl rfl (by decide +kernel) ⟨Nat.le_of_ble_eq_true rfl, Nat.le_of_ble_eq_true rfl⟩) (pvW 3 8 hK hP rfl rfl hc_2) rfl rfl hl.1 rfl (lv_room (Nat.le_of_ble_eq_true rfl)) dX0_keep_10 ⟨Nat.le_of_ble_eq_true rfl, Nat.le_of_ble_eq_true rfl⟩) hS (fun q _ h => hc_2.2.2 q h) hc_2.2.2 (fun u_2 t_2 H1 locs ht hvm h_2 hB hz1 hk1 hS => ?_)
  refine xl_5_7 hB (fun f1n_2 f2n_2 f3n_2 f4n_2 f5n_2 hP1 hD1 hF_2_0 hF_2_1 hF_2_2 hF_2_3 hF_2_4 => ?_)
  clear hB
  rw [ht] at hP1
  obtain ⟨hP, hD⟩ := va_joinQ (wr := [(xo_0_rii a0 be (nI q) (nI z)), (xJ be cL 24 fb)]) (w1 := [(xo_3_iiiiiiiirrrrr (ad q) v0 v1 v2 v3 (nI hh) v5 (nI ww) (nI kk) (bd q 0) (bd q 1) (bd q 2) (bd q 3) (bd q 4)), (xI (bd q 0) cI 6 f1n_2), (xI (bd q 1) cI 6 f2n_2), (xI (bd q 2) cI 6 f3n_2), (xI (bd q 3) cI 6 f4n_2), (xI (bd q 4) cI 6 f5n_2), (xo_3_iiiiiiiirrrrr h v0 v1 v2 v3 (nI hh) v5 (nI ww) (nI kk) b1 b2 b3 b4 b5), (xI b1 cI 6 g1), (xI b2 cI 6 g2), (xI b3 cI 6 g3), (xI b4 cI 6 g4), (xI b5 cI 6 g5)]) hP hD [8, 9, 10, 11, 12, 13, 2, 3, 4, 5, 6, 7] [0, 1] rfl rfl (by decide +kernel) (by decide +kernel) hk1 hc_2.2.2 hP1 hD1
  generalize H1 = H at hP hS ⊢
  have hP : va_P (dC, dI) vwCl (([(xo_0_rii a0 be (nI q) (nI z)), (xJ be cL 24 fb), (xo_3_iiiiiiiirrrrr (ad q) v0 v1 v2 v3 (nI hh) v5 (nI ww) (nI kk) (bd q 0) (bd q 1) (bd q 2) (bd q 3) (bd q 4)), (xI (bd q 0) cI 6 f1n_2), (xI (bd q 1) cI 6 f2n_2), (xI (bd q 2) cI 6 f3n_2), (xI (bd q 3) cI 6 f4n_2), (xI (bd q 4) cI 6 f5n_2), (xo_3_iiiiiiiirrrrr h v0 v1 v2 v3 (nI hh) v5 (nI ww) (nI kk) b1 b2 b3 b4 b5), (xI b1 cI 6 g1), (xI b2 cI 6 g2), (xI b3 cI 6 g3), (xI b4 cI 6 g4), (xI b5 cI 6 g5)] : va_W) ++ pl_1) H := hP
  have hD := dto hP hD
  have hP := hbP_1 [(xo_0_rii a0 be (nI q) (nI z)), (xJ be cL 24 fb), (xo_3_iiiiiiiirrrrr h v0 v1 v2 v3 (nI hh) v5 (nI ww) (nI kk) b1 b2 b3 b4 b5), (xI b1 cI 6 g1), (xI b2 cI 6 g2), (xI b3 cI 6 g3), (xI b4 cI 6 g4), (xI b5 cI 6 g5)] (v0) (v1) (v2) (v3) ((nI hh)) (v5) ((nI ww)) ((nI kk)) (f1n_2) (f2n_2) (f3n_2) (f4n_2) (f5n_2) _ (hP.part (cx := (([(xo_0_rii a0 be (nI q) (nI z)), (xJ be cL 24 fb), (xo_3_iiiiiiiirrrrr h v0 v1 v2 v3 (nI hh) v5 (nI ww) (nI kk) b1 b2 b3 b4 b5), (xI b1 cI 6 g1), (xI b2 cI 6 g2), (xI b3 cI 6 g3), (xI b4 cI 6 g4), (xI b5 cI 6 g5)] : va_W) ++ ([(xo_3_iiiiiiiirrrrr (ad q) v0 v1 v2 v3 (nI hh) v5 (nI ww) (nI kk) (bd q 0) (bd q 1) (bd q 2) (bd q 3) (bd q 4)), (xI (bd q 0) cI 6 f1n_2), (xI (bd q 1) cI 6 f2n_2), (xI (bd q 2) cI 6 f3n_2), (xI (bd q 3) cI 6 f4n_2), (xI (bd q 4) cI 6 f5n_2)] : va_W))) [0, 1, 8, 9, 10, 11, 12, 13, 2, 3, 4, 5, 6, 7] rfl)
  have hD := hbD_1 [(xo_0_rii a0 be (nI q) (nI z)), (xJ be cL 24 fb), (xo_3_iiiiiiiirrrrr h v0 v1 v2 v3 (nI hh) v5 (nI ww) (nI kk) b1 b2 b3 b4 b5), (xI b1 cI 6 g1), (xI b2 cI 6 g2), (xI b3 cI 6 g3), (xI b4 cI 6 g4), (xI b5 cI 6 g5)] (v0) (v1) (v2) (v3) ((nI hh)) (v5) ((nI ww)) ((nI kk)) (f1n_2) (f2n_2) (f3n_2) (f4n_2) (f5n_2) _ (hD.part (cx := (([(xo_0_rii a0 be (nI q) (nI z)), (xJ be cL 24 fb), (xo_3_iiiiiiiirrrrr h v0 v1 v2 v3 (nI hh) v5 (nI ww) (nI kk) b1 b2 b3 b4 b5), (xI b1 cI 6 g1), (xI b2 cI 6 g2), (xI b3 cI 6 g3), (xI b4 cI 6 g4), (xI b5 cI 6 g5)] : va_W) ++ ([(xo_3_iiiiiiiirrrrr (ad q) v0 v1 v2 v3 (nI hh) v5 (nI ww) (nI kk) (bd q 0) (bd q 1) (bd q 2) (bd q 3) (bd q 4)), (xI (bd q 0) cI 6 f1n_2), (xI (bd q 1) cI 6 f2n_2), (xI (bd q 2) cI 6 f3n_2), (xI (bd q 3) cI 6 f4n_2), (xI (bd q 4) cI 6 f5n_2)] : va_W))) [0, 1, 8, 9, 10, 11, 12, 13, 2, 3, 4, 5, 6, 7] (by decide +kernel) rfl)
  generalize hV_3 : va_up V q (fun k => [v0, v1, v2, v3, (nI hh), v5, (nI ww), (nI kk)].getD k 0) = V_3 at hP hD
  generalize hG_3 : va_up G q (fun k => [f1n_2, f2n_2, f3n_2, f4n_2, f5n_2].getD k (fun _ => 0)) = G_3 at hP hD
  have hP : va_P (dC, dI) vwCl (([(xo_0_rii a0 be (nI q) (nI z)), (xJ be cL 24 fb), (xo_3_iiiiiiiirrrrr h v0 v1 v2 v3 (nI hh) v5 (nI ww) (nI kk) b1 b2 b3 b4 b5), (xI b1 cI 6 g1), (xI b2 cI 6 g2), (xI b3 cI 6 g3), (xI b4 cI 6 g4), (xI b5 cI 6 g5)] : va_W) ++ lvs cI 24 ad bd V_3 G_3) H := hP
  have hD := dto hP hD
  refine lv_aload_n hx hb dX0_keep_13 rfl (lv_at hl 0 rfl) ?_
  refine lv_aload_n hx hb dX0_keep_14 rfl (lv_at hl 0 rfl) ?_
  refine va_get (D := (dC, dI)) (ci := 0) (v := .int (nI q)) (C := RX0) (T := TX0) (N := 3) hx hb hts i_X0_keep_X0 hown hK hP 0 rfl rfl 1 (by decide) (hts _ mx_X0_keep_2) (fun _ h9 => h9) rfl dX0_keep_15 ?_
  refine lv_iconst (v := 1) hx hb dX0_keep_18 (by decide) ?_
  refine lv_iadd hx hb dX0_keep_19 ?_
  refine lv_topi (fun v_4 e_4 => ?_)
  obtain rfl : v_4 = (nI (q + 1)) := (e_4).trans (nI_add q 1)
  refine lv_bipush (v := 24) hx hb dX0_keep_20 (by decide) ?_
  refine lv_irem hx hb dX0_keep_22 (by decide) ?_
  refine lv_topi (fun v_5 e_5 => ?_)
  obtain ⟨z_5, hz_5, hze_5, rfl⟩ : ∃ z : Nat, z < 24 ∧ z = (q + 1) % 24 ∧ v_5 = nI z := ⟨(q + 1) % 24, Nat.mod_lt _ (by omega), rfl, e_5.trans (pk_rem (a := (q + 1)) (d := 24) (by omega) (by omega) (by omega))⟩
  refine va_put (D := (dC, dI)) (ci := 0) (v := .int (nI z_5)) (ty := .int) (C := RX0) (T := TX0) (N := 3) hx hb hts i_X0_keep_X0 tyX0 tyX0_ok nmX0 hown hK hP hD hS 0 rfl rfl 1 (by decide) (hts _ mx_X0_keep_2) (fun _ h9 => h9) rfl (by decide +kernel) rfl rfl (Nat.le_of_ble_eq_true rfl) dX0_keep_23 (fun H locs hP hD hS => ?_)
  have hP : va_P (dC, dI) vwCl (([(xo_0_rii a0 be (nI z_5) (nI z)), (xJ be cL 24 fb), (xo_3_iiiiiiiirrrrr h v0 v1 v2 v3 (nI hh) v5 (nI ww) (nI kk) b1 b2 b3 b4 b5), (xI b1 cI 6 g1), (xI b2 cI 6 g2), (xI b3 cI 6 g3), (xI b4 cI 6 g4), (xI b5 cI 6 g5)] : va_W) ++ lvs cI 24 ad bd V_3 G_3) H := hP
  have hD := dto hP hD
  refine lv_aload_n hx hb dX0_keep_26 rfl (lv_at hl 0 rfl) ?_
  refine lv_aload_n hx hb dX0_keep_27 rfl (lv_at hl 0 rfl) ?_
  refine va_get (D := (dC, dI)) (ci := 0) (v := .int (nI z)) (C := RX0) (T := TX0) (N := 3) hx hb hts i_X0_keep_X0 hown hK hP 0 rfl rfl 2 (by decide) (hts _ mx_X0_keep_3) (fun _ h9 => h9) rfl dX0_keep_28 ?_
  refine lv_iconst (v := 1) hx hb dX0_keep_31 (by decide) ?_
  refine lv_iadd hx hb dX0_keep_32 ?_
  refine lv_topi (fun v_6 e_6 => ?_)
  obtain rfl : v_6 = (nI (z + 1)) := (e_6).trans (nI_add z 1)
  refine lv_bipush (v := 24) hx hb dX0_keep_33 (by decide) ?_
  refine va_mmin hx hb (by rw [hml]; exact hl.1.symm) hown (hts _ mx_X0_keep_4) (hts _ mx_X0_keep_5) (hts _ mx_X0_keep_6) (hts _ mx_X0_keep_7) (Nat.le_of_ble_eq_true rfl) (Nat.le_of_ble_eq_true rfl) (Nat.zero_le _) (Nat.zero_le _) dX0_keep_35 ?_
  refine lv_topi (fun v_7 e_7 => ?_)
  obtain ⟨z_7, hz_7, hz2_7, hze_7, e2_7⟩  := mmin_nat (a := (z + 1)) (b := 24) (by omega) (by omega)
  obtain rfl : v_7 = nI z_7 := e_7.trans e2_7
  refine va_put (D := (dC, dI)) (ci := 0) (v := .int (nI z_7)) (ty := .int) (C := RX0) (T := TX0) (N := 3) hx hb hts i_X0_keep_X0 tyX0 tyX0_ok nmX0 hown hK hP hD hS 0 rfl rfl 2 (by decide) (hts _ mx_X0_keep_3) (fun _ h9 => h9) rfl (by decide +kernel) rfl rfl (Nat.le_of_ble_eq_true rfl) dX0_keep_38 (fun H locs hP hD hS => ?_)
  have hP : va_P (dC, dI) vwCl (([(xo_0_rii a0 be (nI z_5) (nI z_7)), (xJ be cL 24 fb), (xo_3_iiiiiiiirrrrr h v0 v1 v2 v3 (nI hh) v5 (nI ww) (nI kk) b1 b2 b3 b4 b5), (xI b1 cI 6 g1), (xI b2 cI 6 g2), (xI b3 cI 6 g3), (xI b4 cI 6 g4), (xI b5 cI 6 g5)] : va_W) ++ lvs cI 24 ad bd V_3 G_3) H := hP
  have hD := dto hP hD
  have hX9 := cut2P (cx := [(xo_0_rii a0 be (nI z_5) (nI z_7)), (xJ be cL 24 fb), (xo_3_iiiiiiiirrrrr h v0 v1 v2 v3 (nI hh) v5 (nI ww) (nI kk) b1 b2 b3 b4 b5), (xI b1 cI 6 g1), (xI b2 cI 6 g2), (xI b3 cI 6 g3), (xI b4 cI 6 g4), (xI b5 cI 6 g5)]) hP hD [0, 1, 2, 3, 4, 5, 6, 7] (by decide +kernel) rfl
  exact W.vret hx hb hr (fun t ht hW => ⟨⟨(), rfl, trivial, ⟨V_3, G_3, z_5, z_7, va_Ht ht hX9.1, hX9.2, (by rw [← hV_3]; exact okL_up hok ⟨hh, ww, kk, rfl, hhb, rfl, hww, rfl, hkk⟩), (by omega), (by omega), (by rw [← hV_3, ← hG_3, va_up_self, va_up_self]; exact nrV_lev (by omega) hww hkk hF_2_0 hF_2_1 hF_2_2 hF_2_3 hF_2_4), (fun i hi hq_ => by rw [← hV_3, ← hG_3, va_up_ne _ _ hq_, va_up_ne _ _ hq_]), (by omega), (ntN_min (by assumption))⟩⟩, hS.F ht⟩) hS.2.2 dX0_keep_41
set_option maxHeartbeats 4000000 in
set_option maxRecDepth 100000 in
theorem r_X0_takeBack (l : Launch) (dC : Nat → ClassId) (dI : Nat → Nat → Nat) (cI cZ cL cJ : ClassId) (sz : Nat) (a0 : Nat) (be : Nat) (q : Nat) (z : Nat) (fb : Nat → Option Nat) (ad : Nat → Nat) (bd : Nat → Nat → Nat) (V : Nat → Nat → Int32) (G : Nat → Nat → Nat → Int32) (h : Nat) (v0 : Int32) (v1 : Int32) (v2 : Int32) (v3 : Int32) (v5 : Int32) (hh : Nat) (ww : Nat) (kk : Nat) (b1 : Nat) (b2 : Nat) (b3 : Nat) (b4 : Nat) (b5 : Nat) (g1 : Nat → Int32) (g2 : Nat → Int32) (g3 : Nat → Int32) (g4 : Nat → Int32) (g5 : Nat → Int32) (hfb : ∀ i : Nat, i < 24 → fb i = some (ad i)) (hok : ∀ i : Nat, i < 24 → okL (V i)) (hq : q < 24) (hz : z ≤ 24) (hhb : hh ≤ 999) (hww : ww ≤ 6) (hkk : kk ≤ 6) : Met l yX0_takeBack wsX0_takeBack ({ frames := 2, cells := 0, slots := 0, locals := 101 }) (va_Pc [.ref a0, .ref h] (fun U => U.heap.size = sz ∧ va_P (dC, dI) vwCl (([(xo_0_rii a0 be (nI q) (nI z)), (xJ be cL 24 fb), (xo_3_iiiiiiiirrrrr h v0 v1 v2 v3 (nI hh) v5 (nI ww) (nI kk) b1 b2 b3 b4 b5), (xI b1 cI 6 g1), (xI b2 cI 6 g2), (xI b3 cI 6 g3), (xI b4 cI 6 g4), (xI b5 cI 6 g5)] : va_W) ++ lvs cI 24 ad bd V G) U.heap ∧ va_K (dC, dI) vwCl [(cI, .int), (cZ, .boolean), (cL, .object RX3), (cJ, .array .int)] U ∧ va_D (fun _ => True) (([(xo_0_rii a0 be (nI q) (nI z)), (xJ be cL 24 fb), (xo_3_iiiiiiiirrrrr h v0 v1 v2 v3 (nI hh) v5 (nI ww) (nI kk) b1 b2 b3 b4 b5), (xI b1 cI 6 g1), (xI b2 cI 6 g2), (xI b3 cI 6 g3), (xI b4 cI 6 g4), (xI b5 cI 6 g5)] : va_W) ++ lvs cI 24 ad bd V G))) (va_Qv (fun (_ : Unit) => True) (fun (_ : Unit) t => ∃ (Vn : Nat → Nat → Int32) (Gn : Nat → Nat → Nat → Int32) (qn : Nat) (zn : Nat) (hn : Nat) (wn : Nat) (kn : Nat) (v0n : Int32) (v1n : Int32) (v2n : Int32) (v3n : Int32) (v5n : Int32) (g1n : Nat → Int32) (g2n : Nat → Int32) (g3n : Nat → Int32) (g4n : Nat → Int32) (g5n : Nat → Int32), va_P (dC, dI) vwCl (([(xo_0_rii a0 be (nI qn) (nI zn)), (xJ be cL 24 fb), (xo_3_iiiiiiiirrrrr h v0n v1n v2n v3n (nI hn) v5n (nI wn) (nI kn) b1 b2 b3 b4 b5), (xI b1 cI 6 g1n), (xI b2 cI 6 g2n), (xI b3 cI 6 g3n), (xI b4 cI 6 g4n), (xI b5 cI 6 g5n)] : va_W) ++ lvs cI 24 ad bd Vn Gn) t.heap ∧ va_D (va_A (([(xo_0_rii a0 be (nI q) (nI z)), (xJ be cL 24 fb), (xo_3_iiiiiiiirrrrr h v0 v1 v2 v3 (nI hh) v5 (nI ww) (nI kk) b1 b2 b3 b4 b5), (xI b1 cI 6 g1), (xI b2 cI 6 g2), (xI b3 cI 6 g3), (xI b4 cI 6 g4), (xI b5 cI 6 g5)] : va_W) ++ lvs cI 24 ad bd V G) sz) (([(xo_0_rii a0 be (nI qn) (nI zn)), (xJ be cL 24 fb), (xo_3_iiiiiiiirrrrr h v0n v1n v2n v3n (nI hn) v5n (nI wn) (nI kn) b1 b2 b3 b4 b5), (xI b1 cI 6 g1n), (xI b2 cI 6 g2n), (xI b3 cI 6 g3n), (xI b4 cI 6 g4n), (xI b5 cI 6 g5n)] : va_W) ++ lvs cI 24 ad bd Vn Gn) ∧ (∀ i : Nat, i < 24 → okL (Vn i)) ∧ qn < 24 ∧ zn ≤ 24 ∧ hn ≤ 999 ∧ wn ≤ 6 ∧ kn ≤ 6 ∧ (0 < z → qn = (q + 23) % 24 ∧ zn = z - 1 ∧ (nrm v0n v1n v2n v3n hn v5n wn kn g1n g2n g3n g4n g5n) = nrV (V qn) (G qn)) ∧ (z = 0 → zn = 0 ∧ qn = q ∧ (nrm v0n v1n v2n v3n hn v5n wn kn g1n g2n g3n g4n g5n) = (nrm v0 v1 v2 v3 hh v5 ww kk g1 g2 g3 g4 g5)) ∧ (∀ i : Nat, i < 24 → nrV (Vn i) (Gn i) = nrV (V i) (G i))) (va_A (([(xo_0_rii a0 be (nI q) (nI z)), (xJ be cL 24 fb), (xo_3_iiiiiiiirrrrr h v0 v1 v2 v3 (nI hh) v5 (nI ww) (nI kk) b1 b2 b3 b4 b5), (xI b1 cI 6 g1), (xI b2 cI 6 g2), (xI b3 cI 6 g3), (xI b4 cI 6 g4), (xI b5 cI 6 g5)] : va_W) ++ lvs cI 24 ad bd V G) sz)) 0 0 (va_A (([(xo_0_rii a0 be (nI q) (nI z)), (xJ be cL 24 fb), (xo_3_iiiiiiiirrrrr h v0 v1 v2 v3 (nI hh) v5 (nI ww) (nI kk) b1 b2 b3 b4 b5), (xI b1 cI 6 g1), (xI b2 cI 6 g2), (xI b3 cI 6 g3), (xI b4 cI 6 g4), (xI b5 cI 6 g5)] : va_W) ++ lvs cI 24 ad bd V G) sz) := by
  refine Met.ofW (cc := cX0_takeBack) (maxL := 2) (ret := none) (by decide) rfl ?_
  intro p e s m args below meth c s₁ B hml hv
  obtain ⟨rfl, hsz, hP, hK, hD0⟩ := hv
  have hx := B.exec
  have hb := B.bytes
  have hr := B.returns
  have hts := atoms_spec (ws := wsX0_takeBack) B.pre
  have hown : s.vm.findClass RX0 = some m.cls := findClass_of_methodNamed B.named
  have hlocks := B.notSynchronized
  subst hsz
  have hD := hD0.self (sz := s.heap.size)
  generalize hAe : va_A (([(xo_0_rii a0 be (nI q) (nI z)), (xJ be cL 24 fb), (xo_3_iiiiiiiirrrrr h v0 v1 v2 v3 (nI hh) v5 (nI ww) (nI kk) b1 b2 b3 b4 b5), (xI b1 cI 6 g1), (xI b2 cI 6 g2), (xI b3 cI 6 g3), (xI b4 cI 6 g4), (xI b5 cI 6 g5)] : va_W) ++ lvs cI 24 ad bd V G) s.heap.size = A at hD ⊢
  have hA : ∀ q : Nat, s.heap.size ≤ q → A q := fun q h => by rw [← hAe]; exact Or.inr h
  have hS : va_S A s.heap s.heap [] := va_S.rf
  have hP : va_P (dC, dI) vwCl (([(xo_0_rii a0 be (nI q) (nI z)), (xJ be cL 24 fb), (xo_3_iiiiiiiirrrrr h v0 v1 v2 v3 (nI hh) v5 (nI ww) (nI kk) b1 b2 b3 b4 b5), (xI b1 cI 6 g1), (xI b2 cI 6 g2), (xI b3 cI 6 g3), (xI b4 cI 6 g4), (xI b5 cI 6 g5)] : va_W) ++ lvs cI 24 ad bd V G) s.heap := hP
  have hl := lv_entry ([.ref a0, .ref h]) (n := 2) (Nat.le_of_ble_eq_true rfl)
  rw [lg_entry_eq]
  generalize (lg_sl ([.ref a0, .ref h]) ++ List.replicate (2 - (lg_sl ([.ref a0, .ref h])).length) Slot.unset).toArray = ls at hl ⊢
  have hl : lv_has ls 2 [(0, .ref a0), (1, .ref h)] := hl
  refine lv_aload_n hx hb dX0_takeBack_0 rfl (lv_at hl 0 rfl) ?_
  refine va_get (D := (dC, dI)) (ci := 0) (v := .int (nI z)) (C := RX0) (T := TX0) (N := 3) hx hb hts i_X0_takeBack_X0 hown hK hP 0 rfl rfl 2 (by decide) (hts _ mx_X0_takeBack_1) (fun _ h9 => h9) rfl dX0_takeBack_1 ?_
  refine lv_if_le (tgt := 46) hx hb dX0_takeBack_4 (by decide) (fun c_1 => ?_) (fun c_1 => ?_)
  · have c_1 : z ≤ 0 := (nI_leI (a := z) (b := 0) (by omega) (by omega)).mp c_1
    have hX9 := cut2P (cx := [(xo_0_rii a0 be (nI q) (nI z)), (xJ be cL 24 fb), (xo_3_iiiiiiiirrrrr h v0 v1 v2 v3 (nI hh) v5 (nI ww) (nI kk) b1 b2 b3 b4 b5), (xI b1 cI 6 g1), (xI b2 cI 6 g2), (xI b3 cI 6 g3), (xI b4 cI 6 g4), (xI b5 cI 6 g5)]) hP hD [0, 1, 2, 3, 4, 5, 6, 7] (by decide +kernel) rfl
    exact W.vret hx hb hr (fun t ht hW => ⟨⟨(), rfl, trivial, ⟨V, G, q, z, hh, ww, kk, v0, v1, v2, v3, v5, g1, g2, g3, g4, g5, va_Ht ht hX9.1, hX9.2, hok, (by omega), (by omega), (by omega), (by omega), (by omega), (fun h_ => by omega), (fun _ => ⟨by omega, rfl, rfl⟩), (fun i _ => rfl)⟩⟩, hS.F ht⟩) hS.2.2 dX0_takeBack_46
  · have c_1 : ¬ (z ≤ 0) := fun q_ => c_1 ((nI_leI (a := z) (b := 0) (by omega) (by omega)).mpr q_)
    refine lv_aload_n hx hb dX0_takeBack_7 rfl (lv_at hl 0 rfl) ?_
    refine lv_aload_n hx hb dX0_takeBack_8 rfl (lv_at hl 0 rfl) ?_
    refine va_get (D := (dC, dI)) (ci := 0) (v := .int (nI q)) (C := RX0) (T := TX0) (N := 3) hx hb hts i_X0_takeBack_X0 hown hK hP 0 rfl rfl 1 (by decide) (hts _ mx_X0_takeBack_2) (fun _ h9 => h9) rfl dX0_takeBack_9 ?_
    refine lv_bipush (v := 24) hx hb dX0_takeBack_12 (by decide) ?_
    refine lv_iadd hx hb dX0_takeBack_14 ?_
    refine lv_topi (fun v_2 e_2 => ?_)
    obtain rfl : v_2 = (nI (q + 24)) := (e_2).trans (nI_add q 24)
    refine lv_iconst (v := 1) hx hb dX0_takeBack_15 (by decide) ?_
    refine lv_isub hx hb dX0_takeBack_16 ?_
    refine lv_topi (fun v_3 e_3 => ?_)
    obtain rfl : v_3 = (nI ((q + 24) - 1)) := (e_3).trans (pk_sub (a := (q + 24)) (b := 1) (by omega))
    refine lv_bipush (v := 24) hx hb dX0_takeBack_17 (by decide) ?_
    refine lv_irem hx hb dX0_takeBack_19 (by decide) ?_
    refine lv_topi (fun v_4 e_4 => ?_)
    obtain ⟨z_4, hz_4, hze_4, rfl⟩ : ∃ z : Nat, z < 24 ∧ z = ((q + 24) - 1) % 24 ∧ v_4 = nI z := ⟨((q + 24) - 1) % 24, Nat.mod_lt _ (by omega), rfl, e_4.trans (pk_rem (a := ((q + 24) - 1)) (d := 24) (by omega) (by omega) (by omega))⟩
    refine va_put (D := (dC, dI)) (ci := 0) (v := .int (nI z_4)) (ty := .int) (C := RX0) (T := TX0) (N := 3) hx hb hts i_X0_takeBack_X0 tyX0 tyX0_ok nmX0 hown hK hP hD hS 0 rfl rfl 1 (by decide) (hts _ mx_X0_takeBack_2) (fun _ h9 => h9) rfl (by decide +kernel) rfl rfl (Nat.le_of_ble_eq_true rfl) dX0_takeBack_20 (fun H locs hP hD hS => ?_)
    have hP : va_P (dC, dI) vwCl (([(xo_0_rii a0 be (nI z_4) (nI z)), (xJ be cL 24 fb), (xo_3_iiiiiiiirrrrr h v0 v1 v2 v3 (nI hh) v5 (nI ww) (nI kk) b1 b2 b3 b4 b5), (xI b1 cI 6 g1), (xI b2 cI 6 g2), (xI b3 cI 6 g3), (xI b4 cI 6 g4), (xI b5 cI 6 g5)] : va_W) ++ lvs cI 24 ad bd V G) H := hP
    have hD := dto hP hD
    refine lv_aload_n hx hb dX0_takeBack_23 rfl (lv_at hl 1 rfl) ?_
    refine lv_aload_n hx hb dX0_takeBack_24 rfl (lv_at hl 0 rfl) ?_
    refine va_get (D := (dC, dI)) (ci := 0) (v := .ref be) (C := RX0) (T := TX0) (N := 3) hx hb hts i_X0_takeBack_X0 hown hK hP 0 rfl rfl 0 (by decide) (hts _ mx_X0_takeBack_3) (fun _ h9 => h9) rfl dX0_takeBack_25 ?_
    refine lv_aload_n hx hb dX0_takeBack_28 rfl (lv_at hl 0 rfl) ?_
    refine va_get (D := (dC, dI)) (ci := 0) (v := .int (nI z_4)) (C := RX0) (T := TX0) (N := 3) hx hb hts i_X0_takeBack_X0 hown hK hP 0 rfl rfl 1 (by decide) (hts _ mx_X0_takeBack_2) (fun _ h9 => h9) rfl dX0_takeBack_29 ?_
    refine va_aldq hx hb hK hP 1 2 rfl rfl (vp_in_nI (by omega) (by omega)) dX0_takeBack_32 ?_
    refine W.eq (g2 := F0 m 33 ls (.ref (ad z_4) :: [.ref h])) (by show F0 m 33 ls (va_rf (fb (nI z_4).toNatClampNeg) :: _) = _; rw [nI_clamp (by omega), hfb _ (by omega)]; rfl) ?_
    obtain ⟨pl_5, hP, hD, hbP_5, hbD_5⟩ := blk_opn hP hD (i := z_4) (by omega)
    have hP : va_P (dC, dI) vwCl (([(xo_0_rii a0 be (nI z_4) (nI z)), (xJ be cL 24 fb), (xo_3_iiiiiiiirrrrr h v0 v1 v2 v3 (nI hh) v5 (nI ww) (nI kk) b1 b2 b3 b4 b5), (xI b1 cI 6 g1), (xI b2 cI 6 g2), (xI b3 cI 6 g3), (xI b4 cI 6 g4), (xI b5 cI 6 g5), (xo_3_iiiiiiiirrrrr (ad z_4) (V z_4 0) (V z_4 1) (V z_4 2) (V z_4 3) (V z_4 4) (V z_4 5) (V z_4 6) (V z_4 7) (bd z_4 0) (bd z_4 1) (bd z_4 2) (bd z_4 3) (bd z_4 4)), (xI (bd z_4 0) cI 6 (G z_4 0)), (xI (bd z_4 1) cI 6 (G z_4 1)), (xI (bd z_4 2) cI 6 (G z_4 2)), (xI (bd z_4 3) cI 6 (G z_4 3)), (xI (bd z_4 4) cI 6 (G z_4 4))] : va_W) ++ pl_5) H := hP
    have hD := dto hP hD
    obtain ⟨h9, w9, k9, e4, hb4, e6, hb6, e7, hb7⟩ := hok z_4 (by omega)
    have en_ := nrV_out (v := V z_4) (g := G z_4) e4 (by omega) e6 (by omega) e7 (by omega)
    rw [e4, e6, e7] at hP hD
    have hc_7 := cutX (wc := [(xo_3_iiiiiiiirrrrr h v0 v1 v2 v3 (nI hh) v5 (nI ww) (nI kk) b1 b2 b3 b4 b5), (xI b1 cI 6 g1), (xI b2 cI 6 g2), (xI b3 cI 6 g3), (xI b4 cI 6 g4), (xI b5 cI 6 g5), (xo_3_iiiiiiiirrrrr (ad z_4) (V z_4 0) (V z_4 1) (V z_4 2) (V z_4 3) (nI h9) (V z_4 5) (nI w9) (nI k9) (bd z_4 0) (bd z_4 1) (bd z_4 2) (bd z_4 3) (bd z_4 4)), (xI (bd z_4 0) cI 6 (G z_4 0)), (xI (bd z_4 1) cI 6 (G z_4 1)), (xI (bd z_4 2) cI 6 (G z_4 2)), (xI (bd z_4 3) cI 6 (G z_4 3)), (xI (bd z_4 4) cI 6 (G z_4 4))]) hP hD hS hA [2, 3, 4, 5, 6, 7, 8, 9, 10, 11, 12, 13] (by decide +kernel) rfl
    refine va_callv (va_runV (As := [.ref (ad z_4)]) (rest := []) ⟨hx, hb, hml, hown, hts⟩ (r_X3_becomeLike l dC dI cI cZ cL cJ H.size h v0 v1 v2 v3 (nI hh) v5 (nI ww) (nI kk) b1 b2 b3 b4 b5 g1 g2 g3 g4 g5 (ad z_4) (V z_4 0) (V z_4 1) (V z_4 2) (V z_4 3) (nI h9) (V z_4 5) (nI w9) (nI k9) (bd z_4 0) (bd z_4 1) (bd z_4 2) (bd z_4 3) (bd z_4 4) (G z_4 0) (G z_4 1) (G z_4 2) (G z_4 3) (G z_4 4) ) (cwV 1 hts gX0_takeBack_X3_becomeLike rfl rfl rfl (by decide +kernel) ⟨Nat.le_of_ble_eq_true rfl, Nat.le_of_ble_eq_true rfl⟩) (pvW 3 2 hK hP rfl rfl hc_7) rfl rfl hl.1 rfl (lv_room (Nat.le_of_ble_eq_true rfl)) dX0_takeBack_33 ⟨Nat.le_of_ble_eq_true rfl, Nat.le_of_ble_eq_true rfl⟩) hS (fun q _ h => hc_7.2.2 q h) hc_7.2.2 (fun u_7 t_7 H1 locs ht hvm h_7 hB hz1 hk1 hS => ?_)
    refine xl_5_7 hB (fun f1n_7 f2n_7 f3n_7 f4n_7 f5n_7 hP1 hD1 hF_7_0 hF_7_1 hF_7_2 hF_7_3 hF_7_4 => ?_)
    clear hB
    rw [ht] at hP1
    obtain ⟨hP, hD⟩ := va_joinQ (wr := [(xo_0_rii a0 be (nI z_4) (nI z)), (xJ be cL 24 fb)]) (w1 := [(xo_3_iiiiiiiirrrrr h (V z_4 0) (V z_4 1) (V z_4 2) (V z_4 3) (nI h9) (V z_4 5) (nI w9) (nI k9) b1 b2 b3 b4 b5), (xI b1 cI 6 f1n_7), (xI b2 cI 6 f2n_7), (xI b3 cI 6 f3n_7), (xI b4 cI 6 f4n_7), (xI b5 cI 6 f5n_7), (xo_3_iiiiiiiirrrrr (ad z_4) (V z_4 0) (V z_4 1) (V z_4 2) (V z_4 3) (nI h9) (V z_4 5) (nI w9) (nI k9) (bd z_4 0) (bd z_4 1) (bd z_4 2) (bd z_4 3) (bd z_4 4)), (xI (bd z_4 0) cI 6 (G z_4 0)), (xI (bd z_4 1) cI 6 (G z_4 1)), (xI (bd z_4 2) cI 6 (G z_4 2)), (xI (bd z_4 3) cI 6 (G z_4 3)), (xI (bd z_4 4) cI 6 (G z_4 4))]) hP hD [2, 3, 4, 5, 6, 7, 8, 9, 10, 11, 12, 13] [0, 1] rfl rfl (by decide +kernel) (by decide +kernel) hk1 hc_7.2.2 hP1 hD1
    generalize H1 = H at hP hS ⊢
    have hP : va_P (dC, dI) vwCl (([(xo_0_rii a0 be (nI z_4) (nI z)), (xJ be cL 24 fb), (xo_3_iiiiiiiirrrrr h (V z_4 0) (V z_4 1) (V z_4 2) (V z_4 3) (nI h9) (V z_4 5) (nI w9) (nI k9) b1 b2 b3 b4 b5), (xI b1 cI 6 f1n_7), (xI b2 cI 6 f2n_7), (xI b3 cI 6 f3n_7), (xI b4 cI 6 f4n_7), (xI b5 cI 6 f5n_7), (xo_3_iiiiiiiirrrrr (ad z_4) (V z_4 0) (V z_4 1) (V z_4 2) (V z_4 3) (nI h9) (V z_4 5) (nI w9) (nI k9) (bd z_4 0) (bd z_4 1) (bd z_4 2) (bd z_4 3) (bd z_4 4)), (xI (bd z_4 0) cI 6 (G z_4 0)), (xI (bd z_4 1) cI 6 (G z_4 1)), (xI (bd z_4 2) cI 6 (G z_4 2)), (xI (bd z_4 3) cI 6 (G z_4 3)), (xI (bd z_4 4) cI 6 (G z_4 4))] : va_W) ++ pl_5) H := hP
    have hD := dto hP hD
    have hP := hbP_5 [(xo_0_rii a0 be (nI z_4) (nI z)), (xJ be cL 24 fb), (xo_3_iiiiiiiirrrrr h (V z_4 0) (V z_4 1) (V z_4 2) (V z_4 3) (nI h9) (V z_4 5) (nI w9) (nI k9) b1 b2 b3 b4 b5), (xI b1 cI 6 f1n_7), (xI b2 cI 6 f2n_7), (xI b3 cI 6 f3n_7), (xI b4 cI 6 f4n_7), (xI b5 cI 6 f5n_7)] ((V z_4 0)) ((V z_4 1)) ((V z_4 2)) ((V z_4 3)) ((nI h9)) ((V z_4 5)) ((nI w9)) ((nI k9)) ((G z_4 0)) ((G z_4 1)) ((G z_4 2)) ((G z_4 3)) ((G z_4 4)) _ (hP.part (cx := (([(xo_0_rii a0 be (nI z_4) (nI z)), (xJ be cL 24 fb), (xo_3_iiiiiiiirrrrr h (V z_4 0) (V z_4 1) (V z_4 2) (V z_4 3) (nI h9) (V z_4 5) (nI w9) (nI k9) b1 b2 b3 b4 b5), (xI b1 cI 6 f1n_7), (xI b2 cI 6 f2n_7), (xI b3 cI 6 f3n_7), (xI b4 cI 6 f4n_7), (xI b5 cI 6 f5n_7)] : va_W) ++ ([(xo_3_iiiiiiiirrrrr (ad z_4) (V z_4 0) (V z_4 1) (V z_4 2) (V z_4 3) (nI h9) (V z_4 5) (nI w9) (nI k9) (bd z_4 0) (bd z_4 1) (bd z_4 2) (bd z_4 3) (bd z_4 4)), (xI (bd z_4 0) cI 6 (G z_4 0)), (xI (bd z_4 1) cI 6 (G z_4 1)), (xI (bd z_4 2) cI 6 (G z_4 2)), (xI (bd z_4 3) cI 6 (G z_4 3)), (xI (bd z_4 4) cI 6 (G z_4 4))] : va_W))) [0, 1, 2, 3, 4, 5, 6, 7, 8, 9, 10, 11, 12, 13] rfl)
    have hD := hbD_5 [(xo_0_rii a0 be (nI z_4) (nI z)), (xJ be cL 24 fb), (xo_3_iiiiiiiirrrrr h (V z_4 0) (V z_4 1) (V z_4 2) (V z_4 3) (nI h9) (V z_4 5) (nI w9) (nI k9) b1 b2 b3 b4 b5), (xI b1 cI 6 f1n_7), (xI b2 cI 6 f2n_7), (xI b3 cI 6 f3n_7), (xI b4 cI 6 f4n_7), (xI b5 cI 6 f5n_7)] ((V z_4 0)) ((V z_4 1)) ((V z_4 2)) ((V z_4 3)) ((nI h9)) ((V z_4 5)) ((nI w9)) ((nI k9)) ((G z_4 0)) ((G z_4 1)) ((G z_4 2)) ((G z_4 3)) ((G z_4 4)) _ (hD.part (cx := (([(xo_0_rii a0 be (nI z_4) (nI z)), (xJ be cL 24 fb), (xo_3_iiiiiiiirrrrr h (V z_4 0) (V z_4 1) (V z_4 2) (V z_4 3) (nI h9) (V z_4 5) (nI w9) (nI k9) b1 b2 b3 b4 b5), (xI b1 cI 6 f1n_7), (xI b2 cI 6 f2n_7), (xI b3 cI 6 f3n_7), (xI b4 cI 6 f4n_7), (xI b5 cI 6 f5n_7)] : va_W) ++ ([(xo_3_iiiiiiiirrrrr (ad z_4) (V z_4 0) (V z_4 1) (V z_4 2) (V z_4 3) (nI h9) (V z_4 5) (nI w9) (nI k9) (bd z_4 0) (bd z_4 1) (bd z_4 2) (bd z_4 3) (bd z_4 4)), (xI (bd z_4 0) cI 6 (G z_4 0)), (xI (bd z_4 1) cI 6 (G z_4 1)), (xI (bd z_4 2) cI 6 (G z_4 2)), (xI (bd z_4 3) cI 6 (G z_4 3)), (xI (bd z_4 4) cI 6 (G z_4 4))] : va_W))) [0, 1, 2, 3, 4, 5, 6, 7, 8, 9, 10, 11, 12, 13] (by decide +kernel) rfl)
    generalize hV_8 : va_up V z_4 (fun k => [(V z_4 0), (V z_4 1), (V z_4 2), (V z_4 3), (nI h9), (V z_4 5), (nI w9), (nI k9)].getD k 0) = V_8 at hP hD
    generalize hG_8 : va_up G z_4 (fun k => [(G z_4 0), (G z_4 1), (G z_4 2), (G z_4 3), (G z_4 4)].getD k (fun _ => 0)) = G_8 at hP hD
    have hP : va_P (dC, dI) vwCl (([(xo_0_rii a0 be (nI z_4) (nI z)), (xJ be cL 24 fb), (xo_3_iiiiiiiirrrrr h (V z_4 0) (V z_4 1) (V z_4 2) (V z_4 3) (nI h9) (V z_4 5) (nI w9) (nI k9) b1 b2 b3 b4 b5), (xI b1 cI 6 f1n_7), (xI b2 cI 6 f2n_7), (xI b3 cI 6 f3n_7), (xI b4 cI 6 f4n_7), (xI b5 cI 6 f5n_7)] : va_W) ++ lvs cI 24 ad bd V_8 G_8) H := hP
    have hD := dto hP hD
    refine lv_aload_n hx hb dX0_takeBack_36 rfl (lv_at hl 0 rfl) ?_
    refine lv_dup hx hb dX0_takeBack_37 rfl ?_
    refine va_get (D := (dC, dI)) (ci := 0) (v := .int (nI z)) (C := RX0) (T := TX0) (N := 3) hx hb hts i_X0_takeBack_X0 hown hK hP 0 rfl rfl 2 (by decide) (hts _ mx_X0_takeBack_1) (fun _ h9 => h9) rfl dX0_takeBack_38 ?_
    refine lv_iconst (v := 1) hx hb dX0_takeBack_41 (by decide) ?_
    refine lv_isub hx hb dX0_takeBack_42 ?_
    refine lv_topi (fun v_9 e_9 => ?_)
    obtain rfl : v_9 = (nI (z - 1)) := (e_9).trans (pk_sub (a := z) (b := 1) (by omega))
    refine va_put (D := (dC, dI)) (ci := 0) (v := .int (nI (z - 1))) (ty := .int) (C := RX0) (T := TX0) (N := 3) hx hb hts i_X0_takeBack_X0 tyX0 tyX0_ok nmX0 hown hK hP hD hS 0 rfl rfl 2 (by decide) (hts _ mx_X0_takeBack_1) (fun _ h9 => h9) rfl (by decide +kernel) rfl rfl (Nat.le_of_ble_eq_true rfl) dX0_takeBack_43 (fun H locs hP hD hS => ?_)
    have hP : va_P (dC, dI) vwCl (([(xo_0_rii a0 be (nI z_4) (nI (z - 1))), (xJ be cL 24 fb), (xo_3_iiiiiiiirrrrr h (V z_4 0) (V z_4 1) (V z_4 2) (V z_4 3) (nI h9) (V z_4 5) (nI w9) (nI k9) b1 b2 b3 b4 b5), (xI b1 cI 6 f1n_7), (xI b2 cI 6 f2n_7), (xI b3 cI 6 f3n_7), (xI b4 cI 6 f4n_7), (xI b5 cI 6 f5n_7)] : va_W) ++ lvs cI 24 ad bd V_8 G_8) H := hP
    have hD := dto hP hD
    have hX9 := cut2P (cx := [(xo_0_rii a0 be (nI z_4) (nI (z - 1))), (xJ be cL 24 fb), (xo_3_iiiiiiiirrrrr h (V z_4 0) (V z_4 1) (V z_4 2) (V z_4 3) (nI h9) (V z_4 5) (nI w9) (nI k9) b1 b2 b3 b4 b5), (xI b1 cI 6 f1n_7), (xI b2 cI 6 f2n_7), (xI b3 cI 6 f3n_7), (xI b4 cI 6 f4n_7), (xI b5 cI 6 f5n_7)]) hP hD [0, 1, 2, 3, 4, 5, 6, 7] (by decide +kernel) rfl
    exact W.vret hx hb hr (fun t ht hW => ⟨⟨(), rfl, trivial, ⟨V_8, G_8, z_4, (z - 1), h9, w9, k9, (V z_4 0), (V z_4 1), (V z_4 2), (V z_4 3), (V z_4 5), f1n_7, f2n_7, f3n_7, f4n_7, f5n_7, va_Ht ht hX9.1, hX9.2, (by rw [← hV_8]; exact okL_up hok ⟨h9, w9, k9, rfl, hb4, rfl, hb6, rfl, hb7⟩), (by omega), (by omega), (by omega), (by omega), (by omega), (fun _ => ⟨by omega, by omega, by rw [en_]; exact nr_eq hb6 hb7 hF_7_0 hF_7_1 hF_7_2 hF_7_3 hF_7_4⟩), (fun h_ => by omega), (fun i hi => by rw [← hV_8, ← hG_8]; exact nrV_same (i := i) e4 e6 e7)⟩⟩, hS.F ht⟩) hS.2.2 dX0_takeBack_46
set_option maxHeartbeats 4000000 in
set_option maxRecDepth 100000 in
theorem r_X0_forget (l : Launch) (dC : Nat → ClassId) (dI : Nat → Nat → Nat) (cI cZ cL cJ : ClassId) (sz : Nat) (a0 : Nat) (be : Nat) (q : Nat) (z : Nat)  : Met l yX0_forget wsX0_forget ({ frames := 0, cells := 0, slots := 0, locals := 0 }) (va_Pc [.ref a0] (fun U => U.heap.size = sz ∧ va_P (dC, dI) vwCl [(xo_0_rii a0 be (nI q) (nI z))] U.heap ∧ va_K (dC, dI) vwCl [(cI, .int), (cZ, .boolean), (cL, .object RX3), (cJ, .array .int)] U ∧ va_D (fun _ => True) [(xo_0_rii a0 be (nI q) (nI z))])) (va_Qv (fun (_ : Unit) => True) (fun (_ : Unit) t => va_P (dC, dI) vwCl [(xo_0_rii a0 be (nI q) (nI 0))] t.heap ∧ va_D (va_A [(xo_0_rii a0 be (nI q) (nI z))] sz) [(xo_0_rii a0 be (nI q) (nI 0))]) (va_A [(xo_0_rii a0 be (nI q) (nI z))] sz)) 0 0 (va_A [(xo_0_rii a0 be (nI q) (nI z))] sz) := by
  refine Met.ofW (cc := cX0_forget) (maxL := 1) (ret := none) (by decide) rfl ?_
  intro p e s m args below meth c s₁ B hml hv
  obtain ⟨rfl, hsz, hP, hK, hD0⟩ := hv
  have hx := B.exec
  have hb := B.bytes
  have hr := B.returns
  have hts := atoms_spec (ws := wsX0_forget) B.pre
  have hown : s.vm.findClass RX0 = some m.cls := findClass_of_methodNamed B.named
  have hlocks := B.notSynchronized
  subst hsz
  have hD := hD0.self (sz := s.heap.size)
  generalize hAe : va_A [(xo_0_rii a0 be (nI q) (nI z))] s.heap.size = A at hD ⊢
  have hA : ∀ q : Nat, s.heap.size ≤ q → A q := fun q h => by rw [← hAe]; exact Or.inr h
  have hS : va_S A s.heap s.heap [] := va_S.rf
  have hP : va_P (dC, dI) vwCl [(xo_0_rii a0 be (nI q) (nI z))] s.heap := hP
  have hl := lv_entry ([.ref a0]) (n := 1) (Nat.le_of_ble_eq_true rfl)
  rw [lg_entry_eq]
  generalize (lg_sl ([.ref a0]) ++ List.replicate (1 - (lg_sl ([.ref a0])).length) Slot.unset).toArray = ls at hl ⊢
  have hl : lv_has ls 1 [(0, .ref a0)] := hl
  refine lv_aload_n hx hb dX0_forget_0 rfl (lv_at hl 0 rfl) ?_
  refine lv_iconst (v := 0) hx hb dX0_forget_1 (by decide) ?_
  refine va_put (D := (dC, dI)) (ci := 0) (v := .int 0) (ty := .int) (C := RX0) (T := TX0) (N := 3) hx hb hts i_X0_forget_X0 tyX0 tyX0_ok nmX0 hown hK hP hD hS 0 rfl rfl 2 (by decide) (hts _ mx_X0_forget_1) (fun _ h9 => h9) rfl (by decide +kernel) rfl rfl (Nat.le_of_ble_eq_true rfl) dX0_forget_2 (fun H locs hP hD hS => ?_)
  have hP : va_P (dC, dI) vwCl [(xo_0_rii a0 be (nI q) 0)] H := hP
  have hD := dto hP hD
  have hX9 := cut2 (wc := [(xo_0_rii a0 be (nI q) 0)]) hP hD [0] (by decide +kernel) rfl
  exact W.vret hx hb hr (fun t ht hW => ⟨⟨(), rfl, trivial, ⟨va_Ht ht hX9.1, hX9.2⟩⟩, hS.F ht⟩) hS.2.2 dX0_forget_5
