set_option maxHeartbeats 8000000 in
set_option maxRecDepth 100000 in
theorem whole_start {p : Program} {e : Env} {s : State} {m : MethodId} {below : List Frame} {meth : Method} {c : Code} (l : Launch) {b L : Nat} {xs : Nat → Int32} (hL : L ≤ 6) (C0 : lw_At p s m meth c b L xs) : W p l e room_1 s m #[Value.ref b] below meth c s.heap [] 0 0 (lw_Z below #[Value.ref b] s) (entryFrame m ([Value.ref b] : List Value).toArray 4) := by
  obtain ⟨hx, hb, hr, hml, hown, hts0, hX, hbl, hlocks, hgv⟩ := id C0
  have hown : s.vm.findClass RL = some m.cls := hown
  have hts : ∀ w ∈ wsL_law, w.before #[Value.ref b] s = true := fun w h => hts0 w (wsL_law_in w h)
  obtain ⟨A, hAd⟩ : ∃ A : Nat → Prop, A = fun q => s.heap.size ≤ q := ⟨_, rfl⟩
  have hA : ∀ q : Nat, s.heap.size ≤ q → A q := fun q h => by rw [hAd]; exact h
  have hbA : ¬ A b := by rw [hAd]; exact Nat.not_le.mpr hbl
  obtain ⟨c0, iS0, hKn0⟩ := u_known (C := RX0) (T := TX0) (N := 3) (n := 3) hts0 jnX0 (hts0 (.instantiable RX0 3) (by decide +kernel))
  obtain ⟨c1, iS1, hKn1⟩ := u_known (C := RX1) (T := TX1) (N := 6) (n := 6) hts0 jnX1 (hts0 (.instantiable RX1 6) (by decide +kernel))
  obtain ⟨c2, iS2, hKn2⟩ := u_known (C := RX2) (T := TX2) (N := 6) (n := 6) hts0 jnX2 (hts0 (.instantiable RX2 6) (by decide +kernel))
  obtain ⟨c3, iS3, hKn3⟩ := u_known (C := RX3) (T := TX3) (N := 13) (n := 13) hts0 jnX3 (hts0 (.instantiable RX3 13) (by decide +kernel))
  obtain ⟨c4, iS4, hKn4⟩ := u_known (C := RX4) (T := TX4) (N := 3) (n := 3) hts0 jnX4 (hts0 (.instantiable RX4 3) (by decide +kernel))
  obtain ⟨c5, iS5, hKn5⟩ := u_known (C := RX5) (T := TX5) (N := 3) (n := 3) hts0 jnX5 (hts0 (.instantiable RX5 3) (by decide +kernel))
  obtain ⟨c6, iS6, hKn6⟩ := u_known (C := RX6) (T := TX6) (N := 6) (n := 6) hts0 jnX6 (hts0 (.instantiable RX6 6) (by decide +kernel))
  obtain ⟨c7, iS7, hKn7⟩ := u_known (C := RX7) (T := TX7) (N := 11) (n := 11) hts0 jnX7 (hts0 (.instantiable RX7 11) (by decide +kernel))
  obtain ⟨c8, iS8, hKn8⟩ := u_known (C := RX8) (T := TX8) (N := 24) (n := 24) hts0 jnX8 (hts0 (.instantiable RX8 24) (by decide +kernel))
  obtain ⟨dC, dI, hKc⟩ : ∃ (dC : Nat → ClassId) (dI : Nat → Nat → Nat), ∀ (k : Nat) (q : vw_C), vwCl[k]? = some q → u_Kn s q.1 q.2.1 q.2.2 (dC k) (dI k) := by
    refine ⟨fun k => match k with | 0 => c0 | 1 => c1 | 2 => c2 | 3 => c3 | 4 => c4 | 5 => c5 | 6 => c6 | 7 => c7 | _ => c8, fun k => match k with | 0 => iS0 | 1 => iS1 | 2 => iS2 | 3 => iS3 | 4 => iS4 | 5 => iS5 | 6 => iS6 | 7 => iS7 | _ => iS8, ?_⟩
    intro k q hq
    match k, hq with
    | 0, hq => cases hq; exact hKn0
    | 1, hq => cases hq; exact hKn1
    | 2, hq => cases hq; exact hKn2
    | 3, hq => cases hq; exact hKn3
    | 4, hq => cases hq; exact hKn4
    | 5, hq => cases hq; exact hKn5
    | 6, hq => cases hq; exact hKn6
    | 7, hq => cases hq; exact hKn7
    | 8, hq => cases hq; exact hKn8
    | k + 9, hq => simp [vwCl] at hq
  obtain ⟨cI, kI, coI, fI, gI, tI⟩ := Cond.arrayClass_spec (hts0 (.arrayClass .int) (by decide +kernel))
  obtain ⟨cZ, kZ, coZ, fZ, gZ, tZ⟩ := Cond.arrayClass_spec (hts0 (.arrayClass .boolean) (by decide +kernel))
  have hO := hts0 (.arrayOver (.object RX3)) (by decide +kernel)
  obtain ⟨coL, cL, kL, fL1, fL2, gL, tL, fL⟩ := Cond.arrayOver_spec hO
  obtain ⟨coJ, cJ, kJ, fJ1, gJ, tJ, fJ⟩ := nw_over (hts0 (.arrayOver (.array .int)) (by decide +kernel))
  have eJ : coJ = cI := Option.some.inj (fJ1.symm.trans fI)
  subst eJ
  have hK : va_K (dC, dI) vwCl [(coJ, .int), (cZ, .boolean), (cL, .object RX3), (cJ, .array .int)] s := by
    refine ⟨hKc, fun k q h => ?_⟩
    match k, h with
    | 0, h => cases h; exact ⟨fun n z => ⟨fun k h => (by cases h), kI, gI, coI, tI⟩, fI⟩
    | 1, h => cases h; exact ⟨fun n z => ⟨fun k h => (by cases h), kZ, gZ, coZ, tZ⟩, fZ⟩
    | 2, h => cases h; exact ⟨fun n z => ⟨fun k h => (by cases h), kL, gL, coL, tL⟩, ⟨kL, coL, gL, tL, fL1, fL⟩⟩
    | 3, h => cases h; exact ⟨fun n z => ⟨fun k h => (by cases h), kJ, gJ, coJ, tJ⟩, fJ⟩
    | k + 4, h => simp at h
  generalize coJ = cI at *
  have hN : nw_ok cI cJ s := ⟨va_AO.of hO, ⟨kJ, gJ, tJ⟩, va_Nw.of rfl (hts0 (.methodLinkNest RX7 18 yX6_init "MillTalk") (by decide +kernel)), va_Nw.of rfl (hts0 (.methodLinkNest RX6 17 yX3_init "MillTalk") (by decide +kernel)), va_Nw.of rfl (hts0 (.methodLinkNest RX7 25 yX3_init "MillTalk") (by decide +kernel)), va_Nw.of rfl (hts0 (.methodLinkNest RX0 15 yX3_init "MillTalk") (by decide +kernel)), va_Nw.of rfl (hts0 (.methodLinkNest RX7 46 yX4_init "MillTalk") (by decide +kernel)), va_Nw.of rfl (hts0 (.methodLinkNest RX4 9 yX3_init "MillTalk") (by decide +kernel)), va_Nw.of rfl (hts0 (.methodLinkNest RX2 17 yX3_init "MillTalk") (by decide +kernel)), va_Nw.of rfl (hts0 (.methodLinkNest RX7 60 yX1_init "MillTalk") (by decide +kernel))⟩
  have hS : va_S A s.heap s.heap [] := va_S.rf
  have hP : va_P (dC, dI) vwCl [] s.heap := fun k q h => by simp at h
  have hD : va_D A [] := ⟨fun i j p q h => by simp at h, fun k q h => by simp at h⟩
  have hl := lv_entry ([.ref b]) (n := 4) (Nat.le_of_ble_eq_true rfl)
  rw [lg_entry_eq]
  generalize (lg_sl ([.ref b]) ++ List.replicate (4 - (lg_sl ([.ref b])).length) Slot.unset).toArray = ls at hl ⊢
  have hl : lv_has ls 4 [(0, .ref b)] := hl
  refine va_new (ci := 7) (fs := [.null, .null, .null, .null, .null, .null, .null, .null, .null, .int 0, .int 0]) (C := RX7) (T := TX7) (N := 11) hx hb hts inlX7 tyX7 tyX7_ok hown (hts (.classLink RL 7 RX7) (by decide +kernel)) (hts (.instantiable RX7 11) (by decide +kernel)) (hts (.initialized RX7) (by decide +kernel)) hK hP hD hS hA rfl (fun j hj => by rcases (show j = 0 ∨ j = 1 ∨ j = 2 ∨ j = 3 ∨ j = 4 ∨ j = 5 ∨ j = 6 ∨ j = 7 ∨ j = 8 ∨ j = 9 ∨ j = 10 by omega) with rfl | rfl | rfl | rfl | rfl | rfl | rfl | rfl | rfl | rfl | rfl <;> rfl) (Nat.le_of_ble_eq_true rfl) (Nat.le_of_ble_eq_true rfl) dL_law_0 (fun q_1 H hP hD hS => ?_)
  have hP : va_P (dC, dI) vwCl [(q_1, .inr (7, [.null, .null, .null, .null, .null, .null, .null, .null, .null, .int 0, .int 0]))] H := hP
  have hD : va_D A [(q_1, .inr (7, [.null, .null, .null, .null, .null, .null, .null, .null, .null, .int 0, .int 0]))] := hD
  refine W.widen (k := 1) (n := 11) (Nat.le_of_ble_eq_true rfl) (Nat.le_of_ble_eq_true rfl) ?_
  refine lv_dup hx hb dL_law_3 rfl ?_
  have hPc_2 := hP.sub (ws' := [(q_1, .inr (7, [.null, .null, .null, .null, .null, .null, .null, .null, .null, .int 0, .int 0]))]) [0] rfl
  have hDc_2 := hD.sub (ws' := [(q_1, .inr (7, [.null, .null, .null, .null, .null, .null, .null, .null, .null, .int 0, .int 0]))]) [0] (by decide) rfl
  have hFc_2 := va_free (wc := [(q_1, .inr (7, [.null, .null, .null, .null, .null, .null, .null, .null, .null, .int 0, .int 0]))]) hD hS hA [0] rfl
  refine va_callv (va_runI (As := []) (rest := [.ref q_1]) ⟨hx, hb, hml, hown, hts⟩ (c_X7_init l dC dI cI cZ cL cJ H.size q_1 ) (cwI 0 hts gL_law_X7_init rfl rfl rfl (hts (.initialized RX7) (by decide +kernel)) (hts (.methodLink RL 9 yX7_init) (by decide +kernel)) (hts (.instanceMethod yX7_init) (by decide +kernel)) rfl (by decide +kernel) ⟨Nat.le_of_ble_eq_true rfl, Nat.le_of_ble_eq_true rfl⟩) ⟨fun a U g mk q => by obtain ⟨q0, q1, qP, qK, qD, qN⟩ := q; exact ⟨q0, q1, qP, va_K.moved (u := U) (U := U.calling g mk a) (Vm.Alike.refl U.vm) qK, qD, nw_same rfl qN⟩, fun U hU hW => ⟨rfl, by rw [hU], by rw [hU]; exact hPc_2, va_K.moved hW.alike hK, hDc_2.weaken (fun _ _ _ _ => trivial), nw_warm hW hN⟩⟩ rfl rfl hl.1 rfl (lv_room (Nat.le_of_ble_eq_true rfl)) dL_law_4 ⟨Nat.le_of_ble_eq_true rfl, Nat.le_of_ble_eq_true rfl⟩) hS (fun q _ h => hFc_2 q h) hFc_2 (fun u_2 t_2 H1 locs ht hvm h_2 hB hz1 hk1 hS => ?_)
  obtain ⟨ro_2, it_2, la_2, le_2, fl_2, ta_2, bs_2, td_2, t1_2, t2_2, t3_2, t4_2, t5_2, no_2, n1_2, n2_2, n3_2, n4_2, n5_2, ac_2, be_2, im_2, fi_2, i0_2, x1_2, x2_2, x3_2, x4_2, x5_2, i1_2, y1_2, y2_2, y3_2, y4_2, y5_2, tr_2, pl_2, cs_2, ak_2, tc_2, hP1, hD1, hF_2_0, hF_2_1, hF_2_2⟩ := hB
  rw [ht] at hP1
  obtain ⟨hP, hD⟩ := va_join (wr := []) (w1 := [(q_1, .inr (7, [.ref ro_2, .ref ta_2, .ref no_2, .ref ac_2, .ref im_2, .ref tr_2, .ref pl_2, .ref cs_2, .ref ak_2, .int 0, .int 0])), (ro_2, .inr (5, [.ref it_2, .ref la_2, .ref le_2])), (la_2, .inl (cI, 8, .inl fl_2)), (le_2, .inl (cI, 8, .inl (fun _ => 0))), (it_2, .inl (cJ, 8, .inr (.inr (.inr (.inr (fun i => if i < 8 then some (it_2 + 1 + i) else none)))))), ((it_2 + 1 + 0), .inl (cI, 40, .inl (fun _ => 0))), ((it_2 + 1 + 1), .inl (cI, 40, .inl (fun _ => 0))), ((it_2 + 1 + 2), .inl (cI, 40, .inl (fun _ => 0))), ((it_2 + 1 + 3), .inl (cI, 40, .inl (fun _ => 0))), ((it_2 + 1 + 4), .inl (cI, 40, .inl (fun _ => 0))), ((it_2 + 1 + 5), .inl (cI, 40, .inl (fun _ => 0))), ((it_2 + 1 + 6), .inl (cI, 40, .inl (fun _ => 0))), ((it_2 + 1 + 7), .inl (cI, 40, .inl (fun _ => 0))), (ta_2, .inr (6, [.ref bs_2, .int 0, .ref td_2, .int 0, .int 0, .int 0])), (bs_2, .inl (cI, 120, .inl (fun _ => 0))), (td_2, .inr (3, [.int 0, .int 0, .int 0, .int 0, .int 0, .int 0, .int 0, .int 0, .ref t1_2, .ref t2_2, .ref t3_2, .ref t4_2, .ref t5_2])), (no_2, .inr (3, [.int 0, .int 0, .int 0, .int 0, .int 0, .int 0, .int 0, .int 0, .ref n1_2, .ref n2_2, .ref n3_2, .ref n4_2, .ref n5_2])), (ac_2, .inr (0, [.ref be_2, .int 0, .int 0])), (im_2, .inl (cL, 2, .inr (.inr (.inr (.inr fi_2))))), (i0_2, .inr (3, [.int 0, .int 0, .int 0, .int 0, .int 0, .int 0, .int 0, .int 0, .ref x1_2, .ref x2_2, .ref x3_2, .ref x4_2, .ref x5_2])), (i1_2, .inr (3, [.int 0, .int 0, .int 0, .int 0, .int 0, .int 0, .int 0, .int 0, .ref y1_2, .ref y2_2, .ref y3_2, .ref y4_2, .ref y5_2])), (ak_2, .inr (1, [.ref tc_2, .int 0, .int 0, .int 0, .int 0, .int 0]))]) hP hD [0] [] rfl rfl (by decide) (by decide) hk1 hFc_2 hP1 hD1
  generalize H1 = H at hP hS ⊢
  have hP : va_P (dC, dI) vwCl [(q_1, .inr (7, [.ref ro_2, .ref ta_2, .ref no_2, .ref ac_2, .ref im_2, .ref tr_2, .ref pl_2, .ref cs_2, .ref ak_2, .int 0, .int 0])), (ro_2, .inr (5, [.ref it_2, .ref la_2, .ref le_2])), (la_2, .inl (cI, 8, .inl fl_2)), (le_2, .inl (cI, 8, .inl (fun _ => 0))), (it_2, .inl (cJ, 8, .inr (.inr (.inr (.inr (fun i => if i < 8 then some (it_2 + 1 + i) else none)))))), ((it_2 + 1 + 0), .inl (cI, 40, .inl (fun _ => 0))), ((it_2 + 1 + 1), .inl (cI, 40, .inl (fun _ => 0))), ((it_2 + 1 + 2), .inl (cI, 40, .inl (fun _ => 0))), ((it_2 + 1 + 3), .inl (cI, 40, .inl (fun _ => 0))), ((it_2 + 1 + 4), .inl (cI, 40, .inl (fun _ => 0))), ((it_2 + 1 + 5), .inl (cI, 40, .inl (fun _ => 0))), ((it_2 + 1 + 6), .inl (cI, 40, .inl (fun _ => 0))), ((it_2 + 1 + 7), .inl (cI, 40, .inl (fun _ => 0))), (ta_2, .inr (6, [.ref bs_2, .int 0, .ref td_2, .int 0, .int 0, .int 0])), (bs_2, .inl (cI, 120, .inl (fun _ => 0))), (td_2, .inr (3, [.int 0, .int 0, .int 0, .int 0, .int 0, .int 0, .int 0, .int 0, .ref t1_2, .ref t2_2, .ref t3_2, .ref t4_2, .ref t5_2])), (no_2, .inr (3, [.int 0, .int 0, .int 0, .int 0, .int 0, .int 0, .int 0, .int 0, .ref n1_2, .ref n2_2, .ref n3_2, .ref n4_2, .ref n5_2])), (ac_2, .inr (0, [.ref be_2, .int 0, .int 0])), (im_2, .inl (cL, 2, .inr (.inr (.inr (.inr fi_2))))), (i0_2, .inr (3, [.int 0, .int 0, .int 0, .int 0, .int 0, .int 0, .int 0, .int 0, .ref x1_2, .ref x2_2, .ref x3_2, .ref x4_2, .ref x5_2])), (i1_2, .inr (3, [.int 0, .int 0, .int 0, .int 0, .int 0, .int 0, .int 0, .int 0, .ref y1_2, .ref y2_2, .ref y3_2, .ref y4_2, .ref y5_2])), (ak_2, .inr (1, [.ref tc_2, .int 0, .int 0, .int 0, .int 0, .int 0]))] H := hP
  have hD : va_D A [(q_1, .inr (7, [.ref ro_2, .ref ta_2, .ref no_2, .ref ac_2, .ref im_2, .ref tr_2, .ref pl_2, .ref cs_2, .ref ak_2, .int 0, .int 0])), (ro_2, .inr (5, [.ref it_2, .ref la_2, .ref le_2])), (la_2, .inl (cI, 8, .inl fl_2)), (le_2, .inl (cI, 8, .inl (fun _ => 0))), (it_2, .inl (cJ, 8, .inr (.inr (.inr (.inr (fun i => if i < 8 then some (it_2 + 1 + i) else none)))))), ((it_2 + 1 + 0), .inl (cI, 40, .inl (fun _ => 0))), ((it_2 + 1 + 1), .inl (cI, 40, .inl (fun _ => 0))), ((it_2 + 1 + 2), .inl (cI, 40, .inl (fun _ => 0))), ((it_2 + 1 + 3), .inl (cI, 40, .inl (fun _ => 0))), ((it_2 + 1 + 4), .inl (cI, 40, .inl (fun _ => 0))), ((it_2 + 1 + 5), .inl (cI, 40, .inl (fun _ => 0))), ((it_2 + 1 + 6), .inl (cI, 40, .inl (fun _ => 0))), ((it_2 + 1 + 7), .inl (cI, 40, .inl (fun _ => 0))), (ta_2, .inr (6, [.ref bs_2, .int 0, .ref td_2, .int 0, .int 0, .int 0])), (bs_2, .inl (cI, 120, .inl (fun _ => 0))), (td_2, .inr (3, [.int 0, .int 0, .int 0, .int 0, .int 0, .int 0, .int 0, .int 0, .ref t1_2, .ref t2_2, .ref t3_2, .ref t4_2, .ref t5_2])), (no_2, .inr (3, [.int 0, .int 0, .int 0, .int 0, .int 0, .int 0, .int 0, .int 0, .ref n1_2, .ref n2_2, .ref n3_2, .ref n4_2, .ref n5_2])), (ac_2, .inr (0, [.ref be_2, .int 0, .int 0])), (im_2, .inl (cL, 2, .inr (.inr (.inr (.inr fi_2))))), (i0_2, .inr (3, [.int 0, .int 0, .int 0, .int 0, .int 0, .int 0, .int 0, .int 0, .ref x1_2, .ref x2_2, .ref x3_2, .ref x4_2, .ref x5_2])), (i1_2, .inr (3, [.int 0, .int 0, .int 0, .int 0, .int 0, .int 0, .int 0, .int 0, .ref y1_2, .ref y2_2, .ref y3_2, .ref y4_2, .ref y5_2])), (ak_2, .inr (1, [.ref tc_2, .int 0, .int 0, .int 0, .int 0, .int 0]))] := hD
  refine W.widen (k := 263) (n := 2273) (Nat.le_of_ble_eq_true rfl) (Nat.le_of_ble_eq_true rfl) ?_
  refine lv_astore_n (lv' := [(1, .ref q_1), (0, .ref b)]) hx hb dL_law_7 rfl hl (by decide) rfl (fun ls hl => ?_)
  refine va_new (ci := 8) (fs := [.null, .null, .null, .int 0, .int 0, .null, .null, .null, .int 0, .int 0, .int 0, .int 0, .int 0, .int 0, .int 0, .null, .null, .int 0, .null, .null, .null, .null, .null, .int 0]) (C := RX8) (T := TX8) (N := 24) hx hb hts inlX8 tyX8 tyX8_ok hown (hts (.classLink RL 10 RX8) (by decide +kernel)) (hts (.instantiable RX8 24) (by decide +kernel)) (hts (.initialized RX8) (by decide +kernel)) hK hP hD hS hA rfl (fun j hj => by rcases (show j = 0 ∨ j = 1 ∨ j = 2 ∨ j = 3 ∨ j = 4 ∨ j = 5 ∨ j = 6 ∨ j = 7 ∨ j = 8 ∨ j = 9 ∨ j = 10 ∨ j = 11 ∨ j = 12 ∨ j = 13 ∨ j = 14 ∨ j = 15 ∨ j = 16 ∨ j = 17 ∨ j = 18 ∨ j = 19 ∨ j = 20 ∨ j = 21 ∨ j = 22 ∨ j = 23 by omega) with rfl | rfl | rfl | rfl | rfl | rfl | rfl | rfl | rfl | rfl | rfl | rfl | rfl | rfl | rfl | rfl | rfl | rfl | rfl | rfl | rfl | rfl | rfl | rfl <;> rfl) (Nat.le_of_ble_eq_true rfl) (Nat.le_of_ble_eq_true rfl) dL_law_8 (fun q_3 H hP hD hS => ?_)
  have hP : va_P (dC, dI) vwCl [(q_1, .inr (7, [.ref ro_2, .ref ta_2, .ref no_2, .ref ac_2, .ref im_2, .ref tr_2, .ref pl_2, .ref cs_2, .ref ak_2, .int 0, .int 0])), (ro_2, .inr (5, [.ref it_2, .ref la_2, .ref le_2])), (la_2, .inl (cI, 8, .inl fl_2)), (le_2, .inl (cI, 8, .inl (fun _ => 0))), (it_2, .inl (cJ, 8, .inr (.inr (.inr (.inr (fun i => if i < 8 then some (it_2 + 1 + i) else none)))))), ((it_2 + 1 + 0), .inl (cI, 40, .inl (fun _ => 0))), ((it_2 + 1 + 1), .inl (cI, 40, .inl (fun _ => 0))), ((it_2 + 1 + 2), .inl (cI, 40, .inl (fun _ => 0))), ((it_2 + 1 + 3), .inl (cI, 40, .inl (fun _ => 0))), ((it_2 + 1 + 4), .inl (cI, 40, .inl (fun _ => 0))), ((it_2 + 1 + 5), .inl (cI, 40, .inl (fun _ => 0))), ((it_2 + 1 + 6), .inl (cI, 40, .inl (fun _ => 0))), ((it_2 + 1 + 7), .inl (cI, 40, .inl (fun _ => 0))), (ta_2, .inr (6, [.ref bs_2, .int 0, .ref td_2, .int 0, .int 0, .int 0])), (bs_2, .inl (cI, 120, .inl (fun _ => 0))), (td_2, .inr (3, [.int 0, .int 0, .int 0, .int 0, .int 0, .int 0, .int 0, .int 0, .ref t1_2, .ref t2_2, .ref t3_2, .ref t4_2, .ref t5_2])), (no_2, .inr (3, [.int 0, .int 0, .int 0, .int 0, .int 0, .int 0, .int 0, .int 0, .ref n1_2, .ref n2_2, .ref n3_2, .ref n4_2, .ref n5_2])), (ac_2, .inr (0, [.ref be_2, .int 0, .int 0])), (im_2, .inl (cL, 2, .inr (.inr (.inr (.inr fi_2))))), (i0_2, .inr (3, [.int 0, .int 0, .int 0, .int 0, .int 0, .int 0, .int 0, .int 0, .ref x1_2, .ref x2_2, .ref x3_2, .ref x4_2, .ref x5_2])), (i1_2, .inr (3, [.int 0, .int 0, .int 0, .int 0, .int 0, .int 0, .int 0, .int 0, .ref y1_2, .ref y2_2, .ref y3_2, .ref y4_2, .ref y5_2])), (ak_2, .inr (1, [.ref tc_2, .int 0, .int 0, .int 0, .int 0, .int 0])), (q_3, .inr (8, [.null, .null, .null, .int 0, .int 0, .null, .null, .null, .int 0, .int 0, .int 0, .int 0, .int 0, .int 0, .int 0, .null, .null, .int 0, .null, .null, .null, .null, .null, .int 0]))] H := hP
  have hD : va_D A [(q_1, .inr (7, [.ref ro_2, .ref ta_2, .ref no_2, .ref ac_2, .ref im_2, .ref tr_2, .ref pl_2, .ref cs_2, .ref ak_2, .int 0, .int 0])), (ro_2, .inr (5, [.ref it_2, .ref la_2, .ref le_2])), (la_2, .inl (cI, 8, .inl fl_2)), (le_2, .inl (cI, 8, .inl (fun _ => 0))), (it_2, .inl (cJ, 8, .inr (.inr (.inr (.inr (fun i => if i < 8 then some (it_2 + 1 + i) else none)))))), ((it_2 + 1 + 0), .inl (cI, 40, .inl (fun _ => 0))), ((it_2 + 1 + 1), .inl (cI, 40, .inl (fun _ => 0))), ((it_2 + 1 + 2), .inl (cI, 40, .inl (fun _ => 0))), ((it_2 + 1 + 3), .inl (cI, 40, .inl (fun _ => 0))), ((it_2 + 1 + 4), .inl (cI, 40, .inl (fun _ => 0))), ((it_2 + 1 + 5), .inl (cI, 40, .inl (fun _ => 0))), ((it_2 + 1 + 6), .inl (cI, 40, .inl (fun _ => 0))), ((it_2 + 1 + 7), .inl (cI, 40, .inl (fun _ => 0))), (ta_2, .inr (6, [.ref bs_2, .int 0, .ref td_2, .int 0, .int 0, .int 0])), (bs_2, .inl (cI, 120, .inl (fun _ => 0))), (td_2, .inr (3, [.int 0, .int 0, .int 0, .int 0, .int 0, .int 0, .int 0, .int 0, .ref t1_2, .ref t2_2, .ref t3_2, .ref t4_2, .ref t5_2])), (no_2, .inr (3, [.int 0, .int 0, .int 0, .int 0, .int 0, .int 0, .int 0, .int 0, .ref n1_2, .ref n2_2, .ref n3_2, .ref n4_2, .ref n5_2])), (ac_2, .inr (0, [.ref be_2, .int 0, .int 0])), (im_2, .inl (cL, 2, .inr (.inr (.inr (.inr fi_2))))), (i0_2, .inr (3, [.int 0, .int 0, .int 0, .int 0, .int 0, .int 0, .int 0, .int 0, .ref x1_2, .ref x2_2, .ref x3_2, .ref x4_2, .ref x5_2])), (i1_2, .inr (3, [.int 0, .int 0, .int 0, .int 0, .int 0, .int 0, .int 0, .int 0, .ref y1_2, .ref y2_2, .ref y3_2, .ref y4_2, .ref y5_2])), (ak_2, .inr (1, [.ref tc_2, .int 0, .int 0, .int 0, .int 0, .int 0])), (q_3, .inr (8, [.null, .null, .null, .int 0, .int 0, .null, .null, .null, .int 0, .int 0, .int 0, .int 0, .int 0, .int 0, .int 0, .null, .null, .int 0, .null, .null, .null, .null, .null, .int 0]))] := hD
  refine W.widen (k := 264) (n := 2297) (Nat.le_of_ble_eq_true rfl) (Nat.le_of_ble_eq_true rfl) ?_
  refine lv_dup hx hb dL_law_11 rfl ?_
  have hPc_4 := hP.sub (ws' := [(q_3, .inr (8, [.null, .null, .null, .int 0, .int 0, .null, .null, .null, .int 0, .int 0, .int 0, .int 0, .int 0, .int 0, .int 0, .null, .null, .int 0, .null, .null, .null, .null, .null, .int 0]))]) [22] rfl
  have hDc_4 := hD.sub (ws' := [(q_3, .inr (8, [.null, .null, .null, .int 0, .int 0, .null, .null, .null, .int 0, .int 0, .int 0, .int 0, .int 0, .int 0, .int 0, .null, .null, .int 0, .null, .null, .null, .null, .null, .int 0]))]) [22] (by decide) rfl
  have hFc_4 := va_free (wc := [(q_3, .inr (8, [.null, .null, .null, .int 0, .int 0, .null, .null, .null, .int 0, .int 0, .int 0, .int 0, .int 0, .int 0, .int 0, .null, .null, .int 0, .null, .null, .null, .null, .null, .int 0]))]) hD hS hA [22] rfl
  refine va_callv (va_runI (As := []) (rest := [.ref q_3]) ⟨hx, hb, hml, hown, hts⟩ (c_X8_init l dC dI cI cZ cL cJ H.size q_3 ) (cwI 0 hts gL_law_X8_init rfl rfl rfl (hts (.initialized RX8) (by decide +kernel)) (hts (.methodLink RL 12 yX8_init) (by decide +kernel)) (hts (.instanceMethod yX8_init) (by decide +kernel)) rfl (by decide +kernel) ⟨Nat.le_of_ble_eq_true rfl, Nat.le_of_ble_eq_true rfl⟩) ⟨fun a U g mk q => by obtain ⟨q0, q1, qP, qK, qD⟩ := q; exact ⟨q0, q1, qP, va_K.moved (u := U) (U := U.calling g mk a) (Vm.Alike.refl U.vm) qK, qD⟩, fun U hU hW => ⟨rfl, by rw [hU], by rw [hU]; exact hPc_4, va_K.moved hW.alike hK, hDc_4.weaken (fun _ _ _ _ => trivial)⟩⟩ rfl rfl hl.1 rfl (lv_room (Nat.le_of_ble_eq_true rfl)) dL_law_12 ⟨Nat.le_of_ble_eq_true rfl, Nat.le_of_ble_eq_true rfl⟩) hS (fun q _ h => hFc_4 q h) hFc_4 (fun u_4 t_4 H1 locs ht hvm h_4 hB hz1 hk1 hS => ?_)
  obtain ⟨m_la_4, m_sz_4, m_it_4, m_st_4, m_mv_4, m_tp_4, m_rd_4, m_ac_4, m_as_4, m_wo_4, m_ik_4, m_ke_4, m_tr_4, fm_4, hP1, hD1, hF_4_0⟩ := hB
  rw [ht] at hP1
  obtain ⟨hP, hD⟩ := va_join (wr := [(q_1, .inr (7, [.ref ro_2, .ref ta_2, .ref no_2, .ref ac_2, .ref im_2, .ref tr_2, .ref pl_2, .ref cs_2, .ref ak_2, .int 0, .int 0])), (ro_2, .inr (5, [.ref it_2, .ref la_2, .ref le_2])), (la_2, .inl (cI, 8, .inl fl_2)), (le_2, .inl (cI, 8, .inl (fun _ => 0))), (it_2, .inl (cJ, 8, .inr (.inr (.inr (.inr (fun i => if i < 8 then some (it_2 + 1 + i) else none)))))), ((it_2 + 1 + 0), .inl (cI, 40, .inl (fun _ => 0))), ((it_2 + 1 + 1), .inl (cI, 40, .inl (fun _ => 0))), ((it_2 + 1 + 2), .inl (cI, 40, .inl (fun _ => 0))), ((it_2 + 1 + 3), .inl (cI, 40, .inl (fun _ => 0))), ((it_2 + 1 + 4), .inl (cI, 40, .inl (fun _ => 0))), ((it_2 + 1 + 5), .inl (cI, 40, .inl (fun _ => 0))), ((it_2 + 1 + 6), .inl (cI, 40, .inl (fun _ => 0))), ((it_2 + 1 + 7), .inl (cI, 40, .inl (fun _ => 0))), (ta_2, .inr (6, [.ref bs_2, .int 0, .ref td_2, .int 0, .int 0, .int 0])), (bs_2, .inl (cI, 120, .inl (fun _ => 0))), (td_2, .inr (3, [.int 0, .int 0, .int 0, .int 0, .int 0, .int 0, .int 0, .int 0, .ref t1_2, .ref t2_2, .ref t3_2, .ref t4_2, .ref t5_2])), (no_2, .inr (3, [.int 0, .int 0, .int 0, .int 0, .int 0, .int 0, .int 0, .int 0, .ref n1_2, .ref n2_2, .ref n3_2, .ref n4_2, .ref n5_2])), (ac_2, .inr (0, [.ref be_2, .int 0, .int 0])), (im_2, .inl (cL, 2, .inr (.inr (.inr (.inr fi_2))))), (i0_2, .inr (3, [.int 0, .int 0, .int 0, .int 0, .int 0, .int 0, .int 0, .int 0, .ref x1_2, .ref x2_2, .ref x3_2, .ref x4_2, .ref x5_2])), (i1_2, .inr (3, [.int 0, .int 0, .int 0, .int 0, .int 0, .int 0, .int 0, .int 0, .ref y1_2, .ref y2_2, .ref y3_2, .ref y4_2, .ref y5_2])), (ak_2, .inr (1, [.ref tc_2, .int 0, .int 0, .int 0, .int 0, .int 0]))]) (w1 := [(q_3, .inr (8, [.ref m_la_4, .ref m_sz_4, .ref m_it_4, .int 0, .int 0, .ref m_st_4, .ref m_mv_4, .ref m_tp_4, .int 0, .int 0, .int 0, .int 0, .int 0, .int 0, .int 0, .ref m_rd_4, .ref m_ac_4, .int 0, .ref m_as_4, .ref m_wo_4, .ref m_ik_4, .ref m_ke_4, .ref m_tr_4, .int 0])), (m_sz_4, .inl (cI, 8, .inl fm_4)), (m_st_4, .inl (cI, 38, .inl (fun _ => 0))), (m_ik_4, .inl (cZ, 2, .inl (fun _ => 0))), (m_la_4, .inl (cI, 8, .inl (fun _ => 0))), (m_it_4, .inl (cI, 320, .inl (fun _ => 0))), (m_tp_4, .inl (cI, 120, .inl (fun _ => 0))), (m_rd_4, .inl (cI, 38, .inl (fun _ => 0)))]) hP hD [22] [0, 1, 2, 3, 4, 5, 6, 7, 8, 9, 10, 11, 12, 13, 14, 15, 16, 17, 18, 19, 20, 21] rfl rfl (by decide) (by decide) hk1 hFc_4 hP1 hD1
  generalize H1 = H at hP hS ⊢
  have hP : va_P (dC, dI) vwCl [(q_1, .inr (7, [.ref ro_2, .ref ta_2, .ref no_2, .ref ac_2, .ref im_2, .ref tr_2, .ref pl_2, .ref cs_2, .ref ak_2, .int 0, .int 0])), (ro_2, .inr (5, [.ref it_2, .ref la_2, .ref le_2])), (la_2, .inl (cI, 8, .inl fl_2)), (le_2, .inl (cI, 8, .inl (fun _ => 0))), (it_2, .inl (cJ, 8, .inr (.inr (.inr (.inr (fun i => if i < 8 then some (it_2 + 1 + i) else none)))))), ((it_2 + 1 + 0), .inl (cI, 40, .inl (fun _ => 0))), ((it_2 + 1 + 1), .inl (cI, 40, .inl (fun _ => 0))), ((it_2 + 1 + 2), .inl (cI, 40, .inl (fun _ => 0))), ((it_2 + 1 + 3), .inl (cI, 40, .inl (fun _ => 0))), ((it_2 + 1 + 4), .inl (cI, 40, .inl (fun _ => 0))), ((it_2 + 1 + 5), .inl (cI, 40, .inl (fun _ => 0))), ((it_2 + 1 + 6), .inl (cI, 40, .inl (fun _ => 0))), ((it_2 + 1 + 7), .inl (cI, 40, .inl (fun _ => 0))), (ta_2, .inr (6, [.ref bs_2, .int 0, .ref td_2, .int 0, .int 0, .int 0])), (bs_2, .inl (cI, 120, .inl (fun _ => 0))), (td_2, .inr (3, [.int 0, .int 0, .int 0, .int 0, .int 0, .int 0, .int 0, .int 0, .ref t1_2, .ref t2_2, .ref t3_2, .ref t4_2, .ref t5_2])), (no_2, .inr (3, [.int 0, .int 0, .int 0, .int 0, .int 0, .int 0, .int 0, .int 0, .ref n1_2, .ref n2_2, .ref n3_2, .ref n4_2, .ref n5_2])), (ac_2, .inr (0, [.ref be_2, .int 0, .int 0])), (im_2, .inl (cL, 2, .inr (.inr (.inr (.inr fi_2))))), (i0_2, .inr (3, [.int 0, .int 0, .int 0, .int 0, .int 0, .int 0, .int 0, .int 0, .ref x1_2, .ref x2_2, .ref x3_2, .ref x4_2, .ref x5_2])), (i1_2, .inr (3, [.int 0, .int 0, .int 0, .int 0, .int 0, .int 0, .int 0, .int 0, .ref y1_2, .ref y2_2, .ref y3_2, .ref y4_2, .ref y5_2])), (ak_2, .inr (1, [.ref tc_2, .int 0, .int 0, .int 0, .int 0, .int 0])), (q_3, .inr (8, [.ref m_la_4, .ref m_sz_4, .ref m_it_4, .int 0, .int 0, .ref m_st_4, .ref m_mv_4, .ref m_tp_4, .int 0, .int 0, .int 0, .int 0, .int 0, .int 0, .int 0, .ref m_rd_4, .ref m_ac_4, .int 0, .ref m_as_4, .ref m_wo_4, .ref m_ik_4, .ref m_ke_4, .ref m_tr_4, .int 0])), (m_sz_4, .inl (cI, 8, .inl fm_4)), (m_st_4, .inl (cI, 38, .inl (fun _ => 0))), (m_ik_4, .inl (cZ, 2, .inl (fun _ => 0))), (m_la_4, .inl (cI, 8, .inl (fun _ => 0))), (m_it_4, .inl (cI, 320, .inl (fun _ => 0))), (m_tp_4, .inl (cI, 120, .inl (fun _ => 0))), (m_rd_4, .inl (cI, 38, .inl (fun _ => 0)))] H := hP
  have hD : va_D A [(q_1, .inr (7, [.ref ro_2, .ref ta_2, .ref no_2, .ref ac_2, .ref im_2, .ref tr_2, .ref pl_2, .ref cs_2, .ref ak_2, .int 0, .int 0])), (ro_2, .inr (5, [.ref it_2, .ref la_2, .ref le_2])), (la_2, .inl (cI, 8, .inl fl_2)), (le_2, .inl (cI, 8, .inl (fun _ => 0))), (it_2, .inl (cJ, 8, .inr (.inr (.inr (.inr (fun i => if i < 8 then some (it_2 + 1 + i) else none)))))), ((it_2 + 1 + 0), .inl (cI, 40, .inl (fun _ => 0))), ((it_2 + 1 + 1), .inl (cI, 40, .inl (fun _ => 0))), ((it_2 + 1 + 2), .inl (cI, 40, .inl (fun _ => 0))), ((it_2 + 1 + 3), .inl (cI, 40, .inl (fun _ => 0))), ((it_2 + 1 + 4), .inl (cI, 40, .inl (fun _ => 0))), ((it_2 + 1 + 5), .inl (cI, 40, .inl (fun _ => 0))), ((it_2 + 1 + 6), .inl (cI, 40, .inl (fun _ => 0))), ((it_2 + 1 + 7), .inl (cI, 40, .inl (fun _ => 0))), (ta_2, .inr (6, [.ref bs_2, .int 0, .ref td_2, .int 0, .int 0, .int 0])), (bs_2, .inl (cI, 120, .inl (fun _ => 0))), (td_2, .inr (3, [.int 0, .int 0, .int 0, .int 0, .int 0, .int 0, .int 0, .int 0, .ref t1_2, .ref t2_2, .ref t3_2, .ref t4_2, .ref t5_2])), (no_2, .inr (3, [.int 0, .int 0, .int 0, .int 0, .int 0, .int 0, .int 0, .int 0, .ref n1_2, .ref n2_2, .ref n3_2, .ref n4_2, .ref n5_2])), (ac_2, .inr (0, [.ref be_2, .int 0, .int 0])), (im_2, .inl (cL, 2, .inr (.inr (.inr (.inr fi_2))))), (i0_2, .inr (3, [.int 0, .int 0, .int 0, .int 0, .int 0, .int 0, .int 0, .int 0, .ref x1_2, .ref x2_2, .ref x3_2, .ref x4_2, .ref x5_2])), (i1_2, .inr (3, [.int 0, .int 0, .int 0, .int 0, .int 0, .int 0, .int 0, .int 0, .ref y1_2, .ref y2_2, .ref y3_2, .ref y4_2, .ref y5_2])), (ak_2, .inr (1, [.ref tc_2, .int 0, .int 0, .int 0, .int 0, .int 0])), (q_3, .inr (8, [.ref m_la_4, .ref m_sz_4, .ref m_it_4, .int 0, .int 0, .ref m_st_4, .ref m_mv_4, .ref m_tp_4, .int 0, .int 0, .int 0, .int 0, .int 0, .int 0, .int 0, .ref m_rd_4, .ref m_ac_4, .int 0, .ref m_as_4, .ref m_wo_4, .ref m_ik_4, .ref m_ke_4, .ref m_tr_4, .int 0])), (m_sz_4, .inl (cI, 8, .inl fm_4)), (m_st_4, .inl (cI, 38, .inl (fun _ => 0))), (m_ik_4, .inl (cZ, 2, .inl (fun _ => 0))), (m_la_4, .inl (cI, 8, .inl (fun _ => 0))), (m_it_4, .inl (cI, 320, .inl (fun _ => 0))), (m_tp_4, .inl (cI, 120, .inl (fun _ => 0))), (m_rd_4, .inl (cI, 38, .inl (fun _ => 0)))] := hD
  refine W.widen (k := 277) (n := 3929) (Nat.le_of_ble_eq_true rfl) (Nat.le_of_ble_eq_true rfl) ?_
  refine lv_astore_n (lv' := [(2, .ref q_3), (1, .ref q_1), (0, .ref b)]) hx hb dL_law_15 rfl hl (by decide) rfl (fun ls hl => ?_)
  refine lv_iconst (v := 0) hx hb dL_law_16 (by decide) ?_
  refine lv_istore_n (lv' := [(3, .int 0), (2, .ref q_3), (1, .ref q_1), (0, .ref b)]) hx hb dL_law_17 rfl hl (by decide) rfl (fun ls hl => ?_)
  rcases Nat.lt_or_ge L 6 with hL6 | hL6
  · skip
    refine lv_iload_n hx hb dL_law_18 rfl (lv_at hl 0 rfl) ?_
    refine lv_aload_n hx hb dL_law_19 rfl (lv_at hl 3 rfl) ?_
    refine va_slen hx hb hX hbl hbA hS dL_law_20 ?_
    refine lv_bipush (v := 6) hx hb dL_law_21 (by decide) ?_
    refine lv_isub hx hb dL_law_23 ?_
    refine lv_icmp_gt (tgt := 1364) hx hb dL_law_24 (by decide) (fun _ => ?_) (fun c_ => absurd (pk_sneg (a := L) (b := 6) (by decide) hL6) c_)
    refine lv_iconst (v := 1) hx hb dL_law_1364 (by decide) ?_
    refine va_forget (fun q hq => by have q9 := hS.2.2 q hq; rw [hAd] at q9; exact q9) ?_
    refine W.widen (k := 600000) (n := 7302250) (Nat.le_of_ble_eq_true rfl) (Nat.le_of_ble_eq_true rfl) ?_
    exact lw_ret hx hb hr hlocks dL_law_1365
  · skip
    have e6 : L = 6 := by omega
    subst e6
    obtain ⟨sc1, hsc1⟩ : ∃ y : Int32, y = xs 1 := ⟨_, rfl⟩
    obtain ⟨sc2, hsc2⟩ : ∃ y : Int32, y = xs 2 := ⟨_, rfl⟩
    obtain ⟨sc3, hsc3⟩ : ∃ y : Int32, y = xs 3 := ⟨_, rfl⟩
    obtain ⟨sc4, hsc4⟩ : ∃ y : Int32, y = xs 4 := ⟨_, rfl⟩
    obtain ⟨sc5, hsc5⟩ : ∃ y : Int32, y = xs 5 := ⟨_, rfl⟩
    refine lv_iload_n hx hb dL_law_18 rfl (lv_at hl 0 rfl) ?_
    refine lv_aload_n hx hb dL_law_19 rfl (lv_at hl 3 rfl) ?_
    refine va_slen hx hb hX hbl hbA hS dL_law_20 ?_
    refine lv_bipush (v := 6) hx hb dL_law_21 (by decide) ?_
    refine lv_isub hx hb dL_law_23 ?_
    refine lv_icmp_gt (tgt := 1364) hx hb dL_law_24 (by decide) (fun c_ => absurd c_ (by decide)) (fun _ => ?_)
    refine lv_aload_n hx hb dL_law_27 rfl (lv_at hl 3 rfl) ?_
    refine lv_iload_n hx hb dL_law_28 rfl (lv_at hl 0 rfl) ?_
    refine va_sld hx hb hX hbl hbA hS (by unfold vp_in; decide) dL_law_29 ?_
    refine lv_bipush (v := 63) hx hb dL_law_30 (by decide) ?_
    refine lv_iand hx hb dL_law_32 ?_
    refine lv_topi (fun y0 hy0 => ?_)
    have hP := hP.sub (ws' := [(q_1, .inr (7, [.ref ro_2, .ref ta_2, .ref no_2, .ref ac_2, .ref im_2, .ref tr_2, .ref pl_2, .ref cs_2, .ref ak_2, .int 0, .int 0])), (ro_2, .inr (5, [.ref it_2, .ref la_2, .ref le_2])), (la_2, .inl (cI, 8, .inl fl_2)), (le_2, .inl (cI, 8, .inl (fun _ => 0))), (it_2, .inl (cJ, 8, .inr (.inr (.inr (.inr (fun i => if i < 8 then some (it_2 + 1 + i) else none)))))), ((it_2 + 1 + 0), .inl (cI, 40, .inl (fun _ => 0))), ((it_2 + 1 + 1), .inl (cI, 40, .inl (fun _ => 0))), ((it_2 + 1 + 2), .inl (cI, 40, .inl (fun _ => 0))), ((it_2 + 1 + 3), .inl (cI, 40, .inl (fun _ => 0))), ((it_2 + 1 + 4), .inl (cI, 40, .inl (fun _ => 0))), ((it_2 + 1 + 5), .inl (cI, 40, .inl (fun _ => 0))), ((it_2 + 1 + 6), .inl (cI, 40, .inl (fun _ => 0))), ((it_2 + 1 + 7), .inl (cI, 40, .inl (fun _ => 0))), (ta_2, .inr (6, [.ref bs_2, .int 0, .ref td_2, .int 0, .int 0, .int 0])), (bs_2, .inl (cI, 120, .inl (fun _ => 0))), (td_2, .inr (3, [.int 0, .int 0, .int 0, .int 0, .int 0, .int 0, .int 0, .int 0, .ref t1_2, .ref t2_2, .ref t3_2, .ref t4_2, .ref t5_2])), (no_2, .inr (3, [.int 0, .int 0, .int 0, .int 0, .int 0, .int 0, .int 0, .int 0, .ref n1_2, .ref n2_2, .ref n3_2, .ref n4_2, .ref n5_2])), (ac_2, .inr (0, [.ref be_2, .int 0, .int 0])), (im_2, .inl (cL, 2, .inr (.inr (.inr (.inr fi_2))))), (i0_2, .inr (3, [.int 0, .int 0, .int 0, .int 0, .int 0, .int 0, .int 0, .int 0, .ref x1_2, .ref x2_2, .ref x3_2, .ref x4_2, .ref x5_2])), (i1_2, .inr (3, [.int 0, .int 0, .int 0, .int 0, .int 0, .int 0, .int 0, .int 0, .ref y1_2, .ref y2_2, .ref y3_2, .ref y4_2, .ref y5_2])), (ak_2, .inr (1, [.ref tc_2, .int 0, .int 0, .int 0, .int 0, .int 0])), (q_3, .inr (8, [.ref m_la_4, .ref m_sz_4, .ref m_it_4, .int 0, .int 0, .ref m_st_4, .ref m_mv_4, .ref m_tp_4, .int 0, .int 0, .int 0, .int 0, .int 0, .int 0, .int 0, .ref m_rd_4, .ref m_ac_4, .int 0, .ref m_as_4, .ref m_wo_4, .ref m_ik_4, .ref m_ke_4, .ref m_tr_4, .int 0])), (m_sz_4, .inl (cI, 8, .inl fm_4)), (m_st_4, .inl (cI, 38, .inl (fun _ => 0))), (m_ik_4, .inl (cZ, 2, .inl (fun _ => 0))), (m_la_4, .inl (cI, 8, .inl (fun _ => 0))), (m_it_4, .inl (cI, 320, .inl (fun _ => 0))), (m_tp_4, .inl (cI, 120, .inl (fun _ => 0))), (m_rd_4, .inl (cI, 38, .inl (fun _ => 0)))]) [0, 1, 2, 3, 4, 5, 6, 7, 8, 9, 10, 11, 12, 13, 14, 15, 16, 17, 18, 19, 20, 21, 22, 23, 24, 25, 26, 27, 28, 29] rfl
    have hD := hD.sub (ws' := [(q_1, .inr (7, [.ref ro_2, .ref ta_2, .ref no_2, .ref ac_2, .ref im_2, .ref tr_2, .ref pl_2, .ref cs_2, .ref ak_2, .int 0, .int 0])), (ro_2, .inr (5, [.ref it_2, .ref la_2, .ref le_2])), (la_2, .inl (cI, 8, .inl fl_2)), (le_2, .inl (cI, 8, .inl (fun _ => 0))), (it_2, .inl (cJ, 8, .inr (.inr (.inr (.inr (fun i => if i < 8 then some (it_2 + 1 + i) else none)))))), ((it_2 + 1 + 0), .inl (cI, 40, .inl (fun _ => 0))), ((it_2 + 1 + 1), .inl (cI, 40, .inl (fun _ => 0))), ((it_2 + 1 + 2), .inl (cI, 40, .inl (fun _ => 0))), ((it_2 + 1 + 3), .inl (cI, 40, .inl (fun _ => 0))), ((it_2 + 1 + 4), .inl (cI, 40, .inl (fun _ => 0))), ((it_2 + 1 + 5), .inl (cI, 40, .inl (fun _ => 0))), ((it_2 + 1 + 6), .inl (cI, 40, .inl (fun _ => 0))), ((it_2 + 1 + 7), .inl (cI, 40, .inl (fun _ => 0))), (ta_2, .inr (6, [.ref bs_2, .int 0, .ref td_2, .int 0, .int 0, .int 0])), (bs_2, .inl (cI, 120, .inl (fun _ => 0))), (td_2, .inr (3, [.int 0, .int 0, .int 0, .int 0, .int 0, .int 0, .int 0, .int 0, .ref t1_2, .ref t2_2, .ref t3_2, .ref t4_2, .ref t5_2])), (no_2, .inr (3, [.int 0, .int 0, .int 0, .int 0, .int 0, .int 0, .int 0, .int 0, .ref n1_2, .ref n2_2, .ref n3_2, .ref n4_2, .ref n5_2])), (ac_2, .inr (0, [.ref be_2, .int 0, .int 0])), (im_2, .inl (cL, 2, .inr (.inr (.inr (.inr fi_2))))), (i0_2, .inr (3, [.int 0, .int 0, .int 0, .int 0, .int 0, .int 0, .int 0, .int 0, .ref x1_2, .ref x2_2, .ref x3_2, .ref x4_2, .ref x5_2])), (i1_2, .inr (3, [.int 0, .int 0, .int 0, .int 0, .int 0, .int 0, .int 0, .int 0, .ref y1_2, .ref y2_2, .ref y3_2, .ref y4_2, .ref y5_2])), (ak_2, .inr (1, [.ref tc_2, .int 0, .int 0, .int 0, .int 0, .int 0])), (q_3, .inr (8, [.ref m_la_4, .ref m_sz_4, .ref m_it_4, .int 0, .int 0, .ref m_st_4, .ref m_mv_4, .ref m_tp_4, .int 0, .int 0, .int 0, .int 0, .int 0, .int 0, .int 0, .ref m_rd_4, .ref m_ac_4, .int 0, .ref m_as_4, .ref m_wo_4, .ref m_ik_4, .ref m_ke_4, .ref m_tr_4, .int 0])), (m_sz_4, .inl (cI, 8, .inl fm_4)), (m_st_4, .inl (cI, 38, .inl (fun _ => 0))), (m_ik_4, .inl (cZ, 2, .inl (fun _ => 0))), (m_la_4, .inl (cI, 8, .inl (fun _ => 0))), (m_it_4, .inl (cI, 320, .inl (fun _ => 0))), (m_tp_4, .inl (cI, 120, .inl (fun _ => 0))), (m_rd_4, .inl (cI, 38, .inl (fun _ => 0)))]) [0, 1, 2, 3, 4, 5, 6, 7, 8, 9, 10, 11, 12, 13, 14, 15, 16, 17, 18, 19, 20, 21, 22, 23, 24, 25, 26, 27, 28, 29] (by decide) rfl
    by_cases k_0 : y0 = 0
    · subst k_0
      refine lv_tableIn (off := 163) (tgt := 196) hx hb dL_law_33 (by decide) (by decide) (by decide) (by decide) ?_
      exact lw_c0 hx hb hr hml hown hts hX hbl hlocks hAd hA hbA hsc1 hsc2 hsc3 hsc4 hsc5 hF_2_0 hF_2_1 hF_2_2 hF_4_0 hK hP hD hS hl
    by_cases k_1 : y0 = 1
    · subst k_1
      refine lv_tableIn (off := 206) (tgt := 239) hx hb dL_law_33 (by decide) (by decide) (by decide) (by decide) ?_
      exact lw_c1 hx hb hr hml hown hts hX hbl hlocks hAd hA hbA hsc1 hsc2 hsc3 hsc4 hsc5 hF_2_0 hF_2_1 hF_2_2 hF_4_0 hK hP hD hS hl
    by_cases k_2 : y0 = 2
    · subst k_2
      refine lv_tableIn (off := 249) (tgt := 282) hx hb dL_law_33 (by decide) (by decide) (by decide) (by decide) ?_
      exact lw_c2 hx hb hr hml hown hts hX hbl hlocks hAd hA hbA hsc1 hsc2 hsc3 hsc4 hsc5 hF_2_0 hF_2_1 hF_2_2 hF_4_0 hK hP hD hS hl
    by_cases k_3 : y0 = 3
    · subst k_3
      refine lv_tableIn (off := 312) (tgt := 345) hx hb dL_law_33 (by decide) (by decide) (by decide) (by decide) ?_
      exact lw_c3 hx hb hr hml hown hts hX hbl hlocks hAd hA hbA hsc1 hsc2 hsc3 hsc4 hsc5 hF_2_0 hF_2_1 hF_2_2 hF_4_0 hK hP hD hS hl
    by_cases k_4 : y0 = 4
    · subst k_4
      refine lv_tableIn (off := 335) (tgt := 368) hx hb dL_law_33 (by decide) (by decide) (by decide) (by decide) ?_
      exact lw_c4 hx hb hr hml hown hts hX hbl hlocks hAd hA hbA hsc1 hsc2 hsc3 hsc4 hsc5 hF_2_0 hF_2_1 hF_2_2 hF_4_0 hK hP hD hS hl
    by_cases k_5 : y0 = 5
    · subst k_5
      refine lv_tableIn (off := 358) (tgt := 391) hx hb dL_law_33 (by decide) (by decide) (by decide) (by decide) ?_
      exact lw_c5 hx hb hr hml hown hts hX hbl hlocks hAd hA hbA hsc1 hsc2 hsc3 hsc4 hsc5 hF_2_0 hF_2_1 hF_2_2 hF_4_0 hK hP hD hS hl
    by_cases k_6 : y0 = 6
    · subst k_6
      refine lv_tableIn (off := 371) (tgt := 404) hx hb dL_law_33 (by decide) (by decide) (by decide) (by decide) ?_
      exact lw_c6 hx hb hr hml hown hts hX hbl hlocks hAd hA hbA hsc1 hsc2 hsc3 hsc4 hsc5 hF_2_0 hF_2_1 hF_2_2 hF_4_0 hK hP hD hS hl
    by_cases k_7 : y0 = 7
    · subst k_7
      refine lv_tableIn (off := 384) (tgt := 417) hx hb dL_law_33 (by decide) (by decide) (by decide) (by decide) ?_
      exact lw_c7 hx hb hr hml hown hts hX hbl hlocks hAd hA hbA hsc1 hsc2 hsc3 hsc4 hsc5 hF_2_0 hF_2_1 hF_2_2 hF_4_0 hK hP hD hS hl
    by_cases k_8 : y0 = 8
    · subst k_8
      refine lv_tableIn (off := 397) (tgt := 430) hx hb dL_law_33 (by decide) (by decide) (by decide) (by decide) ?_
      exact lw_c8 hx hb hr hml hown hts hX hbl hlocks hAd hA hbA hsc1 hsc2 hsc3 hsc4 hsc5 hF_2_0 hF_2_1 hF_2_2 hF_4_0 hK hP hD hS hl
    by_cases k_9 : y0 = 9
    · subst k_9
      refine lv_tableIn (off := 420) (tgt := 453) hx hb dL_law_33 (by decide) (by decide) (by decide) (by decide) ?_
      exact lw_c9 hx hb hr hml hown hts hX hbl hlocks hAd hA hbA hsc1 hsc2 hsc3 hsc4 hsc5 hF_2_0 hF_2_1 hF_2_2 hF_4_0 hK hP hD hS hl
    by_cases k_10 : y0 = 10
    · subst k_10
      refine lv_tableIn (off := 433) (tgt := 466) hx hb dL_law_33 (by decide) (by decide) (by decide) (by decide) ?_
      exact lw_c10 hx hb hr hml hown hts hX hbl hlocks hAd hA hbA hsc1 hsc2 hsc3 hsc4 hsc5 hF_2_0 hF_2_1 hF_2_2 hF_4_0 hK hP hD hS hl
    by_cases k_11 : y0 = 11
    · subst k_11
      refine lv_tableIn (off := 466) (tgt := 499) hx hb dL_law_33 (by decide) (by decide) (by decide) (by decide) ?_
      exact lw_c11 hx hb hr hml hown hts hX hbl hlocks hAd hA hbA hsc1 hsc2 hsc3 hsc4 hsc5 hF_2_0 hF_2_1 hF_2_2 hF_4_0 hK hP hD hS hl
    by_cases k_12 : y0 = 12
    · subst k_12
      refine lv_tableIn (off := 509) (tgt := 542) hx hb dL_law_33 (by decide) (by decide) (by decide) (by decide) ?_
      exact lw_c12 hx hb hr hml hown hts hX hbl hlocks hAd hA hbA hsc1 hsc2 hsc3 hsc4 hsc5 hF_2_0 hF_2_1 hF_2_2 hF_4_0 hK hP hD hS hl
    by_cases k_13 : y0 = 13
    · subst k_13
      refine lv_tableIn (off := 532) (tgt := 565) hx hb dL_law_33 (by decide) (by decide) (by decide) (by decide) ?_
      exact lw_c13 hx hb hr hml hown hts hX hbl hlocks hAd hA hbA hsc1 hsc2 hsc3 hsc4 hsc5 hF_2_0 hF_2_1 hF_2_2 hF_4_0 hK hP hD hS hl
    by_cases k_14 : y0 = 14
    · subst k_14
      refine lv_tableIn (off := 565) (tgt := 598) hx hb dL_law_33 (by decide) (by decide) (by decide) (by decide) ?_
      exact lw_c14 hx hb hr hml hown hts hX hbl hlocks hAd hA hbA hsc1 hsc2 hsc3 hsc4 hsc5 hF_2_0 hF_2_1 hF_2_2 hF_4_0 hK hP hD hS hl
    by_cases k_15 : y0 = 15
    · subst k_15
      refine lv_tableIn (off := 588) (tgt := 621) hx hb dL_law_33 (by decide) (by decide) (by decide) (by decide) ?_
      exact lw_c15 hx hb hr hml hown hts hX hbl hlocks hAd hA hbA hsc1 hsc2 hsc3 hsc4 hsc5 hF_2_0 hF_2_1 hF_2_2 hF_4_0 hK hP hD hS hl
    by_cases k_16 : y0 = 16
    · subst k_16
      refine lv_tableIn (off := 611) (tgt := 644) hx hb dL_law_33 (by decide) (by decide) (by decide) (by decide) ?_
      exact lw_c16 hx hb hr hml hown hts hX hbl hlocks hAd hA hbA hsc1 hsc2 hsc3 hsc4 hsc5 hF_2_0 hF_2_1 hF_2_2 hF_4_0 hK hP hD hS hl
    by_cases k_17 : y0 = 17
    · subst k_17
      refine lv_tableIn (off := 654) (tgt := 687) hx hb dL_law_33 (by decide) (by decide) (by decide) (by decide) ?_
      exact lw_c17 hx hb hr hml hown hts hX hbl hlocks hAd hA hbA hsc1 hsc2 hsc3 hsc4 hsc5 hF_2_0 hF_2_1 hF_2_2 hF_4_0 hK hP hD hS hl
    by_cases k_18 : y0 = 18
    · subst k_18
      refine lv_tableIn (off := 677) (tgt := 710) hx hb dL_law_33 (by decide) (by decide) (by decide) (by decide) ?_
      exact lw_c18 hx hb hr hml hown hts hX hbl hlocks hAd hA hbA hsc1 hsc2 hsc3 hsc4 hsc5 hF_2_0 hF_2_1 hF_2_2 hF_4_0 hK hP hD hS hl
    by_cases k_19 : y0 = 19
    · subst k_19
      refine lv_tableIn (off := 710) (tgt := 743) hx hb dL_law_33 (by decide) (by decide) (by decide) (by decide) ?_
      exact lw_c19 hx hb hr hml hown hts hX hbl hlocks hAd hA hbA hsc1 hsc2 hsc3 hsc4 hsc5 hF_2_0 hF_2_1 hF_2_2 hF_4_0 hK hP hD hS hl
    by_cases k_20 : y0 = 20
    · subst k_20
      refine lv_tableIn (off := 743) (tgt := 776) hx hb dL_law_33 (by decide) (by decide) (by decide) (by decide) ?_
      exact lw_c20 hx hb hr hml hown hts hX hbl hlocks hAd hA hbA hsc1 hsc2 hsc3 hsc4 hsc5 hF_2_0 hF_2_1 hF_2_2 hF_4_0 hK hP hD hS hl
    by_cases k_21 : y0 = 21
    · subst k_21
      refine lv_tableIn (off := 776) (tgt := 809) hx hb dL_law_33 (by decide) (by decide) (by decide) (by decide) ?_
      exact lw_c21 hx hb hr hml hown hts hX hbl hlocks hAd hA hbA hsc1 hsc2 hsc3 hsc4 hsc5 hF_2_0 hF_2_1 hF_2_2 hF_4_0 hK hP hD hS hl
    by_cases k_22 : y0 = 22
    · subst k_22
      refine lv_tableIn (off := 809) (tgt := 842) hx hb dL_law_33 (by decide) (by decide) (by decide) (by decide) ?_
      exact lw_c22 hx hb hr hml hown hts hX hbl hlocks hAd hA hbA hsc1 hsc2 hsc3 hsc4 hsc5 hF_2_0 hF_2_1 hF_2_2 hF_4_0 hK hP hD hS hl
    by_cases k_23 : y0 = 23
    · subst k_23
      refine lv_tableIn (off := 842) (tgt := 875) hx hb dL_law_33 (by decide) (by decide) (by decide) (by decide) ?_
      exact lw_c23 hx hb hr hml hown hts hX hbl hlocks hAd hA hbA hsc1 hsc2 hsc3 hsc4 hsc5 hF_2_0 hF_2_1 hF_2_2 hF_4_0 hK hP hD hS hl
    by_cases k_24 : y0 = 24
    · subst k_24
      refine lv_tableIn (off := 875) (tgt := 908) hx hb dL_law_33 (by decide) (by decide) (by decide) (by decide) ?_
      exact lw_c24 hx hb hr hml hown hts hX hbl hlocks hAd hA hbA hsc1 hsc2 hsc3 hsc4 hsc5 hF_2_0 hF_2_1 hF_2_2 hF_4_0 hK hP hD hS hl
    by_cases k_25 : y0 = 25
    · subst k_25
      refine lv_tableIn (off := 908) (tgt := 941) hx hb dL_law_33 (by decide) (by decide) (by decide) (by decide) ?_
      exact lw_c25 hx hb hr hml hown hts hX hbl hlocks hAd hA hbA hsc1 hsc2 hsc3 hsc4 hsc5 hF_2_0 hF_2_1 hF_2_2 hF_4_0 hK hP hD hS hl
    by_cases k_26 : y0 = 26
    · subst k_26
      refine lv_tableIn (off := 971) (tgt := 1004) hx hb dL_law_33 (by decide) (by decide) (by decide) (by decide) ?_
      exact lw_c26 hx hb hr hml hown hts hX hbl hlocks hAd hA hbA hsc1 hsc2 hsc3 hsc4 hsc5 hF_2_0 hF_2_1 hF_2_2 hF_4_0 hK hP hD hS hl
    by_cases k_27 : y0 = 27
    · subst k_27
      refine lv_tableIn (off := 1034) (tgt := 1067) hx hb dL_law_33 (by decide) (by decide) (by decide) (by decide) ?_
      exact lw_c27 hx hb hr hml hown hts hX hbl hlocks hAd hA hbA hsc1 hsc2 hsc3 hsc4 hsc5 hF_2_0 hF_2_1 hF_2_2 hF_4_0 hK hP hD hS hl
    by_cases k_28 : y0 = 28
    · subst k_28
      refine lv_tableIn (off := 1088) (tgt := 1121) hx hb dL_law_33 (by decide) (by decide) (by decide) (by decide) ?_
      exact lw_c28 hx hb hr hml hown hts hX hbl hlocks hAd hA hbA hsc1 hsc2 hsc3 hsc4 hsc5 hF_2_0 hF_2_1 hF_2_2 hF_4_0 hK hP hD hS hl
    by_cases k_29 : y0 = 29
    · subst k_29
      refine lv_tableIn (off := 1131) (tgt := 1164) hx hb dL_law_33 (by decide) (by decide) (by decide) (by decide) ?_
      exact lw_c29 hx hb hr hml hown hts hX hbl hlocks hAd hA hbA hsc1 hsc2 hsc3 hsc4 hsc5 hF_2_0 hF_2_1 hF_2_2 hF_4_0 hK hP hD hS hl
    by_cases k_30 : y0 = 30
    · subst k_30
      refine lv_tableIn (off := 1154) (tgt := 1187) hx hb dL_law_33 (by decide) (by decide) (by decide) (by decide) ?_
      exact lw_c30 hx hb hr hml hown hts hX hbl hlocks hAd hA hbA hsc1 hsc2 hsc3 hsc4 hsc5 hF_2_0 hF_2_1 hF_2_2 hF_4_0 hK hP hD hS hl
    by_cases k_31 : y0 = 31
    · subst k_31
      refine lv_tableIn (off := 1177) (tgt := 1210) hx hb dL_law_33 (by decide) (by decide) (by decide) (by decide) ?_
      exact lw_c31 hx hb hr hml hown hts hX hbl hlocks hAd hA hbA hsc1 hsc2 hsc3 hsc4 hsc5 hF_2_0 hF_2_1 hF_2_2 hF_4_0 hK hP hD hS hl
    by_cases k_32 : y0 = 32
    · subst k_32
      refine lv_tableIn (off := 1200) (tgt := 1233) hx hb dL_law_33 (by decide) (by decide) (by decide) (by decide) ?_
      exact lw_c32 hx hb hr hml hown hts hX hbl hlocks hAd hA hbA hsc1 hsc2 hsc3 hsc4 hsc5 hF_2_0 hF_2_1 hF_2_2 hF_4_0 hK hP hD hS hl
    by_cases k_33 : y0 = 33
    · subst k_33
      refine lv_tableIn (off := 1233) (tgt := 1266) hx hb dL_law_33 (by decide) (by decide) (by decide) (by decide) ?_
      exact lw_c33 hx hb hr hml hown hts hX hbl hlocks hAd hA hbA hsc1 hsc2 hsc3 hsc4 hsc5 hF_2_0 hF_2_1 hF_2_2 hF_4_0 hK hP hD hS hl
    by_cases k_34 : y0 = 34
    · subst k_34
      refine lv_tableIn (off := 1266) (tgt := 1299) hx hb dL_law_33 (by decide) (by decide) (by decide) (by decide) ?_
      exact lw_c34 hx hb hr hml hown hts hX hbl hlocks hAd hA hbA hsc1 hsc2 hsc3 hsc4 hsc5 hF_2_0 hF_2_1 hF_2_2 hF_4_0 hK hP hD hS hl
    by_cases k_35 : y0 = 35
    · subst k_35
      refine lv_tableIn (off := 1289) (tgt := 1322) hx hb dL_law_33 (by decide) (by decide) (by decide) (by decide) ?_
      exact lw_c35 hx hb hr hml hown hts hX hbl hlocks hAd hA hbA hsc1 hsc2 hsc3 hsc4 hsc5 hF_2_0 hF_2_1 hF_2_2 hF_4_0 hK hP hD hS hl
    by_cases k_36 : y0 = 36
    · subst k_36
      refine lv_tableIn (off := 1312) (tgt := 1345) hx hb dL_law_33 (by decide) (by decide) (by decide) (by decide) ?_
      exact lw_c36 hx hb hr hml hown hts hX hbl hlocks hAd hA hbA hsc1 hsc2 hsc3 hsc4 hsc5 hF_2_0 hF_2_1 hF_2_2 hF_4_0 hK hP hD hS hl
    have k_0 := lv_neT k_0 (show (0 : Int32).toInt = 0 from rfl)
    have k_1 := lv_neT k_1 (show (1 : Int32).toInt = 1 from rfl)
    have k_2 := lv_neT k_2 (show (2 : Int32).toInt = 2 from rfl)
    have k_3 := lv_neT k_3 (show (3 : Int32).toInt = 3 from rfl)
    have k_4 := lv_neT k_4 (show (4 : Int32).toInt = 4 from rfl)
    have k_5 := lv_neT k_5 (show (5 : Int32).toInt = 5 from rfl)
    have k_6 := lv_neT k_6 (show (6 : Int32).toInt = 6 from rfl)
    have k_7 := lv_neT k_7 (show (7 : Int32).toInt = 7 from rfl)
    have k_8 := lv_neT k_8 (show (8 : Int32).toInt = 8 from rfl)
    have k_9 := lv_neT k_9 (show (9 : Int32).toInt = 9 from rfl)
    have k_10 := lv_neT k_10 (show (10 : Int32).toInt = 10 from rfl)
    have k_11 := lv_neT k_11 (show (11 : Int32).toInt = 11 from rfl)
    have k_12 := lv_neT k_12 (show (12 : Int32).toInt = 12 from rfl)
    have k_13 := lv_neT k_13 (show (13 : Int32).toInt = 13 from rfl)
    have k_14 := lv_neT k_14 (show (14 : Int32).toInt = 14 from rfl)
    have k_15 := lv_neT k_15 (show (15 : Int32).toInt = 15 from rfl)
    have k_16 := lv_neT k_16 (show (16 : Int32).toInt = 16 from rfl)
    have k_17 := lv_neT k_17 (show (17 : Int32).toInt = 17 from rfl)
    have k_18 := lv_neT k_18 (show (18 : Int32).toInt = 18 from rfl)
    have k_19 := lv_neT k_19 (show (19 : Int32).toInt = 19 from rfl)
    have k_20 := lv_neT k_20 (show (20 : Int32).toInt = 20 from rfl)
    have k_21 := lv_neT k_21 (show (21 : Int32).toInt = 21 from rfl)
    have k_22 := lv_neT k_22 (show (22 : Int32).toInt = 22 from rfl)
    have k_23 := lv_neT k_23 (show (23 : Int32).toInt = 23 from rfl)
    have k_24 := lv_neT k_24 (show (24 : Int32).toInt = 24 from rfl)
    have k_25 := lv_neT k_25 (show (25 : Int32).toInt = 25 from rfl)
    have k_26 := lv_neT k_26 (show (26 : Int32).toInt = 26 from rfl)
    have k_27 := lv_neT k_27 (show (27 : Int32).toInt = 27 from rfl)
    have k_28 := lv_neT k_28 (show (28 : Int32).toInt = 28 from rfl)
    have k_29 := lv_neT k_29 (show (29 : Int32).toInt = 29 from rfl)
    have k_30 := lv_neT k_30 (show (30 : Int32).toInt = 30 from rfl)
    have k_31 := lv_neT k_31 (show (31 : Int32).toInt = 31 from rfl)
    have k_32 := lv_neT k_32 (show (32 : Int32).toInt = 32 from rfl)
    have k_33 := lv_neT k_33 (show (33 : Int32).toInt = 33 from rfl)
    have k_34 := lv_neT k_34 (show (34 : Int32).toInt = 34 from rfl)
    have k_35 := lv_neT k_35 (show (35 : Int32).toInt = 35 from rfl)
    have k_36 := lv_neT k_36 (show (36 : Int32).toInt = 36 from rfl)
    refine lv_tableOut (tgt := 1358) hx hb dL_law_33 (by omega) (by decide) ?_
    exact lw_cd hx hb hr hml hown hts hX hbl hlocks hAd hA hbA hsc1 hsc2 hsc3 hsc4 hsc5 hF_2_0 hF_2_1 hF_2_2 hF_4_0 hK hP hD hS hl
set_option maxHeartbeats 4000000 in
theorem lw_walk (l : Launch) (b : Addr) (xs : List Int32) : MetFree l x (headSpec (Jvm.Cond.code x code maxLocals ret :: tables_1) room_1) (lw_P b xs) (fun _ _ _ _ _ => True) lw_Q := by
  refine MetFree.of_bodyS (code := code) (maxLocals := maxLocals) (ret := ret) (by decide) ?_ ?_
  · intro args s m h hn
    obtain ⟨meth, c, h1, h2, h3, h4, h5, h6, -, -⟩ := Cond.code_spec hn (atoms_spec (ws := Jvm.Cond.code x code maxLocals ret :: tables_1) h _ List.mem_cons_self)
    exact ⟨meth, c, h1, h2, h3, h4, h5, h6⟩
  · intro p e s m args below meth c s₁ B hml0 hP _
    obtain ⟨rfl, hx, hbd, hgv⟩ := hP
    obtain ⟨scr, harrAt, hlist, hof, hsmall⟩ := hx
    obtain ⟨hcb, hkn, -, -⟩ := State.arrayAt?_spec harrAt
    have hown : s.vm.findClass R_law = some m.cls := findClass_of_methodNamed B.named
    have hts0 : ∀ c ∈ (Jvm.Cond.code x code maxLocals ret :: tables_1), c.before #[Value.ref b] s = true := atoms_spec (ws := Jvm.Cond.code x code maxLocals ret :: tables_1) B.pre
    have hts : ∀ w ∈ lw_tbl, w.before #[Value.ref b] s = true := k2_hts_sels lw_privs (fun w hw => hts0 w (List.mem_cons_of_mem _ hw)) lw_privs_ok
    have hml : c.maxLocals = 4 := B.maxLocals_eq (hts0 _ List.mem_cons_self)
    have X₀ : Stand p l e room_1 s m #[Value.ref b] below meth c s₁ [] 0 0 := Stand.of_body B
    have hh0 : s₁.heap = s.heap := by rw [B.state]; rfl
    have hsz : scr.slots.size = xs.length := by rw [← Array.length_toList, hlist, List.length_map]
    have hval : ∀ j : Nat, j < xs.length → scr.slots[j]? = some (.int (xs.getD j 0)) := fun j hj => by
      rw [← Array.getElem?_toList, hlist]
      simp [hj]
    have hbl : b < s.heap.size := (Array.getElem?_eq_some_iff.mp hcb).1
    have hX : va_X b xs.length (fun j => xs.getD j 0) s s.heap := ⟨scr, hcb, hof, hkn, hsz, hval⟩
    have K : W p l e room_1 s m #[Value.ref b] below meth c s₁.heap [] 0 0 (lw_Z below #[Value.ref b] s) (entryFrame m ([Value.ref b] : List Value).toArray 4) := by
      rw [hh0]
      exact whole_start l hbd ⟨B.exec, B.bytes, B.returns, hml, hown, hts, hX, hbl, B.notSynchronized, hgv⟩
    obtain ⟨t, a1, o, b1, b2, b3⟩ := K s₁ rfl X₀
    exact ⟨t, o, a1, b1, b2, b3⟩
theorem lw_pre_spec {args : Array Value} {s : State} (h : (Jvm.Cond.and given_1 narrow_1).before args s = true) (hr : rest_1_c.before args s = true) : ∃ (b : Addr) (xs : List Int32), lw_P b xs args s := by
  have hs := flat_of_before _ h
  have hq := flat_of_before _ hr
  have hc : (Cond.count 1).before args s = true := hs _ (by decide +kernel)
  have harr : (Cond.arrayOf (.arg 0) .int).before args s = true := hs _ (by decide +kernel)
  have hle : (Cond.le (.length (.arg 0)) (.int 6)).before args s = true := hs _ (by decide +kernel)
  have hlen : (Cond.isInt (.length (.arg 0))).before args s = true := hq _ (by decide +kernel)
  have hall : (Cond.all (.arg 0) (.isInt (.elem (.arg 0) (.index 0)))).before args s = true := hq _ (by decide +kernel)
  obtain ⟨b, xs, hb, hx⟩ := State.ints_of_pre rfl harr hlen hall
  have hsm : xs.length < 2 ^ 31 := hx.choose_spec.2.2.2
  have hev : (Term.length (.arg 0)).eval args s none [] s = some (.int xs.length.toInt32) := hx.length_eval hb
  have hv := Cond.le_ints hev (show (Term.int 6).eval args s none [] s = some (.int 6) from rfl)
  have hd : xs.length.toInt32 ≤ 6 := by
    simpa [Cond.before, Cond.holds, hv] using hle
  have hN : xs.length ≤ 6 := (Int32.ofNat_le_ofNat hsm (by decide)).mp (show Int32.ofNat xs.length ≤ Int32.ofNat 6 from hd)
  exact ⟨b, xs, Cond.one_arg hc (show args[0]? = some (.ref b) from hb), hx, hN, h⟩
theorem lw_comes (l : Launch) : Comes l x (Jvm.Cond.code x code maxLocals ret :: tables_1) room_1 (fun tb e args s => Calls_1 tb e args s ∧ rest_1 tb e args s ∧ Pre_1 tb e args s)
    (fun _ _ args s o t => lw_Q args s o t) := by
  intro p e ha hc hk s m args below hf hfit hheap happ hpre
  obtain ⟨b, xs, hP⟩ := lw_pre_spec hpre.2.2 hpre.2.1
  obtain ⟨k, o, h1, h2, h3, hQ⟩ := lw_walk l b xs p e ha hc hk s m args below hf ((Spec.applies_iff_loose hf).mp happ).1 hP trivial
  exact ⟨k, o, h1, h2, h3, hQ⟩
theorem lw_frame {s t : State} {o : Outcome} {args : Array Value} (h : Framed s o t [] 600000 7302250) :
    Framed s o t (fieldLocs frame_1_writes args s ++ arrayLocs frame_1_arrays args s ++ staticLocs frame_1_statics s) 600000 7302250 := h
theorem lw_limb (L : Cond) (hL : ∀ (args : Array Value) (s t : State), L.after args s (.returned (some (.int 1))) t = true) :
    ArmFor flags0 classFile x code maxLocals ret World_1 tables_1 room_1 Calls_1 rest_1 Pre_1
      (fun tb e a s o t => postC L tb e a s o t ∧ Framed s o t (fieldLocs frame_1_writes a s ++ arrayLocs frame_1_arrays a s ++ staticLocs frame_1_statics s) 600000 7302250) := by
  intro l _ _ _ p e ha hc hk s m args below hf hfit hheap happ hpre
  obtain ⟨k, o, h1, h2, h3, rfl, hF⟩ := lw_comes l p e ha hc hk s m args below hf hfit hheap happ hpre
  exact ⟨k, _, h1, h2, h3, hL args s _, lw_frame hF⟩
theorem i_vc : Claimed_1_1 ∧ Claimed_1_2 := ⟨lw_limb limb_1_1 (fun args s t => by simp [limb_1_1, Cond.after, Cond.holds, Cond.value]), lw_limb limb_1_2 (fun args s t => Cond.after_iff.mpr (by
  first | (rw [show limb_1_2 = Cond.eq .result (.int 1) from rfl, Cond.eq_ints (x := 1) (y := 1) rfl rfl]; simp; done) | (simp [limb_1_2, Cond.value, Term.eval]; done)))⟩
