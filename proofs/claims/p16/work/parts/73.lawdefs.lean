/-! THE CLAIM OUT OF ONE WALK OF THE LAW'S BODY. Your part is whole_start (and what it stands on); all else here is the same for every law, but numbers. -/
noncomputable def R_law : String := "MillTalkLaw"
noncomputable def lw_P (b : Addr) (xs : List Int32) (args : Array Value) (s : State) : Prop := args = #[.ref b] ∧ s.IntsAt b xs ∧ xs.length ≤ 3072 ∧ (Jvm.Cond.and given_1 narrow_1).before args s = true
noncomputable def lw_Q (_ : Array Value) (s : State) (o : Outcome) (t : State) : Prop := o = .returned (some (.int 1)) ∧ Framed s o t [] 600000 7302250
noncomputable def lw_Z (below : List Frame) (a : Array Value) (s : State) : State → Prop := fun t => ∃ o, t.status = .running ∧ Ended t below o ∧ lw_Q a s o t
/-- the law's own end, with 1 on the stack, nothing written that was there before, its room as the claim has it -/
theorem lw_ret {p : Program} {l : Launch} {e : Env} {s : State} {m : MethodId} {below : List Frame} {meth : Method} {c : Code} {b : Nat} (hx : p.tables.exec = Jvm.exec) (hb : c.code = code) (hr : meth.sig.returnType = ret) (hlocks : meth.locks = false) {pc : Nat} {H : Heap} {ls : Array Slot} (hdg : decode code pc = .ok (.ireturn, 1)) : W p l e room_1 s m #[Value.ref b] below meth c H [] 600000 7302250 (lw_Z below #[Value.ref b] s) (F0 m pc ls [.int 1]) := by
  intro T hT X
  obtain ⟨fs, hret, hrun, hended, hW, hframe⟩ := X.leave (v := some (.int 1)) (hlocks := hlocks) (fun h => by rw [hr] at h; cases h)
  have hmeth' : T.vm.method? m = some meth := X.method'
  refine ⟨T.setFrames fs, ?_, .returned (some (.int 1)), hrun, hended, rfl, ⟨_, rfl⟩, hW, hframe⟩
  jvm_step X.here [X.here.top, hx, hb, hdg, hmeth', hr, ret, narrow_b1]
  (try refine ⟨rfl, ?_⟩); (try refine ⟨rfl, ?_⟩)
  first | (intro acts; rw [hret _ acts rfl rfl rfl]) | rw [hret _ _ rfl rfl rfl]
  exact Steps.refl _
/-- what holds at the law's entry: the machine, the code, the tables' words (any of lw_tbl by 'hts w (by decide +kernel)'), the script of L ints xs at the cell b, what the Statement gives of the start (any of its parts by flat_of_before) -/
noncomputable def lw_At (p : Program) (s : State) (m : MethodId) (meth : Method) (c : Code) (b L : Nat) (xs : Nat → Int32) : Prop :=
  p.tables.exec = Jvm.exec ∧ c.code = code ∧ meth.sig.returnType = ret ∧ c.maxLocals = 4 ∧ s.vm.findClass R_law = some m.cls ∧ (∀ w ∈ lw_tbl, w.before #[Value.ref b] s = true) ∧ va_X b L xs s s.heap ∧ b < s.heap.size ∧ meth.locks = false ∧ (Jvm.Cond.and given_1 narrow_1).before #[Value.ref b] s = true
theorem sc_in {i L j : Nat} {v : Int32} (hv : v = nI j) (hj : j < 6) (hi : 6 * i + 6 ≤ L) (hL : L ≤ 3072) : vp_in (nI (6 * i) + v) L := by
  rw [hv, nI_add]
  exact vp_in_nI (by omega) (by omega)
theorem sc_sub {L : Nat} (h : 6 ≤ L) : nI L - 6 = nI (L - 6) := by
  have e1 : nI L = nI (L - 6) + 6 := by
    rw [show (6 : Int32) = nI 6 from rfl, nI_add, show L - 6 + 6 = L by omega]
  rw [e1, Int32.add_sub_cancel]
theorem sc_go {i L : Nat} (hi : 6 * i + 6 ≤ L) (hL : L ≤ 3072) : ¬ nI L - 6 < nI (6 * i) := by
  rw [sc_sub (by omega)]
  exact nI_nlt (by omega) (by omega)
theorem sc_stop {i L : Nat} (hi : L < 6 * i + 6) (h0 : 6 * i ≤ L) (hL : L ≤ 3072) : nI L - 6 < nI (6 * i) := by
  rcases Nat.lt_or_ge L 6 with h | h
  · have h1 : nI L - nI 6 < 0 := pk_sneg (by decide) h
    have h2 : ¬ nI (6 * i) < 0 := nI_pos (by omega)
    have h3 : i = 0 := by omega
    rw [h3]
    exact h1
  · rw [sc_sub h]
    exact nI_lt (by omega) (by omega)
theorem pvL {dC : Nat → ClassId} {dI : Nat → Nat → Nat} {tys : List (ClassId × FieldType)} {s : State} {H : Heap} {A : Nat → Prop} {locs : List Loc} {ws yr : va_W} {As : List Value} {a : Nat} {C : String} {x : u_T × Nat} {fs : List Value} (ci : Nat) (hK : va_K (dC, dI) vwCl tys s) (hP : va_P (dC, dI) vwCl (ws ++ yr) H) (hD : va_D A (ws ++ yr)) (hst : stt A s s.heap) (hS : va_S A s.heap H locs) (hF : ∀ q, va_A ws H.size q → A q) (h1 : vwCl[ci]? = some (C, x)) (h2 : (ws ++ yr)[0]? = some (a, .inr (ci, fs))) : PreV s H C a (va_Pc (.ref a :: As) (wpx dC dI tys H.size ws)) As :=
  ⟨fun a U g mk q => ⟨q.1, q.2.1, q.2.2.1, va_K.moved (u := U) (U := U.calling g mk a) (Vm.Alike.refl U.vm) q.2.2.2.1, q.2.2.2.2.1, stt_same rfl q.2.2.2.2.2⟩, va_recv (ci := ci) (q0 := 0) hK hP h1 h2, fun U hU hW => ⟨rfl, by rw [hU], by rw [hU]; exact lfP hP, va_K.moved hW.alike hK, (lfD hD).weaken (fun _ _ _ _ => trivial), by rw [hU]; exact stt_warm hW (stt_narrow (stt_kept hst hS.2.1) hF)⟩⟩
theorem fr_l {A : Nat → Prop} {a b : va_W} {H0 H : Heap} {locs : List Loc} (hD : va_D A (a ++ b)) (hS : va_S A H0 H locs) (hA : ∀ q, H0.size ≤ q → A q) : ∀ q, va_A a H.size q → A q := va_freeP (X := []) (cx := []) (pl := a) (lfD hD) hS hA [] rfl
noncomputable def LCx (p : Program) (s : State) (m : MethodId) (meth : Method) (c : Code) (b L : Nat) (xs : Nat → Int32) (dC : Nat → ClassId) (dI : Nat → Nat → Nat) (cI cZ cL cJ : ClassId) (A : Nat → Prop) : Prop := p.tables.exec = Jvm.exec ∧ c.code = code ∧ meth.sig.returnType = ret ∧ c.maxLocals = 4 ∧ s.vm.findClass RL = some m.cls ∧ (∀ w ∈ wsL_law, w.before #[Value.ref b] s = true) ∧ va_X b L xs s s.heap ∧ b < s.heap.size ∧ meth.locks = false ∧ (A = fun q => s.heap.size ≤ q) ∧ (∀ q : Nat, s.heap.size ≤ q → A q) ∧ ¬ A b ∧ va_K (dC, dI) vwCl [(cI, .int), (cZ, .boolean), (cL, .object RX3), (cJ, .array .int)] s ∧ stt A s s.heap ∧ L ≤ 3072
noncomputable def LIv (dC : Nat → ClassId) (dI : Nat → Nat → Nat) (cI cZ cL cJ : ClassId) (A : Nat → Prop) (s : State) (b x mo : Nat) (i : Nat) (st : va_W × va_W) (H : Heap) (locs : List Loc) (ls : Array Slot) : Prop := (∃ (Rl : Nat → Int32) (Rn : Nat → Int32) (zt : Nat) (Tb : Nat → Int32) (lf : Int32) (Lv : Nat → Int32) (An : Nat) (Ac : Nat → Nat → Int32) (I0 : Nat → Int32) (I1 : Nat → Int32) (Tz : Nat) (Tc : Nat → Int32), okS Lv An Ac I0 I1 ∧ ISX cI cZ cL cJ x Rl Rn zt Tb lf Lv An Ac I0 I1 Tz Tc st.1 ∧ ISM cI cZ cL cJ mo Rl Rn zt Tb lf Lv An Ac I0 I1 Tz Tc st.2) ∧ va_P (dC, dI) vwCl (st.1 ++ st.2) H ∧ va_D A (st.1 ++ st.2) ∧ va_S A s.heap H locs ∧ lv_has ls 4 [(3, .int (nI (6 * i))), (2, .ref mo), (1, .ref x), (0, .ref b)]
set_option maxHeartbeats 4000000 in
set_option maxRecDepth 100000 in
theorem isx_hd {cI cZ cL cJ : ClassId} {x : Nat} {Rl : Nat → Int32} {Rn : Nat → Int32} {zt : Nat} {Tb : Nat → Int32} {lf : Int32} {Lv : Nat → Int32} {An : Nat} {Ac : Nat → Nat → Int32} {I0 : Nat → Int32} {I1 : Nat → Int32} {Tz : Nat} {Tc : Nat → Int32} {ws ys : va_W} (h : ISX cI cZ cL cJ x Rl Rn zt Tb lf Lv An Ac I0 I1 Tz Tc ws) : ∃ fs : List Value, (ws ++ ys)[0]? = some (x, .inr (7, fs)) := by
  obtain ⟨_, _, _, _, _, _, _, _, _, _, _, _, _, _, _, _, _, _, _, _, _, _, _, _, _, _, _, _, _, _, _, _, _, rfl, hg, _⟩ := h
  obtain ⟨_, _, rfl, _⟩ := hg
  exact ⟨_, rfl⟩
set_option maxHeartbeats 4000000 in
set_option maxRecDepth 100000 in
theorem ism_hd {cI cZ cL cJ : ClassId} {mo : Nat} {Rl : Nat → Int32} {Rn : Nat → Int32} {zt : Nat} {Tb : Nat → Int32} {lf : Int32} {Lv : Nat → Int32} {An : Nat} {Ac : Nat → Nat → Int32} {I0 : Nat → Int32} {I1 : Nat → Int32} {Tz : Nat} {Tc : Nat → Int32} {ws ys : va_W} (h : ISM cI cZ cL cJ mo Rl Rn zt Tb lf Lv An Ac I0 I1 Tz Tc ws) : ∃ fs : List Value, (ws ++ ys)[0]? = some (mo, .inr (8, fs)) := by
  obtain ⟨_, _, _, _, _, _, _, _, _, _, _, _, _, _, rfl, hg⟩ := h
  obtain ⟨_, _, _, _, _, _, _, _, _, _, rfl, _, _, _, _, _, _, _, _, _, _, _, _, _, _, _, _, _, _, _, _, _, _, _, _, _, _, _, _, _, _, _, _, _, _, _, _, _⟩ := hg
  exact ⟨_, rfl⟩
set_option maxHeartbeats 4000000 in
set_option maxRecDepth 100000 in
theorem lw_tail {p : Program} {l : Launch} {e : Env} {s : State} {m : MethodId} {below : List Frame} {meth : Method} {c : Code} {b L : Nat} {xs : Nat → Int32} {dC : Nat → ClassId} {dI : Nat → Nat → Nat} {cI cZ cL cJ : ClassId} {A : Nat → Prop} {H : Heap} {locs : List Loc} {ls : Array Slot} {x mo i : Nat} {wx wm : va_W} (hC : LCx p s m meth c b L xs dC dI cI cZ cL cJ A) (hi : 6 * i + 6 ≤ L) (hv : LIv dC dI cI cZ cL cJ A s b x mo i (wx, wm) H locs ls) (ih : ∀ (st2 : va_W × va_W) (H2 : Heap) (locs2 : List Loc) (ls2 : Array Slot), LIv dC dI cI cZ cL cJ A s b x mo (i + 1) st2 H2 locs2 ls2 → W p l e room_1 s m #[Value.ref b] below meth c H2 locs2 277 3929 (lw_Z below #[Value.ref b] s) (F0 m 18 ls2 [])) : W p l e room_1 s m #[Value.ref b] below meth c H locs 277 3929 (lw_Z below #[Value.ref b] s) (F0 m 1357 ls []) := by
  obtain ⟨hx, hb, hr, hml, hown, hts, hX, hbl, hlocks, hAd, hA, hbA, hK, hst, hL⟩ := hC
  obtain ⟨hR, hP, hD, hS, hl⟩ := hv
  refine lv_iinc (k := 0) (v := nI (6 * (i + 1))) (lv' := [(3, .int (nI (6 * (i + 1)))), (2, .ref mo), (1, .ref x), (0, .ref b)]) hx hb dL_law_1357 hl rfl (by rw [show Int32.ofInt 6 = nI 6 from rfl, nI_add]; exact congrArg nI (by omega)) (by decide) rfl (fun ls hl => ?_)
  refine lv_goto (tgt := 18) hx hb dL_law_1360 (by decide) ?_
  exact ih (wx, wm) H locs ls ⟨hR, hP, hD, hS, hl⟩

