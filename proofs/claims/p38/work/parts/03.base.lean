/-! rows of ours under the walks: loops, arrays of known classes, private constructors -/
section BASE
variable {p : Program} {l : Launch} {e : Env} {R : Room} {s : State} {m : MethodId} {args : Array Value} {below : List Frame} {meth : Method} {c : Code} {H : Heap} {locs : List Loc} {cells slots : Nat} {Q : State → Prop}
variable {cc : ByteArray} {pc : Nat} {ls : Array Slot} {rest : List Value} {D : va_G} {cl : List vw_C} {A : Nat → Prop} {a : Nat} {tys : List (ClassId × FieldType)} {ws : va_W} {H0 : Heap}
/-- a loop whose head is at pc, with a state that goes on by one -/
theorem lp_go {σ : Type} (I : Nat → σ → Heap → List Loc → Array Slot → Prop) (E : Nat)
    (hs : ∀ (i : Nat) (st : σ) (H : Heap) (locs : List Loc) (ls : Array Slot), i < E → I i st H locs ls → (∀ (st2 : σ) (H2 : Heap) (locs2 : List Loc) (ls2 : Array Slot), I (i + 1) st2 H2 locs2 ls2 → W p l e R s m args below meth c H2 locs2 cells slots Q (F0 m pc ls2 [])) → W p l e R s m args below meth c H locs cells slots Q (F0 m pc ls []))
    (hx : ∀ (st : σ) (H : Heap) (locs : List Loc) (ls : Array Slot), I E st H locs ls → W p l e R s m args below meth c H locs cells slots Q (F0 m pc ls []))
    (i : Nat) (hi : i ≤ E) (st : σ) (h : I i st H locs ls) : W p l e R s m args below meth c H locs cells slots Q (F0 m pc ls []) := by
  have key : ∀ (n i : Nat) (st : σ) (H : Heap) (locs : List Loc) (ls : Array Slot), i + n = E → I i st H locs ls → W p l e R s m args below meth c H locs cells slots Q (F0 m pc ls []) := by
    intro n
    induction n with
    | zero =>
      intro i st H locs ls hn h
      have e1 : i = E := by omega
      subst e1
      exact hx st H locs ls h
    | succ n ih =>
      intro i st H locs ls hn h
      exact hs i st H locs ls (by omega) h (fun st2 H2 locs2 ls2 h2 => ih (i + 1) st2 H2 locs2 ls2 (by omega) h2)
  exact key (E - i) i st H locs ls (by omega) h
/-- the same where every turn makes cells -/
theorem lp_goC {σ : Type} (kc ks : Nat → Nat) (I : Nat → σ → Heap → List Loc → Array Slot → Prop) (E : Nat)
    (hs : ∀ (i : Nat) (st : σ) (H : Heap) (locs : List Loc) (ls : Array Slot), i < E → I i st H locs ls → (∀ (st2 : σ) (H2 : Heap) (locs2 : List Loc) (ls2 : Array Slot), I (i + 1) st2 H2 locs2 ls2 → W p l e R s m args below meth c H2 locs2 (kc (i + 1)) (ks (i + 1)) Q (F0 m pc ls2 [])) → W p l e R s m args below meth c H locs (kc i) (ks i) Q (F0 m pc ls []))
    (hx : ∀ (st : σ) (H : Heap) (locs : List Loc) (ls : Array Slot), I E st H locs ls → W p l e R s m args below meth c H locs (kc E) (ks E) Q (F0 m pc ls []))
    (i : Nat) (hi : i ≤ E) (st : σ) (h : I i st H locs ls) : W p l e R s m args below meth c H locs (kc i) (ks i) Q (F0 m pc ls []) := by
  have key : ∀ (n i : Nat) (st : σ) (H : Heap) (locs : List Loc) (ls : Array Slot), i + n = E → I i st H locs ls → W p l e R s m args below meth c H locs (kc i) (ks i) Q (F0 m pc ls []) := by
    intro n
    induction n with
    | zero =>
      intro i st H locs ls hn h
      have e1 : i = E := by omega
      subst e1
      exact hx st H locs ls h
    | succ n ih =>
      intro i st H locs ls hn h
      exact hs i st H locs ls (by omega) h (fun st2 H2 locs2 ls2 h2 => ih (i + 1) st2 H2 locs2 ls2 (by omega) h2)
  exact key (E - i) i st H locs ls (by omega) h
/-- a new int array, of the class that the world's arrays have -/
theorem nw_newI {cI : ClassId} {t0 : Nat} (ht0 : tys[t0]? = some (cI, .int)) (hexec : p.tables.exec = Jvm.exec) (hb : c.code = cc) (harr : (Cond.arrayClass .int).before args s = true) (hK : va_K D cl tys s) (hP : va_P D cl ws H) (hD : va_D A ws) (hS : va_S A H0 H locs) (hA : ∀ q, H0.size ≤ q → A q)
    {n : Int32} {N' : Nat} (hn : ¬ n < 0) (hN : n.toNatClampNeg = N') (hbytes : N' * 4 ≤ 536870912) (hcells : cells + 1 ≤ R.cells) (hslots : slots + N' ≤ R.slots) (hdg : decode cc pc = .ok (.newarray .int, 2))
    (kk : ∀ (q : Nat) (H1 : Heap), va_P D cl (ws ++ [(q, .inl (cI, N', .inl (fun _ => 0)))]) H1 → va_D A (ws ++ [(q, .inl (cI, N', .inl (fun _ => 0)))]) → va_S A H0 H1 locs → W p l e R s m args below meth c H1 locs (cells + 1) (slots + N') Q (F0 m (pc + 2) ls (.ref q :: rest))) : W p l e R s m args below meth c H locs cells slots Q (F0 m pc ls (.int n :: rest)) := by
  refine va_newa (atype := .int) (ty := .int) (a0 := (N', .inl (fun _ => 0))) hexec hb harr rfl hK hP hD hS hA (fun _ => rfl) hn hN hbytes hcells hslots hdg (fun q cA H1 hK1 hP1 hD1 hS1 => ?_)
  have h1 := (hK1.2 tys.length (cA, .int) (by simp)).2
  have h2 := (hK.2 t0 _ ht0).2
  have e1 : cA = cI := Option.some.inj ((va_nm_int h1).symm.trans (va_nm_int h2))
  subst e1
  exact kk q H1 hP1 hD1 hS1
theorem nw_newZ {cZ : ClassId} {t0 : Nat} (ht0 : tys[t0]? = some (cZ, .boolean)) (hexec : p.tables.exec = Jvm.exec) (hb : c.code = cc) (harr : (Cond.arrayClass .boolean).before args s = true) (hK : va_K D cl tys s) (hP : va_P D cl ws H) (hD : va_D A ws) (hS : va_S A H0 H locs) (hA : ∀ q, H0.size ≤ q → A q)
    {n : Int32} {N' : Nat} (hn : ¬ n < 0) (hN : n.toNatClampNeg = N') (hbytes : N' * 1 ≤ 536870912) (hcells : cells + 1 ≤ R.cells) (hslots : slots + N' ≤ R.slots) (hdg : decode cc pc = .ok (.newarray .boolean, 2))
    (kk : ∀ (q : Nat) (H1 : Heap), va_P D cl (ws ++ [(q, .inl (cZ, N', .inl (fun _ => 0)))]) H1 → va_D A (ws ++ [(q, .inl (cZ, N', .inl (fun _ => 0)))]) → va_S A H0 H1 locs → W p l e R s m args below meth c H1 locs (cells + 1) (slots + N') Q (F0 m (pc + 2) ls (.ref q :: rest))) : W p l e R s m args below meth c H locs cells slots Q (F0 m pc ls (.int n :: rest)) := by
  refine va_newa (atype := .boolean) (ty := .boolean) (a0 := (N', .inl (fun _ => 0))) hexec hb harr rfl hK hP hD hS hA (fun _ => rfl) hn hN hbytes hcells hslots hdg (fun q cA H1 hK1 hP1 hD1 hS1 => ?_)
  have h1 := (hK1.2 tys.length (cA, .boolean) (by simp)).2
  have h2 := (hK.2 t0 _ ht0).2
  have e1 : cA = cZ := Option.some.inj ((va_nm_boolean h1).symm.trans (va_nm_boolean h2))
  subst e1
  exact kk q H1 hP1 hD1 hS1
theorem nw_newL {cL : ClassId} {C : String} {t0 : Nat} (ht0 : tys[t0]? = some (cL, .object C)) (hexec : p.tables.exec = Jvm.exec) (hb : c.code = cc) {own : String} {index : Nat} (hown : s.vm.findClass own = some m.cls) (hclink : (Cond.classLink own index C).before args s = true) (hover : va_AO C s) (hK : va_K D cl tys s) (hP : va_P D cl ws H) (hD : va_D A ws) (hS : va_S A H0 H locs) (hA : ∀ q, H0.size ≤ q → A q)
    {n : Int32} {N' : Nat} (hn : ¬ n < 0) (hN : n.toNatClampNeg = N') (hbytes : N' * 4 ≤ 536870912) (hcells : cells + 1 ≤ R.cells) (hslots : slots + N' ≤ R.slots) (hdg : decode cc pc = .ok (.anewarray index, 3))
    (kk : ∀ (q : Nat) (H1 : Heap), va_P D cl (ws ++ [(q, .inl (cL, N', .inr (.inr (.inr (.inr (fun _ => none))))))]) H1 → va_D A (ws ++ [(q, .inl (cL, N', .inr (.inr (.inr (.inr (fun _ => none))))))]) → va_S A H0 H1 locs → W p l e R s m args below meth c H1 locs (cells + 1) (slots + N') Q (F0 m (pc + 3) ls (.ref q :: rest))) : W p l e R s m args below meth c H locs cells slots Q (F0 m pc ls (.int n :: rest)) := by
  refine va_newq hexec hb hown hclink hover hK hP hD hS hA hn hN hbytes hcells hslots hdg (fun q cA H1 hK1 hP1 hD1 hS1 => ?_)
  obtain ⟨_, _, _, _, _, h1⟩ := (hK1.2 tys.length (cA, .object C) (by simp)).2
  obtain ⟨_, _, _, _, _, h2⟩ := (hK.2 t0 _ ht0).2
  have e1 : cA = cL := Option.some.inj (h1.symm.trans h2)
  subst e1
  exact kk q H1 hP1 hD1 hS1
end BASE
/-- what the tables say of private constructors and of arrays of arrays -/
noncomputable def nw_ok (cI cJ : ClassId) (U : State) : Prop := va_AO RX3 U ∧ (∃ kA : Class, U.vm.classes[cJ]? = some kA ∧ kA.kind = .array cI (.array .int)) ∧ va_Nw (.methodLinkNest RX7 18 yX6_init "MillTalk") U ∧ va_Nw (.methodLinkNest RX6 17 yX3_init "MillTalk") U ∧ va_Nw (.methodLinkNest RX7 25 yX3_init "MillTalk") U ∧ va_Nw (.methodLinkNest RX0 15 yX3_init "MillTalk") U ∧ va_Nw (.methodLinkNest RX7 46 yX4_init "MillTalk") U ∧ va_Nw (.methodLinkNest RX4 9 yX3_init "MillTalk") U ∧ va_Nw (.methodLinkNest RX2 17 yX3_init "MillTalk") U ∧ va_Nw (.methodLinkNest RX7 60 yX1_init "MillTalk") U
theorem nw_same {cI cJ : ClassId} {u U : State} (h : u.vm = U.vm) (hN : nw_ok cI cJ u) : nw_ok cI cJ U := by
  obtain ⟨h0, h1, h2, h3, h4, h5, h6, h7, h8, h9⟩ := hN
  refine ⟨va_AO.moved (by rw [h]; exact Vm.Alike.refl _) h0, by rw [← h]; exact h1, va_Nw.same rfl h h2, va_Nw.same rfl h h3, va_Nw.same rfl h h4, va_Nw.same rfl h h5, va_Nw.same rfl h h6, va_Nw.same rfl h h7, va_Nw.same rfl h h8, va_Nw.same rfl h h9⟩
theorem nw_warm {cI cJ : ClassId} {s U : State} (hW : s.WarmedH U.vm) (hN : nw_ok cI cJ s) : nw_ok cI cJ U := by
  obtain ⟨h0, ⟨kA, h1, h1b⟩, h2, h3, h4, h5, h6, h7, h8, h9⟩ := hN
  obtain ⟨k2, hk2, he⟩ := hW.alike.2.2 _ _ h1
  refine ⟨va_AO.moved hW.alike h0, ⟨k2, hk2, by rw [he]; exact h1b⟩, va_Nw.warmM hW h2, va_Nw.warmM hW h3, va_Nw.warmM hW h4, va_Nw.warmM hW h5, va_Nw.warmM hW h6, va_Nw.warmM hW h7, va_Nw.warmM hW h8, va_Nw.warmM hW h9⟩
theorem nw_X7_18 {cI cJ : ClassId} {U : State} (h : nw_ok cI cJ U) : va_Nw (.methodLinkNest RX7 18 yX6_init "MillTalk") U := h.2.2.1
theorem nw_X6_17 {cI cJ : ClassId} {U : State} (h : nw_ok cI cJ U) : va_Nw (.methodLinkNest RX6 17 yX3_init "MillTalk") U := h.2.2.2.1
theorem nw_X7_25 {cI cJ : ClassId} {U : State} (h : nw_ok cI cJ U) : va_Nw (.methodLinkNest RX7 25 yX3_init "MillTalk") U := h.2.2.2.2.1
theorem nw_X0_15 {cI cJ : ClassId} {U : State} (h : nw_ok cI cJ U) : va_Nw (.methodLinkNest RX0 15 yX3_init "MillTalk") U := h.2.2.2.2.2.1
theorem nw_X7_46 {cI cJ : ClassId} {U : State} (h : nw_ok cI cJ U) : va_Nw (.methodLinkNest RX7 46 yX4_init "MillTalk") U := h.2.2.2.2.2.2.1
theorem nw_X4_9 {cI cJ : ClassId} {U : State} (h : nw_ok cI cJ U) : va_Nw (.methodLinkNest RX4 9 yX3_init "MillTalk") U := h.2.2.2.2.2.2.2.1
theorem nw_X2_17 {cI cJ : ClassId} {U : State} (h : nw_ok cI cJ U) : va_Nw (.methodLinkNest RX2 17 yX3_init "MillTalk") U := h.2.2.2.2.2.2.2.2.1
theorem nw_X7_60 {cI cJ : ClassId} {U : State} (h : nw_ok cI cJ U) : va_Nw (.methodLinkNest RX7 60 yX1_init "MillTalk") U := h.2.2.2.2.2.2.2.2.2
/-! numbers -/
theorem w_lt (a b : Int32) : a.toInt64 < b.toInt64 ↔ a < b := by
  rw [Int64.lt_iff_toInt_lt, Int32.lt_iff_toInt_lt, Int32.toInt_toInt64, Int32.toInt_toInt64]
theorem w_le (a b : Int32) : a.toInt64 ≤ b.toInt64 ↔ a ≤ b := by
  rw [Int64.le_iff_toInt_le, Int32.le_iff_toInt_le, Int32.toInt_toInt64, Int32.toInt_toInt64]
theorem i_nlt {a b : Int32} : ¬ a < b ↔ b ≤ a := by
  rw [Int32.lt_iff_toInt_lt, Int32.le_iff_toInt_le]; omega
theorem i_nle {a b : Int32} : ¬ a ≤ b ↔ b < a := by
  rw [Int32.lt_iff_toInt_lt, Int32.le_iff_toInt_le]; omega
theorem in_8 {a : Int32} (h : ¬ (a < 0 ∨ 8 ≤ a)) : vp_in a 8 := by
  have h1 : ¬ a < 0 := fun q => h (Or.inl q)
  have h2 : ¬ 8 ≤ a := fun q => h (Or.inr q)
  rw [Int32.lt_iff_toInt_lt] at h1
  rw [Int32.le_iff_toInt_le] at h2
  rw [vp_in_iff]
  have e1 : (0 : Int32).toInt = 0 := rfl
  have e2 : (8 : Int32).toInt = 8 := rfl
  rw [e1] at h1; rw [e2] at h2
  constructor <;> omega
theorem in_2 {a : Int32} (h : ¬ (a < 0 ∨ 2 ≤ a)) : vp_in a 2 := by
  have h1 : ¬ a < 0 := fun q => h (Or.inl q)
  have h2 : ¬ 2 ≤ a := fun q => h (Or.inr q)
  rw [Int32.lt_iff_toInt_lt] at h1
  rw [Int32.le_iff_toInt_le] at h2
  rw [vp_in_iff]
  have e1 : (0 : Int32).toInt = 0 := rfl
  have e2 : (2 : Int32).toInt = 2 := rfl
  rw [e1] at h1; rw [e2] at h2
  constructor <;> omega
theorem in_lt {a : Int32} {n : Nat} (h : vp_in a n) : a.toNatClampNeg < n := Nat.not_le.mp fun q => h (Or.inr q)
theorem fl_step {f : Nat → Int32} {i : Nat} {v : Int32} (hi : i < 2 ^ 31) (h : ∀ j : Nat, j < i → f j = v) : ∀ j : Nat, j < i + 1 → upd f (nI i).toNatClampNeg v j = v := by
  intro j hj
  rw [nI_clamp hi]
  unfold upd
  split
  · rfl
  · exact h j (by omega)
theorem no_in (x : Int64) : x < 0 ∨ -1 < x := by
  rw [Int64.lt_iff_toInt_lt, Int64.lt_iff_toInt_lt]
  have e1 : (0 : Int64).toInt = 0 := rfl
  have e2 : (-1 : Int64).toInt = -1 := rfl
  rw [e1, e2]
  omega
theorem row64 {a : Int32} : (a.toInt64 < 0 ∨ 7 < a.toInt64) ↔ (a < 0 ∨ 8 ≤ a) := by
  rw [Int64.lt_iff_toInt_lt, Int64.lt_iff_toInt_lt, Int32.lt_iff_toInt_lt, Int32.le_iff_toInt_le, Int32.toInt_toInt64]
  have e1 : (0 : Int64).toInt = 0 := rfl
  have e2 : (7 : Int64).toInt = 7 := rfl
  have e3 : (0 : Int32).toInt = 0 := rfl
  have e4 : (8 : Int32).toInt = 8 := rfl
  rw [e1, e2, e3, e4]
  omega
theorem lane64 {a : Int32} : (a.toInt64 < 0 ∨ 2 < a.toInt64) ↔ (a < 0 ∨ 2 < a) := by
  rw [Int64.lt_iff_toInt_lt, Int64.lt_iff_toInt_lt, Int32.lt_iff_toInt_lt, Int32.lt_iff_toInt_lt, Int32.toInt_toInt64]
  have e1 : (0 : Int64).toInt = 0 := rfl
  have e2 : (2 : Int64).toInt = 2 := rfl
  have e3 : (0 : Int32).toInt = 0 := rfl
  have e4 : (2 : Int32).toInt = 2 := rfl
  rw [e1, e2, e3, e4]
theorem feed64 {a : Int32} : (a.toInt64 < 0 ∨ 255 < a.toInt64) ↔ (a < 0 ∨ ¬ a ≤ 255) := by
  rw [Int64.lt_iff_toInt_lt, Int64.lt_iff_toInt_lt, Int32.lt_iff_toInt_lt, Int32.le_iff_toInt_le, Int32.toInt_toInt64]
  have e1 : (0 : Int64).toInt = 0 := rfl
  have e2 : (255 : Int64).toInt = 255 := rfl
  have e3 : (0 : Int32).toInt = 0 := rfl
  have e4 : (255 : Int32).toInt = 255 := rfl
  rw [e1, e2, e3, e4]
  omega
theorem img64 {a : Int32} : (a.toInt64 < 0 ∨ 1 < a.toInt64) ↔ (a < 0 ∨ ¬ a < 2) := by
  rw [Int64.lt_iff_toInt_lt, Int64.lt_iff_toInt_lt, Int32.lt_iff_toInt_lt, Int32.lt_iff_toInt_lt, Int32.toInt_toInt64]
  have e1 : (0 : Int64).toInt = 0 := rfl
  have e2 : (1 : Int64).toInt = 1 := rfl
  have e3 : (0 : Int32).toInt = 0 := rfl
  have e4 : (2 : Int32).toInt = 2 := rfl
  rw [e1, e2, e3, e4]
  omega
theorem in_2b {a : Int32} (h : ¬ (a.toInt64 < 0 ∨ 1 < a.toInt64)) : vp_in a 2 := by
  rw [img64] at h
  exact in_2 (fun q => h (q.elim Or.inl (fun z => Or.inr (i_nlt.mpr z))))
theorem k_01 {k : Int32} (h1 : ¬ k < 0) (h2 : k < 2) : k = 0 ∨ k = 1 := by
  rw [Int32.lt_iff_toInt_lt] at h1 h2
  have e3 : (0 : Int32).toInt = 0 := rfl
  have e4 : (2 : Int32).toInt = 2 := rfl
  rw [e3] at h1
  rw [e4] at h2
  rcases (show k.toInt = 0 ∨ k.toInt = 1 by omega) with q | q
  · exact Or.inl (Int32.toInt_inj.mp q)
  · exact Or.inr (Int32.toInt_inj.mp q)
theorem in_320 {a v w : Int32} {i : Nat} (ha : ¬ (a < 0 ∨ 8 ≤ a)) (e1 : v = 40 * a) (e2 : w = v + nI i) (hi : i < 40) : vp_in w 320 := by
  obtain ⟨k, hk, rfl⟩ := vp_in_of (in_8 ha) (by decide)
  have e3 : (40 : Int32) * nI k = nI (40 * k) := pk_mul 40 k
  rw [e2, e1, e3, nI_add]
  exact vp_in_nI (by omega) (by decide)
/-! the answers of a first call -/
noncomputable def an_row (a b n : Int32) : Int32 := if (a < 0 ∨ 8 ≤ a) ∨ (b < 0 ∨ 2 < b) ∨ ¬ n ≤ 40 then -1000001 else if 0 ≤ n then n else -1000014
noncomputable def an_set (a : Int32) : Int32 := if a < 0 ∨ 8 ≤ a then -1000001 else -1000011
noncomputable def an_copy (a b : Int32) : Int32 := if (a < 0 ∨ 8 ≤ a) ∨ (b < 0 ∨ 8 ≤ b) then -1000001 else -1000011
noncomputable def an_feed (a : Int32) : Int32 := if a < 0 ∨ ¬ a ≤ 255 then -1000001 else 1
noncomputable def an_image (a : Int32) : Int32 := if a < 0 ∨ ¬ a < 2 then -1000001 else -1000002
noncomputable def an_count (a : Int32) : Int32 := if a = 0 ∨ a = 1 ∨ a = 2 ∨ a = 3 ∨ a = 4 ∨ a = 5 ∨ a = 6 ∨ a = 7 then 0 else -1000001
/-- new int[8][40] -/
noncomputable def nw_rows (cI cJ : ClassId) (q : Nat) : va_W := [(q, .inl (cJ, 8, .inr (.inr (.inr (.inr (fun i => if i < 8 then some (q + 1 + i) else none)))))), ((q + 1 + 0), .inl (cI, 40, .inl (fun _ => 0))), ((q + 1 + 1), .inl (cI, 40, .inl (fun _ => 0))), ((q + 1 + 2), .inl (cI, 40, .inl (fun _ => 0))), ((q + 1 + 3), .inl (cI, 40, .inl (fun _ => 0))), ((q + 1 + 4), .inl (cI, 40, .inl (fun _ => 0))), ((q + 1 + 5), .inl (cI, 40, .inl (fun _ => 0))), ((q + 1 + 6), .inl (cI, 40, .inl (fun _ => 0))), ((q + 1 + 7), .inl (cI, 40, .inl (fun _ => 0)))]
section BASE2
variable {p : Program} {l : Launch} {e : Env} {R : Room} {s : State} {m : MethodId} {args : Array Value} {below : List Frame} {meth : Method} {c : Code} {H : Heap} {locs : List Loc} {cells slots : Nat} {Q : State → Prop}
variable {cc : ByteArray} {pc : Nat} {ls : Array Slot} {rest : List Value} {D : va_G} {cl : List vw_C} {A : Nat → Prop} {a : Nat} {tys : List (ClassId × FieldType)} {ws : va_W} {H0 : Heap}
/-- an item of an array of int arrays -/
theorem nw_ald (hexec : p.tables.exec = Jvm.exec) (hb : c.code = cc) (hK : va_K D cl tys s) (hP : va_P D cl ws H) (q0 t0 : Nat) {cA : ClassId} {n : Nat} {f : Nat → Option Nat} (ha : ws[q0]? = some (a, .inl (cA, n, .inr (.inr (.inr (.inr f)))))) (ht : tys[t0]? = some (cA, .array .int)) {i : Int32} (hin : vp_in i n) (hdg : decode cc pc = .ok (.aaload, 1))
    (kk : W p l e R s m args below meth c H locs cells slots Q (F0 m (pc + 1) ls (va_rf (f i.toNatClampNeg) :: rest))) : W p l e R s m args below meth c H locs cells slots Q (F0 m pc ls (.int i :: .ref a :: rest)) := by
  have hlt : i.toNatClampNeg < n := Nat.not_le.mp fun q => hin (Or.inr q)
  exact W.aald (v := va_rf (f i.toNatClampNeg)) (ty := .array .int) hexec hb (hP q0 _ ha) ((hK.2 t0 _ ht).1 n (fun j => va_rf (f j))) rfl (fun q => by cases q) (by show ¬ (i < 0 ∨ (arrV _ _ _).slots.size ≤ _); rw [arrV_size]; exact hin) (by show (arrV _ _ _).slots[_]? = _; rw [arrV_read _ _ hlt]) rfl rfl hdg kk
theorem nw_alk (hexec : p.tables.exec = Jvm.exec) (hb : c.code = cc) (hK : va_K D cl tys s) (hP : va_P D cl ws H) (q0 t0 : Nat) {cA : ClassId} {n : Nat} {f : Nat → Option Nat} (ha : ws[q0]? = some (a, .inl (cA, n, .inr (.inr (.inr (.inr f)))))) (ht : tys[t0]? = some (cA, .array .int)) {i : Int32} (j : Nat) {y : Nat} (e0 : i = nI j) (hj : j < n) (hn : n < 2147483648) (hy : f j = some y) (hdg : decode cc pc = .ok (.aaload, 1))
    (kk : W p l e R s m args below meth c H locs cells slots Q (F0 m (pc + 1) ls (.ref y :: rest))) : W p l e R s m args below meth c H locs cells slots Q (F0 m pc ls (.int i :: .ref a :: rest)) := by
  subst e0
  refine nw_ald hexec hb hK hP q0 t0 ha ht (vp_in_nI hj hn) hdg ?_
  rw [nI_clamp (by omega), hy]
  exact kk
theorem va_copyN {nl : Nat} {lvs : List (Nat × Value)} (hexec : p.tables.exec = Jvm.exec) (hb : c.code = cc) (hml : c.maxLocals = nl) (hl : lv_has ls nl lvs) {own : String} {index : Nat} (hown : s.vm.findClass own = some m.cls) (hlink : (Cond.methodLink own index arraycopyName).before args s = true) (hnat : (Cond.native arraycopyName).before args s = true) (hstat : (Cond.static arraycopyName).before args s = true) (hini : (Cond.initialized "java/lang/System").before args s = true)
    (hK : va_K D cl tys s) (hP : va_P D cl ws H) (hD : va_D A ws) (hS : va_S A H0 H locs) (q0 q1 : Nat) {a0 : Nat} {c0 c1 : ClassId} {n0 n1 : Nat} {f g : Nat → Int32} (ha0 : ws[q0]? = some (a0, .inl (c0, n0, .inl f))) (ha1 : ws[q1]? = some (a, .inl (c1, n1, .inl g))) (ht0 : tys[0]? = some (c0, .int)) (ht1 : tys[0]? = some (c1, .int))
    {sp dp n : Nat} (h4 : sp + n ≤ n0) (h5 : dp + n ≤ n1) (hb0 : n0 < 2147483648) (hb1 : n1 < 2147483648)
    (hframes : 1 ≤ R.frames) (hlocals : (rest.map fun v => v.category).sum + (nativeFrameWords "java/lang/System" "arraycopy" 5 + 11) ≤ R.locals) (hdg : decode cc pc = .ok (.invokestatic index, 3))
    (kk : ∀ (H1 : Heap) (locs1 : List Loc), va_P D cl (ws.set q1 (a, .inl (c1, n1, .inl (va_cpy f g (nI sp).toNatClampNeg (nI dp).toNatClampNeg (nI n).toNatClampNeg)))) H1 → va_D A (ws.set q1 (a, .inl (c1, n1, .inl (va_cpy f g (nI sp).toNatClampNeg (nI dp).toNatClampNeg (nI n).toNatClampNeg)))) → va_S A H0 H1 locs1 → W p l e R s m args below meth c H1 locs1 cells slots Q (F0 m (pc + 3) ls rest)) : W p l e R s m args below meth c H locs cells slots Q (F0 m pc ls (.int (nI n) :: .int (nI dp) :: .ref a :: .int (nI sp) :: .ref a0 :: rest)) :=
  va_copyi hexec hb (hml.trans hl.1.symm) hown hlink hnat hstat hini hK hP hD hS q0 q1 0 0 ha0 ha1 ht0 ht1 rfl (nI_pos (by omega)) (nI_pos (by omega)) (nI_pos (by omega)) (by rw [nI_clamp (by omega), nI_clamp (by omega)]; exact h4) (by rw [nI_clamp (by omega), nI_clamp (by omega)]; exact h5) (fun _ _ => rfl) hframes hlocals hdg kk
end BASE2
/-! new int[8][40]: the step, out of the model's own words (no row of the kit that the rounds take has it) -/
/-- the outer row with i of its places filled; the inner ones stand behind it -/
noncomputable def mn_o (cJ : ClassId) (h : Nat) : Nat → Cell
  | 0 => { cls := cJ, slots := Array.replicate 8 .null, vm := .none }
  | i + 1 => (mn_o cJ h i).setSlot i (.ref (h + 1 + i))
noncomputable def mn_in (cI : ClassId) : Cell := { cls := cI, slots := Array.replicate 40 (.int 0), vm := .none }
noncomputable def mn_s (S : State) (cI cJ : ClassId) : Nat → State
  | 0 => S.pushCell (mn_o cJ S.heap.size 0)
  | i + 1 => ((mn_s S cI cJ i).pushCell (mn_in cI)).setCell S.heap.size (mn_o cJ S.heap.size (i + 1))
theorem mn_o_at (cJ : ClassId) (h : Nat) : ∀ i : Nat, (mn_o cJ h i).cls = cJ ∧ (mn_o cJ h i).vm = .none ∧ (mn_o cJ h i).slots.size = 8
  | 0 => ⟨rfl, rfl, by simp [mn_o]⟩
  | i + 1 => by
    obtain ⟨h1, h2, h3⟩ := mn_o_at cJ h i
    exact ⟨by simp [mn_o, Cell.setSlot, h1], by simp [mn_o, Cell.setSlot, h2], by simp [mn_o, Cell.setSlot, h3]⟩
/-- what stands in the heap after i inner rows -/
theorem mn_s_at (S : State) (cI cJ : ClassId) : ∀ i : Nat, (mn_s S cI cJ i).heap.size = S.heap.size + 1 + i ∧ (mn_s S cI cJ i).heap[S.heap.size]? = some (mn_o cJ S.heap.size i) ∧ (mn_s S cI cJ i).vm = S.vm ∧ (mn_s S cI cJ i).slotsUsed = S.slotsUsed + 8 + i * 40 ∧ (∀ a : Nat, a < S.heap.size → (mn_s S cI cJ i).heap[a]? = S.heap[a]?) ∧ (∀ j : Nat, j < i → (mn_s S cI cJ i).heap[S.heap.size + 1 + j]? = some (mn_in cI))
  | 0 => ⟨by simp [mn_s], by simp [mn_s], rfl, by simp [mn_s, mn_o], fun a ha => State.heap_pushCell_of_lt _ _ ha, fun j hj => absurd hj (Nat.not_lt_zero j)⟩
  | i + 1 => by
    obtain ⟨h1, h2, h3, h4, h5, h6⟩ := mn_s_at S cI cJ i
    have hlt : S.heap.size < (mn_s S cI cJ i).heap.size := by omega
    have hb : ((mn_s S cI cJ i).pushCell (mn_in cI)).heap[S.heap.size]? = some (mn_o cJ S.heap.size i) := by
      rw [State.heap_pushCell_of_lt (h := hlt)]
      exact h2
    refine ⟨?_, State.heap_setCell_self hb, by simp [mn_s, h3], ?_, fun a ha => ?_, fun j hj => ?_⟩
    · simp [mn_s, State.setCell, h1]
      omega
    · simp [mn_s, h4, mn_in, Nat.succ_mul]
      omega
    · show (((mn_s S cI cJ i).pushCell (mn_in cI)).setCell S.heap.size _).heap[a]? = _
      have hla : a < (mn_s S cI cJ i).heap.size := by omega
      rw [State.heap_setCell_other (Nat.ne_of_gt ha), State.heap_pushCell_of_lt (h := hla)]
      exact h5 a ha
    · show (((mn_s S cI cJ i).pushCell (mn_in cI)).setCell S.heap.size _).heap[S.heap.size + 1 + j]? = _
      rw [State.heap_setCell_other (show S.heap.size ≠ S.heap.size + 1 + j by omega)]
      rcases Nat.lt_or_ge j i with q | q
      · have hlj : S.heap.size + 1 + j < (mn_s S cI cJ i).heap.size := by omega
        rw [State.heap_pushCell_of_lt (h := hlj)]
        exact h6 j q
      · rw [show S.heap.size + 1 + j = (mn_s S cI cJ i).heap.size by omega]
        exact State.heap_pushCell_size _ _
theorem mn_s_top (S : State) (f : JFrame) (cI cJ : ClassId) : ∀ i : Nat, mn_s (S.setTop f) cI cJ i = (mn_s S cI cJ i).setTop f
  | 0 => rfl
  | i + 1 => by simp only [mn_s, mn_s_top S f cI cJ i, State.heap_setTop, State.pushCell_setTop, State.setCell_setTop]
theorem mn_stand {p : Program} {l : Launch} {e : Env} {R : Room} {s : State} {m : MethodId} {args : Array Value} {below : List Frame} {meth : Method} {c : Code} {T : State} {locs : List Loc} {cells slots : Nat} (X : Stand p l e R s m args below meth c T locs cells slots) (cI cJ : ClassId) : ∀ i : Nat, Stand p l e R s m args below meth c (mn_s T cI cJ i) (locs ++ (List.range i).map fun j => ⟨T.heap.size, j⟩) (cells + 1 + i) (slots + 8 + i * 40)
  | 0 => by
    have h := X.pushed (mn_o cJ T.heap.size 0)
    rw [(mn_o_at cJ T.heap.size 0).2.2] at h
    simpa [mn_s] using h
  | i + 1 => by
    have Y := mn_stand X cI cJ i
    obtain ⟨h1, h2, -⟩ := mn_s_at T cI cJ i
    have hlt : T.heap.size < (mn_s T cI cJ i).heap.size := by omega
    have hc : ((mn_s T cI cJ i).pushCell (mn_in cI)).heap[T.heap.size]? = some (mn_o cJ T.heap.size i) := by
      rw [State.heap_pushCell_of_lt (h := hlt)]
      exact h2
    have h := (Y.pushed (mn_in cI)).stored hc i (.ref (T.heap.size + 1 + i))
    have e1 : (mn_in cI).slots.size = 40 := by simp [mn_in]
    rw [e1] at h
    have e2 : (locs ++ (List.range (i + 1)).map fun j => (⟨T.heap.size, j⟩ : Loc)) = (locs ++ (List.range i).map fun j => (⟨T.heap.size, j⟩ : Loc)) ++ [⟨T.heap.size, i⟩] := by simp [List.range_succ, List.append_assoc]
    have e3 : slots + 8 + (i + 1) * 40 = slots + 8 + i * 40 + 40 := by omega
    rw [e2, e3]
    exact h
section MNW
variable {E : CtlPost} {e : Env} {d : Bool} {acts : List Action} {s : State}
theorem mn_new {cA comp : ClassId} {k : Class} {ty : FieldType} {len : Nat} {v : Value} (hk : s.vm.classes[cA]? = some k) (hkind : k.kind = .array comp ty) (hlim : ¬ len > e.platform.arrayLengthLimit) (hheap : ¬ len * componentBytes ty > e.platform.maxHeapBytes) (hfit : fits ty v = true) (hdef : v.isDefault = true) {Q : Addr → Pre}
    (h1 : s.heap.size < e.platform.maxCells) (h2 : s.slotsUsed + len ≤ e.platform.maxSlots) (hq : Q s.heap.size d acts (s.pushCell { cls := cA, slots := Array.replicate len v, vm := .none })) : wp (Jvm.newArray cA len v) Q E e d acts s := by
  have hf : ∀ i w, (Array.replicate len v)[i]? = some w → s.fitsSlot cA .none i w = true := by
    intro i w hw
    simp only [Array.getElem?_replicate] at hw
    split at hw
    · cases hw
      simp [State.fitsSlot, State.slotType?, hk, hkind, hfit]
    · cases hw
  have ha : allocActs (Array.replicate len v) s.heap.size acts = acts := by
    have hall : ((Array.replicate len v).all (·.isDefault)) = true := by
      rw [Array.all_replicate]
      split <;> simp [hdef]
    unfold allocActs
    rw [if_pos hall]
  simp only [Jvm.newArray, Jvm.arrayFits, wp_bind', Jvm.W.ask, Jvm.W.ite, hlim, if_false, wp_pure', Jvm.W.theClass, hk, hkind, hheap, Jvm.W.alloc, Jvm.W.stop, Option.some.injEq, exists_eq_left', Array.size_replicate, ha]
  rw [if_neg (by omega)]
  exact ⟨h1, h2, hf, hq⟩
theorem mn_row {cI cc : ClassId} {k : Class} (hk : s.vm.classes[cI]? = some k) (hkind : k.kind = .array cc .int) (hl : ¬ 40 > e.platform.arrayLengthLimit) (hh : ¬ 40 * componentBytes .int > e.platform.maxHeapBytes) (h1 : s.heap.size < e.platform.maxCells) (h2 : s.slotsUsed + 40 ≤ e.platform.maxSlots) {Q : Addr → Pre} (hq : Q s.heap.size d acts (s.pushCell (mn_in cI))) :
    wp (multianewarray.make cI [40]) Q E e d acts s := by
  rw [multianewarray.make]
  simp only [wp_bind', Jvm.W.ite, show ¬ ((40 : Int32) < 0) by decide, if_false, wp_pure', Jvm.W.theClass, hk, hkind, Option.some.injEq, exists_eq_left', show (40 : Int32).toNatClampNeg = 40 from rfl]
  exact mn_new hk hkind hl hh rfl rfl h1 h2 hq
theorem mn_make {cI cJ cc : ClassId} {kJ kI : Class} (hkJ : s.vm.classes[cJ]? = some kJ) (hJ : kJ.kind = .array cI (.array .int)) (hkI : s.vm.classes[cI]? = some kI) (hI : kI.kind = .array cc .int)
    (hl : ¬ 40 > e.platform.arrayLengthLimit) (hh : ¬ 40 * componentBytes .int > e.platform.maxHeapBytes) (hl8 : ¬ 8 > e.platform.arrayLengthLimit) (hh8 : ¬ 8 * componentBytes (.array .int) > e.platform.maxHeapBytes)
    (h1 : s.heap.size + 9 ≤ e.platform.maxCells) (h2 : s.slotsUsed + 328 ≤ e.platform.maxSlots) {Q : Addr → Pre} (hq : ∀ d' acts', Q s.heap.size d' acts' (mn_s s cI cJ 8)) : wp (multianewarray.make cJ [8, 40]) Q E e d acts s := by
  have hfind : (([40] : List Int32).find? (· < 0)) = none := by decide
  rw [multianewarray.make]
  simp only [wp_bind', Jvm.W.ite, show ¬ ((8 : Int32) < 0) by decide, if_false, wp_pure', Jvm.W.theClass, hkJ, hJ, Option.some.injEq, exists_eq_left', show (8 : Int32).toNatClampNeg = 8 from rfl]
  refine mn_new hkJ hJ hl8 hh8 rfl rfl (by omega) (by omega) ?_
  simp only [hfind]
  rw [ite_self, wp_bind', Std.Legacy.Range.forIn_eq_forIn_range']
  have hsz : ([:8] : Std.Legacy.Range).size = 8 := by simp [Std.Legacy.Range.size]
  rw [hsz]
  show wp (forIn (List.range' 0 8 1) PUnit.unit _) _ E e d acts _
  refine wp_forIn_inv (fun rest s' => ∃ i, i ≤ 8 ∧ rest = List.range' i (8 - i) ∧ s' = mn_s s cI cJ i) _ _ ⟨0, by omega, rfl, rfl⟩ ?_ ?_
  · rintro x rest s' d' acts' Q' ⟨i, hi, hl', rfl⟩ hnext
    have hlt : i < 8 := by
      rcases Nat.lt_or_ge i 8 with h | h
      · exact h
      · rw [show 8 - i = 0 by omega] at hl'
        simp at hl'
    obtain ⟨rfl, hrest⟩ : x = i ∧ rest = List.range' (i + 1) (8 - (i + 1)) := by
      rw [show 8 - i = (8 - (i + 1)) + 1 by omega, List.range'_succ] at hl'
      exact ⟨(List.cons.inj hl').1, (List.cons.inj hl').2⟩
    obtain ⟨g1, g2, g3, g4, -, -⟩ := mn_s_at s cI cJ x
    obtain ⟨o1, o2, o3⟩ := mn_o_at cJ s.heap.size x
    simp only [wp_bind']
    refine mn_row (by rw [g3]; exact hkI) hI hl hh (by rw [g1]; omega) (by rw [g4]; omega) ?_
    have hlt0 : s.heap.size < (mn_s s cI cJ x).heap.size := by rw [g1]; omega
    simp only [wp_bind', Jvm.W.writeLoc, wp_pure']
    refine ⟨mn_o cJ s.heap.size x, by rw [State.heap_pushCell_of_lt (h := hlt0)]; exact g2, by rw [o2]; simp, by rw [o3]; exact hlt, ?_, hnext _ _ _ ⟨x + 1, hlt, hrest, ?_⟩⟩
    · rw [o1, o2]
      simp [State.fitsSlot, State.slotType?, g3, hkJ, hJ, fits]
    · rw [g1]
      rfl
  · rintro s' d' acts' ⟨i, hi, hl', rfl⟩
    have hiN : i = 8 := by
      rcases Nat.lt_or_ge i 8 with h | h
      · rw [show 8 - i = (8 - (i + 1)) + 1 by omega, List.range'_succ] at hl'
        cases hl'
      · omega
    subst hiN
    simp only [wp_pure']
    exact hq _ _
end MNW
theorem mn_o_row (cJ : ClassId) (h : Nat) : ∀ i : Nat, mn_o cJ h i = arrV cJ 8 (fun j => va_rf (if j < i then some (h + 1 + j) else none))
  | 0 => by
    show ({ cls := cJ, slots := Array.replicate 8 .null, vm := .none } : Cell) = _
    rw [arrV_new]
    refine congrArg (arrV cJ 8) (funext fun j => ?_)
    simp [va_rf]
  | i + 1 => by
    show (mn_o cJ h i).setSlot i (.ref (h + 1 + i)) = _
    rw [mn_o_row cJ h i, arrV_store]
    refine congrArg (arrV cJ 8) (funext fun j => ?_)
    by_cases q : j = i
    · subst q
      simp [updV, va_rf]
    · by_cases h2 : j < i
      · simp [updV, q, h2, Nat.lt_succ_of_lt h2]
      · simp [updV, q, h2, show ¬ j < i + 1 by omega]
section MNS
variable {p : Program} {l : Launch} {e : Env} {R : Room} {s : State} {m : MethodId} {args : Array Value} {below : List Frame} {meth : Method} {c : Code} {T : State} {locs : List Loc} {cells slots : Nat}
theorem mn_step (X : Stand p l e R s m args below meth c T locs cells slots) (hexec : p.tables.exec = Jvm.exec) {own : String} {index : Nat} (hown : s.vm.findClass own = some m.cls) (hclink : (Cond.classLink own index "[[I").before args s = true) {cI cJ cc : ClassId} {kJ kI : Class} (hcJ : s.vm.findClass "[[I" = some cJ) (hkJ : s.vm.classes[cJ]? = some kJ) (hJ : kJ.kind = .array cI (.array .int)) (hkI : s.vm.classes[cI]? = some kI) (hI : kI.kind = .array cc .int)
    {g : JFrame} (hg : g.method = m) (hdg : decode c.code g.pc = .ok (.multianewarray index 2, 4)) {rest : List Value} (hstack : g.stack = .int 40 :: .int 8 :: rest) (hcells : cells + 9 ≤ R.cells) (hslots : slots + 328 ≤ R.slots) :
    ∃ vm₁ : Vm, Stand p l e R s m args below meth c (mn_s (T.setVm vm₁) cI cJ 8) (locs ++ (List.range 8).map fun j => ⟨T.heap.size, j⟩) (cells + 1 + 8) (slots + 8 + 8 * 40) ∧ ∀ target, Steps p.tables e below ((mn_s (T.setVm vm₁) cI cJ 8).setTop { g with pc := g.pc + 4, stack := .ref T.heap.size :: rest }) target → Steps p.tables e below (T.setTop g) target := by
  subst hg
  have hpl : e.platform.magicAccessors = ({} : Platform).magicAccessors := by rw [X.admits.platform]
  obtain ⟨c0, hfc0, hcl⟩ := Cond.classLink_spec hown hclink e.platform hpl
  cases hcJ.symm.trans hfc0
  obtain ⟨hg₁, hwarm₁, hready₁⟩ := State.classEntry (e := e) X.warmed hcl
  generalize T.vm.noted g.method.cls index (.cls cJ) = vm₁ at hg₁ hwarm₁ hready₁
  have hal : s.vm.Alike vm₁ := hwarm₁.alike
  obtain ⟨kJ₁, hkJ₁, heJ⟩ := hal.2.2 _ _ hkJ
  obtain ⟨kI₁, hkI₁, heI⟩ := hal.2.2 _ _ hkI
  have hJ₁ : kJ₁.kind = .array cI (.array .int) := by rw [heJ]; exact hJ
  have hI₁ : kI₁.kind = .array cc .int := by rw [heI]; exact hI
  have X₁ := X.noted hwarm₁
  obtain ⟨hr1, hr2⟩ := X.roomAbove hcells hslots
  refine ⟨vm₁, mn_stand X₁ cI cJ 8, fun target hrest => ?_⟩
  have hl8 : ¬ 8 > e.platform.arrayLengthLimit := by rw [Launch.admits_arrayLengthLimit X.admits]; omega
  have hl : ¬ 40 > e.platform.arrayLengthLimit := by rw [Launch.admits_arrayLengthLimit X.admits]; omega
  have hh8 : ¬ 8 * componentBytes (.array .int) > e.platform.maxHeapBytes := by
    rw [Launch.admits_maxHeapBytes X.admits]
    decide
  have hh : ¬ 40 * componentBytes .int > e.platform.maxHeapBytes := by
    rw [Launch.admits_maxHeapBytes X.admits]
    decide
  jvm_step X.here [hexec, hdg]
  simp only [multianewarray.sem, wp_bind', Jvm.W.resolveClassAt_links (State.method?_setTop g X.here.top) hg₁]
  rw [Jvm.W.popN, if_neg (by decide)]
  refine ⟨g, State.topJava?_setTop' (s := T.setVm vm₁) g X.here.top, [.int 8, .int 40], rest, rfl, hstack, ?_⟩
  simp only [List.mapM_cons, List.mapM_nil, wp_bind', wp_pure']
  refine mn_make (kJ := kJ₁) (kI := kI₁) (cc := cc) hkJ₁ hJ₁ hkI₁ hI₁ hl hh hl8 hh8 (by show T.heap.size + 9 ≤ _; omega) (by show T.slotsUsed + 328 ≤ _; omega) (fun d' acts' => ?_)
  have XF := mn_stand X₁ cI cJ 8
  have eS : ((T.setTop g).setVm vm₁).setTop { g with stack := rest } = (T.setVm vm₁).setTop { g with stack := rest } := by
    show ((T.setVm vm₁).setTop g).setTop _ = _
    rw [State.setTop_setTop]
  rw [eS, mn_s_top]
  simp only [wp_bind', Jvm.W.mark, Jvm.W.pushRef, State.topJava?_setTop' _ XF.here.top, Option.some.injEq, exists_eq_left', State.setTop_setTop, State.heap_setTop]
  intro acts
  simp [jvm, XF.here.top]
  exact hrest
variable {H : Heap} {Q : State → Prop} {cc : ByteArray} {pc : Nat} {ls : Array Slot} {rest : List Value} {D : va_G} {cl : List vw_C} {A : Nat → Prop} {a : Nat} {tys : List (ClassId × FieldType)} {ws : va_W} {H0 : Heap}
/-- nine new cells behind a world -/
theorem mn_push {H1 : Heap} {cI cJ : ClassId} (hP : va_P D cl ws H) (hD : va_D A ws) (hA : ∀ q, H.size ≤ q → A q) (hold : ∀ q : Nat, q < H.size → H1[q]? = H[q]?) (h0 : H1[H.size]? = some (vp_cell cJ (8, .inr (.inr (.inr (.inr (fun i => if i < 8 then some (H.size + 1 + i) else none))))))) (hin : ∀ j : Nat, j < 8 → H1[H.size + 1 + j]? = some (vp_cell cI (40, .inl (fun _ => 0)))) : va_P D cl (ws ++ nw_rows cI cJ H.size) H1 ∧ va_D A (ws ++ nw_rows cI cJ H.size) := by
  have hP0 : va_P D cl ws H1 := hP.kept (fun k x hx => hold x.1 ((hP k x hx).lt))
  have hn : ∀ (k : Nat) (x : Nat × va_E), (nw_rows cI cJ H.size)[k]? = some x → x.1 = H.size + k ∧ va_at D cl x H1 := by
    intro k x hx
    match k, hx with
    | 0, hx => cases hx; exact ⟨rfl, h0⟩
    | 1, hx => cases hx; exact ⟨by simp, hin 0 (by decide)⟩
    | 2, hx => cases hx; exact ⟨by simp [Nat.add_assoc], hin 1 (by decide)⟩
    | 3, hx => cases hx; exact ⟨by simp [Nat.add_assoc], hin 2 (by decide)⟩
    | 4, hx => cases hx; exact ⟨by simp [Nat.add_assoc], hin 3 (by decide)⟩
    | 5, hx => cases hx; exact ⟨by simp [Nat.add_assoc], hin 4 (by decide)⟩
    | 6, hx => cases hx; exact ⟨by simp [Nat.add_assoc], hin 5 (by decide)⟩
    | 7, hx => cases hx; exact ⟨by simp [Nat.add_assoc], hin 6 (by decide)⟩
    | 8, hx => cases hx; exact ⟨by simp [Nat.add_assoc], hin 7 (by decide)⟩
    | k + 9, hx => simp [nw_rows] at hx
  refine ⟨hP0.app (fun k x hx => (hn k x hx).2), va_D.app hD ⟨fun i j x y hi hj hxy => ?_, fun k x hx => hA _ (by rw [(hn k x hx).1]; omega)⟩ (fun i j x y hx hy hxy => ?_)⟩
  · have h1 := (hn i x hi).1
    have h2 := (hn j y hj).1
    omega
  · have h1 := (hP i x hx).lt
    have h2 := (hn j y hy).1
    omega
theorem nw_mn {cI cJ : ClassId} {t0 t3 : Nat} {own : String} {index : Nat} (ht0 : tys[t0]? = some (cI, .int)) (ht3 : tys[t3]? = some (cJ, .array .int)) (hexec : p.tables.exec = Jvm.exec) (hb : c.code = cc) (hown : s.vm.findClass own = some m.cls) (hclink : (Cond.classLink own index "[[I").before args s = true) (hJ : ∃ kA : Class, s.vm.classes[cJ]? = some kA ∧ kA.kind = .array cI (.array .int)) (hK : va_K D cl tys s) (hP : va_P D cl ws H) (hD : va_D A ws) (hS : va_S A H0 H locs) (hA : ∀ q, H0.size ≤ q → A q)
    (hcells : cells + 9 ≤ R.cells) (hslots : slots + 328 ≤ R.slots) (hdg : decode cc pc = .ok (.multianewarray index 2, 4))
    (kk : ∀ (q : Nat) (H1 : Heap) (locs1 : List Loc), va_P D cl (ws ++ nw_rows cI cJ q) H1 → va_D A (ws ++ nw_rows cI cJ q) → va_S A H0 H1 locs1 → W p l e R s m args below meth c H1 locs1 (cells + 9) (slots + 328) Q (F0 m (pc + 4) ls (.ref q :: rest))) : W p l e R s m args below meth c H locs cells slots Q (F0 m pc ls (.int 40 :: .int 8 :: rest)) := by
  intro T hT X
  subst hb
  obtain ⟨kJ, hkJ, hJk⟩ := hJ
  obtain ⟨-, kI, hkI, c9, hIk⟩ := (hK.2 t0 _ ht0).1 0 (fun _ => .int 0)
  have hcJ : s.vm.findClass "[[I" = some cJ := by
    have h9 : s.vm.findClass ("[" ++ (FieldType.array .int).toString) = some cJ := (hK.2 t3 _ ht3).2
    have e9 : "[" ++ (FieldType.array .int).toString = "[[I" := by decide +kernel
    rw [← e9]
    exact h9
  obtain ⟨vm₁, X1, step⟩ := mn_step X hexec hown hclink hcJ hkJ hJk hkI hIk (g := F0 m pc ls (.int 40 :: .int 8 :: rest)) rfl hdg rfl hcells hslots
  obtain ⟨g1, g2, -, -, g5, g6⟩ := mn_s_at (T.setVm vm₁) cI cJ 8
  have hTh : (T.setVm vm₁).heap = H := hT
  rw [hTh] at g1 g2 g5 g6
  rw [hT] at X1 step
  have hrow : mn_in cI = vp_cell cI (40, .inl (fun _ => 0)) := by
    rw [vp_cell_i]
    exact arrV_new cI 40 (.int 0)
  have hout : mn_o cJ H.size 8 = vp_cell cJ (8, .inr (.inr (.inr (.inr (fun i => if i < 8 then some (H.size + 1 + i) else none))))) := by
    rw [vp_cell_q]
    exact mn_o_row cJ H.size 8
  rw [hout] at g2
  obtain ⟨hP1, hD1⟩ := mn_push hP hD (fun q h => hA q (Nat.le_trans hS.1 h)) g5 g2 (fun j hj => by rw [g6 j hj, hrow])
  have hS1 : va_S A H0 (mn_s (T.setVm vm₁) cI cJ 8).heap (locs ++ (List.range 8).map fun j => ⟨H.size, j⟩) := by
    refine ⟨Nat.le_trans hS.1 (by omega), fun q h1 h2 => (g5 q (Nat.lt_of_lt_of_le h1 hS.1)).trans (hS.2.1 q h1 h2), fun q hq => ?_⟩
    rcases List.mem_append.mp hq with h | h
    · exact hS.2.2 q h
    · obtain ⟨j, -, rfl⟩ := List.mem_map.mp h
      exact hA _ hS.1
  obtain ⟨t, a1, b1⟩ := kk H.size _ _ hP1 hD1 hS1 (mn_s (T.setVm vm₁) cI cJ 8) rfl X1
  exact ⟨t, step t a1, b1⟩
end MNS

/-! rows for the walks of every call: joins, numbers -/
section BASE3
variable {p : Program} {l : Launch} {e : Env} {R : Room} {s : State} {m : MethodId} {args : Array Value} {below : List Frame} {meth : Method} {c : Code} {H : Heap} {locs : List Loc} {cells slots : Nat} {Q : State → Prop}
/-- ways that come together -/
theorem jn {σ : Type} {g : JFrame} (I : σ → Heap → List Loc → JFrame → Prop) (k : ∀ (st : σ) (H : Heap) (locs : List Loc) (g : JFrame), I st H locs g → W p l e R s m args below meth c H locs cells slots Q g)
    (h : (∀ (st : σ) (H : Heap) (locs : List Loc) (g : JFrame), I st H locs g → W p l e R s m args below meth c H locs cells slots Q g) → W p l e R s m args below meth c H locs cells slots Q g) : W p l e R s m args below meth c H locs cells slots Q g := h k
end BASE3
theorem in_of {x : Int32} {n : Nat} (h1 : ¬ x < 0) (h2 : ¬ nI n ≤ x) (hn : n < 2 ^ 31) : vp_in x n := by
  rw [vp_in_iff]
  rw [Int32.lt_iff_toInt_lt] at h1
  rw [Int32.le_iff_toInt_le, nI_toInt hn] at h2
  have e1 : (0 : Int32).toInt = 0 := rfl
  rw [e1] at h1
  constructor <;> omega
theorem in_nat {k n : Nat} (h : vp_in (nI k) n) (hk : k < 2 ^ 31) : k < n := by
  have h1 := (vp_in_iff.mp h).2
  rw [nI_toInt hk] at h1
  omega
/-- a number between 0 and n, by its tests -/
theorem nat_of {x : Int32} {n : Nat} (h1 : 0 ≤ x.toInt) (h2 : x.toInt < n) (hn : n < 2 ^ 31) : ∃ j : Nat, j < n ∧ x = nI j := vp_in_of (vp_in_iff.mpr ⟨h1, h2⟩) hn
/-- parts of a world, once for all three -/
theorem dto {D : va_G} {cl : List vw_C} {ws : va_W} {H : Heap} {A : Nat → Prop} (_ : va_P D cl ws H) (h : va_D A ws) : va_D A ws := h
theorem fm_of {α : Type} {f : Nat → Option α} : ∀ {is : List Nat} {wc : List α}, is.map f = wc.map some → is.filterMap f = wc
  | [], [], _ => rfl
  | [], _ :: _, h => by cases h
  | _ :: _, [], h => by cases h
  | i :: is, a :: b, h => by
    rw [List.map_cons, List.map_cons] at h
    have h1 := (List.cons.inj h).1
    have h2 := fm_of (List.cons.inj h).2
    simp only [List.filterMap_cons, h1, h2]
theorem cut2 {D : va_G} {cl : List vw_C} {ws wc : va_W} {H : Heap} {A : Nat → Prop} (hP : va_P D cl ws H) (hD : va_D A ws) (is : List Nat) (hn : va_nd is = true) (hs : is.map (fun i => ws[i]?) = wc.map some) : va_P D cl wc H ∧ va_D A wc := ⟨hP.sub is (fm_of hs), hD.sub is hn hs⟩
theorem cut2P {D : va_G} {cl : List vw_C} {X cx pl : va_W} {H : Heap} {A : Nat → Prop} (hP : va_P D cl (X ++ pl) H) (hD : va_D A (X ++ pl)) (is : List Nat) (hn : va_nd is = true) (hs : is.map (fun i => X[i]?) = cx.map some) : va_P D cl (cx ++ pl) H ∧ va_D A (cx ++ pl) := ⟨hP.part is hs, hD.part is hn hs⟩
theorem cutW {D : va_G} {cl : List vw_C} {ws wc : va_W} {H0 H : Heap} {A : Nat → Prop} {locs : List Loc} (hP : va_P D cl ws H) (hD : va_D A ws) (hS : va_S A H0 H locs) (hA : ∀ q, H0.size ≤ q → A q) (is : List Nat) (hn : va_nd is = true) (hs : is.map (fun i => ws[i]?) = wc.map some) : va_P D cl wc H ∧ va_D A wc ∧ ∀ q, va_A wc H.size q → A q := ⟨hP.sub is (fm_of hs), hD.sub is hn hs, va_free hD hS hA is hs⟩
theorem cutP {D : va_G} {cl : List vw_C} {X cx pl : va_W} {H0 H : Heap} {A : Nat → Prop} {locs : List Loc} (hP : va_P D cl (X ++ pl) H) (hD : va_D A (X ++ pl)) (hS : va_S A H0 H locs) (hA : ∀ q, H0.size ≤ q → A q) (is : List Nat) (hn : va_nd is = true) (hs : is.map (fun i => X[i]?) = cx.map some) : va_P D cl (cx ++ pl) H ∧ va_D A (cx ++ pl) ∧ ∀ q, va_A (cx ++ pl) H.size q → A q := ⟨hP.part is hs, hD.part is hn hs, va_freeP hD hS hA is hs⟩
/-- what a call finds ready, one lemma a shape -/
theorem va_Ht {D : va_G} {cl : List vw_C} {w : va_W} {H : Heap} {t : State} (e : t.heap = H) (h : va_P D cl w H) : va_P D cl w t.heap := by rw [e]; exact h
theorem pvW {D : va_G} {cl : List vw_C} {tys : List (ClassId × FieldType)} {s : State} {H : Heap} {ws wc : va_W} {A : Nat → Prop} {As : List Value} {a : Nat} {C : String} {x : u_T × Nat} {fs : List Value} (ci q0 : Nat) (hK : va_K D cl tys s) (hP : va_P D cl ws H) (h1 : cl[ci]? = some (C, x)) (h2 : ws[q0]? = some (a, .inr (ci, fs))) (hc : va_P D cl wc H ∧ va_D A wc ∧ ∀ q, va_A wc H.size q → A q) : PreV s H C a (va_Pc (.ref a :: As) (fun U => U.heap.size = H.size ∧ va_P D cl wc U.heap ∧ va_K D cl tys U ∧ va_D (fun _ => True) wc)) As :=
  ⟨fun a U g mk q => ⟨q.1, q.2.1, q.2.2.1, va_K.moved (u := U) (U := U.calling g mk a) (Vm.Alike.refl U.vm) q.2.2.2.1, q.2.2.2.2⟩, va_recv (ci := ci) (q0 := q0) hK hP h1 h2, fun U hU hW => ⟨rfl, by rw [hU], by rw [hU]; exact hc.1, va_K.moved hW.alike hK, hc.2.1.weaken (fun _ _ _ _ => trivial)⟩⟩
theorem psW {D : va_G} {cl : List vw_C} {tys : List (ClassId × FieldType)} {s : State} {H : Heap} {wc : va_W} {A : Nat → Prop} {As : List Value} (hK : va_K D cl tys s) (hc : va_P D cl wc H ∧ va_D A wc ∧ ∀ q, va_A wc H.size q → A q) : PreS s H (va_Pc As (fun U => U.heap.size = H.size ∧ va_P D cl wc U.heap ∧ va_K D cl tys U ∧ va_D (fun _ => True) wc)) As :=
  ⟨fun a U g mk q => ⟨q.1, q.2.1, q.2.2.1, va_K.moved (u := U) (U := U.calling g mk a) (Vm.Alike.refl U.vm) q.2.2.2.1, q.2.2.2.2⟩, fun U hU hW => ⟨rfl, by rw [hU], by rw [hU]; exact hc.1, va_K.moved hW.alike hK, hc.2.1.weaken (fun _ _ _ _ => trivial)⟩⟩
theorem pvP {D : va_G} {cl : List vw_C} {tys : List (ClassId × FieldType)} {s : State} {H : Heap} {ws wc : va_W} {As : List Value} {a : Nat} {C : String} {x : u_T × Nat} {fs : List Value} (ci q0 : Nat) (hK : va_K D cl tys s) (hP : va_P D cl ws H) (h1 : cl[ci]? = some (C, x)) (h2 : ws[q0]? = some (a, .inr (ci, fs))) (hc : va_P D cl wc H) : PreV s H C a (va_Pc (.ref a :: As) (fun U => va_P D cl wc U.heap ∧ va_K D cl tys U)) As :=
  ⟨fun a U g mk q => ⟨q.1, q.2.1, va_K.moved (u := U) (U := U.calling g mk a) (Vm.Alike.refl U.vm) q.2.2⟩, va_recv (ci := ci) (q0 := q0) hK hP h1 h2, fun U hU hW => ⟨rfl, by rw [hU]; exact hc, va_K.moved hW.alike hK⟩⟩
theorem psP {D : va_G} {cl : List vw_C} {tys : List (ClassId × FieldType)} {s : State} {H : Heap} {wc : va_W} {As : List Value} (hK : va_K D cl tys s) (hc : va_P D cl wc H) : PreS s H (va_Pc As (fun U => va_P D cl wc U.heap ∧ va_K D cl tys U)) As :=
  ⟨fun a U g mk q => ⟨q.1, q.2.1, va_K.moved (u := U) (U := U.calling g mk a) (Vm.Alike.refl U.vm) q.2.2⟩, fun U hU hW => ⟨rfl, by rw [hU]; exact hc, va_K.moved hW.alike hK⟩⟩
noncomputable abbrev xI (a : Nat) (c : ClassId) (n : Nat) (f : Nat → Int32) : Nat × va_E := (a, Sum.inl (c, n, Sum.inl f))
noncomputable abbrev xJ (a : Nat) (c : ClassId) (n : Nat) (f : Nat → Option Nat) : Nat × va_E := (a, Sum.inl (c, n, Sum.inr (Sum.inr (Sum.inr (Sum.inr f)))))
noncomputable abbrev xo_0_rii (a : Nat) (v0 : Nat) (v1 : Int32) (v2 : Int32) : Nat × va_E := (a, Sum.inr (0, [Value.ref v0, Value.int v1, Value.int v2]))
noncomputable abbrev xo_1_riiiii (a : Nat) (v0 : Nat) (v1 : Int32) (v2 : Int32) (v3 : Int32) (v4 : Int32) (v5 : Int32) : Nat × va_E := (a, Sum.inr (1, [Value.ref v0, Value.int v1, Value.int v2, Value.int v3, Value.int v4, Value.int v5]))
noncomputable abbrev xo_2_riiiii (a : Nat) (v0 : Nat) (v1 : Int32) (v2 : Int32) (v3 : Int32) (v4 : Int32) (v5 : Int32) : Nat × va_E := (a, Sum.inr (2, [Value.ref v0, Value.int v1, Value.int v2, Value.int v3, Value.int v4, Value.int v5]))
noncomputable abbrev xo_3_iiiiiiiirrrrr (a : Nat) (v0 : Int32) (v1 : Int32) (v2 : Int32) (v3 : Int32) (v4 : Int32) (v5 : Int32) (v6 : Int32) (v7 : Int32) (v8 : Nat) (v9 : Nat) (v10 : Nat) (v11 : Nat) (v12 : Nat) : Nat × va_E := (a, Sum.inr (3, [Value.int v0, Value.int v1, Value.int v2, Value.int v3, Value.int v4, Value.int v5, Value.int v6, Value.int v7, Value.ref v8, Value.ref v9, Value.ref v10, Value.ref v11, Value.ref v12]))
noncomputable abbrev xo_4_rri (a : Nat) (v0 : Nat) (v1 : Nat) (v2 : Int32) : Nat × va_E := (a, Sum.inr (4, [Value.ref v0, Value.ref v1, Value.int v2]))
noncomputable abbrev xo_5_rrr (a : Nat) (v0 : Nat) (v1 : Nat) (v2 : Nat) : Nat × va_E := (a, Sum.inr (5, [Value.ref v0, Value.ref v1, Value.ref v2]))
noncomputable abbrev xo_6_ririii (a : Nat) (v0 : Nat) (v1 : Int32) (v2 : Nat) (v3 : Int32) (v4 : Int32) (v5 : Int32) : Nat × va_E := (a, Sum.inr (6, [Value.ref v0, Value.int v1, Value.ref v2, Value.int v3, Value.int v4, Value.int v5]))
noncomputable abbrev xo_7_rrrrrrrrrii (a : Nat) (v0 : Nat) (v1 : Nat) (v2 : Nat) (v3 : Nat) (v4 : Nat) (v5 : Nat) (v6 : Nat) (v7 : Nat) (v8 : Nat) (v9 : Int32) (v10 : Int32) : Nat × va_E := (a, Sum.inr (7, [Value.ref v0, Value.ref v1, Value.ref v2, Value.ref v3, Value.ref v4, Value.ref v5, Value.ref v6, Value.ref v7, Value.ref v8, Value.int v9, Value.int v10]))
noncomputable abbrev xo_8_rrriirrriiiiiiirrirrrrri (a : Nat) (v0 : Nat) (v1 : Nat) (v2 : Nat) (v3 : Int32) (v4 : Int32) (v5 : Nat) (v6 : Nat) (v7 : Nat) (v8 : Int32) (v9 : Int32) (v10 : Int32) (v11 : Int32) (v12 : Int32) (v13 : Int32) (v14 : Int32) (v15 : Nat) (v16 : Nat) (v17 : Int32) (v18 : Nat) (v19 : Nat) (v20 : Nat) (v21 : Nat) (v22 : Nat) (v23 : Int32) : Nat × va_E := (a, Sum.inr (8, [Value.ref v0, Value.ref v1, Value.ref v2, Value.int v3, Value.int v4, Value.ref v5, Value.ref v6, Value.ref v7, Value.int v8, Value.int v9, Value.int v10, Value.int v11, Value.int v12, Value.int v13, Value.int v14, Value.ref v15, Value.ref v16, Value.int v17, Value.ref v18, Value.ref v19, Value.ref v20, Value.ref v21, Value.ref v22, Value.int v23]))
