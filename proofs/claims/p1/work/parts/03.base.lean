/-! rows of ours under the walks: loops, arrays of known classes, private constructors -/
section BASE
variable {p : Program} {l : Launch} {e : Env} {R : Room} {s : State} {m : MethodId} {args : Array Value} {below : List Frame} {meth : Method} {c : Code} {H : Heap} {locs : List Loc} {cells slots : Nat} {Q : State → Prop}
variable {cc : ByteArray} {pc : Nat} {ls : Array Slot} {rest : List Value} {D : va_G} {cl : List vw_C} {A : Nat → Prop} {a : Nat} {tys : List (ClassId × FieldType)} {ws : va_W} {H0 : Heap}
/-- a loop whose head is at pc, with a state that goes on by one -/
theorem lp_go {σ : Type} (I : Nat → σ → Heap → List Loc → Array Slot → Prop) (E : Nat)
    (hs : ∀ (i : Nat) (st : σ) (H : Heap) (locs : List Loc) (ls : Array Slot), i < E → I i st H locs ls → (∀ (st2 : σ) (H2 : Heap) (locs2 : List Loc) (ls2 : Array Slot), I (i + 1) st2 H2 locs2 ls2 → W p l e R s m args below meth c H2 locs2 cells slots Q (F0 m pc ls2 [])) → W p l e R s m args below meth c H locs cells slots Q (F0 m pc ls []))
    (hx : ∀ (st : σ) (H : Heap) (locs : List Loc) (ls : Array Slot), I E st H locs ls → W p l e R s m args below meth c H locs cells slots Q (F0 m pc ls []))
    (i : Nat) (hi : i ≤ E) (st : σ) (h : I i st H locs ls) : W p l e R s m args below meth c H locs cells slots Q (F0 m pc ls []) := by
  have key : ∀ (n i : Nat) (st : σ) (H : Heap) (locs : List Loc) (ls : Array Slot), i + n = E → I i st H locs ls → W p l e R s m args below meth c H locs cells slots Q (F0 m pc ls []) := by
    intro n
    induction n with
    | zero =>
      intro i st H locs ls hn h
      have e1 : i = E := by omega
      subst e1
      exact hx st H locs ls h
    | succ n ih =>
      intro i st H locs ls hn h
      exact hs i st H locs ls (by omega) h (fun st2 H2 locs2 ls2 h2 => ih (i + 1) st2 H2 locs2 ls2 (by omega) h2)
  exact key (E - i) i st H locs ls (by omega) h
/-- the same where every turn makes cells -/
theorem lp_goC {σ : Type} (kc ks : Nat → Nat) (I : Nat → σ → Heap → List Loc → Array Slot → Prop) (E : Nat)
    (hs : ∀ (i : Nat) (st : σ) (H : Heap) (locs : List Loc) (ls : Array Slot), i < E → I i st H locs ls → (∀ (st2 : σ) (H2 : Heap) (locs2 : List Loc) (ls2 : Array Slot), I (i + 1) st2 H2 locs2 ls2 → W p l e R s m args below meth c H2 locs2 (kc (i + 1)) (ks (i + 1)) Q (F0 m pc ls2 [])) → W p l e R s m args below meth c H locs (kc i) (ks i) Q (F0 m pc ls []))
    (hx : ∀ (st : σ) (H : Heap) (locs : List Loc) (ls : Array Slot), I E st H locs ls → W p l e R s m args below meth c H locs (kc E) (ks E) Q (F0 m pc ls []))
    (i : Nat) (hi : i ≤ E) (st : σ) (h : I i st H locs ls) : W p l e R s m args below meth c H locs (kc i) (ks i) Q (F0 m pc ls []) := by
  have key : ∀ (n i : Nat) (st : σ) (H : Heap) (locs : List Loc) (ls : Array Slot), i + n = E → I i st H locs ls → W p l e R s m args below meth c H locs (kc i) (ks i) Q (F0 m pc ls []) := by
    intro n
    induction n with
    | zero =>
      intro i st H locs ls hn h
      have e1 : i = E := by omega
      subst e1
      exact hx st H locs ls h
    | succ n ih =>
      intro i st H locs ls hn h
      exact hs i st H locs ls (by omega) h (fun st2 H2 locs2 ls2 h2 => ih (i + 1) st2 H2 locs2 ls2 (by omega) h2)
  exact key (E - i) i st H locs ls (by omega) h
/-- a new int array, of the class that the world's arrays have -/
theorem nw_newI {cI : ClassId} {t0 : Nat} (ht0 : tys[t0]? = some (cI, .int)) (hexec : p.tables.exec = Jvm.exec) (hb : c.code = cc) (harr : (Cond.arrayClass .int).before args s = true) (hK : va_K D cl tys s) (hP : va_P D cl ws H) (hD : va_D A ws) (hS : va_S A H0 H locs) (hA : ∀ q, H0.size ≤ q → A q)
    {n : Int32} {N' : Nat} (hn : ¬ n < 0) (hN : n.toNatClampNeg = N') (hbytes : N' * 4 ≤ 536870912) (hcells : cells + 1 ≤ R.cells) (hslots : slots + N' ≤ R.slots) (hdg : decode cc pc = .ok (.newarray .int, 2))
    (kk : ∀ (q : Nat) (H1 : Heap), va_P D cl (ws ++ [(q, .inl (cI, N', .inl (fun _ => 0)))]) H1 → va_D A (ws ++ [(q, .inl (cI, N', .inl (fun _ => 0)))]) → va_S A H0 H1 locs → W p l e R s m args below meth c H1 locs (cells + 1) (slots + N') Q (F0 m (pc + 2) ls (.ref q :: rest))) : W p l e R s m args below meth c H locs cells slots Q (F0 m pc ls (.int n :: rest)) := by
  refine va_newa (atype := .int) (ty := .int) (a0 := (N', .inl (fun _ => 0))) hexec hb harr rfl hK hP hD hS hA (fun _ => rfl) hn hN hbytes hcells hslots hdg (fun q cA H1 hK1 hP1 hD1 hS1 => ?_)
  have h1 := (hK1.2 tys.length (cA, .int) (by simp)).2
  have h2 := (hK.2 t0 _ ht0).2
  have e1 : cA = cI := Option.some.inj ((va_nm_int h1).symm.trans (va_nm_int h2))
  subst e1
  exact kk q H1 hP1 hD1 hS1
theorem nw_newZ {cZ : ClassId} {t0 : Nat} (ht0 : tys[t0]? = some (cZ, .boolean)) (hexec : p.tables.exec = Jvm.exec) (hb : c.code = cc) (harr : (Cond.arrayClass .boolean).before args s = true) (hK : va_K D cl tys s) (hP : va_P D cl ws H) (hD : va_D A ws) (hS : va_S A H0 H locs) (hA : ∀ q, H0.size ≤ q → A q)
    {n : Int32} {N' : Nat} (hn : ¬ n < 0) (hN : n.toNatClampNeg = N') (hbytes : N' * 1 ≤ 536870912) (hcells : cells + 1 ≤ R.cells) (hslots : slots + N' ≤ R.slots) (hdg : decode cc pc = .ok (.newarray .boolean, 2))
    (kk : ∀ (q : Nat) (H1 : Heap), va_P D cl (ws ++ [(q, .inl (cZ, N', .inl (fun _ => 0)))]) H1 → va_D A (ws ++ [(q, .inl (cZ, N', .inl (fun _ => 0)))]) → va_S A H0 H1 locs → W p l e R s m args below meth c H1 locs (cells + 1) (slots + N') Q (F0 m (pc + 2) ls (.ref q :: rest))) : W p l e R s m args below meth c H locs cells slots Q (F0 m pc ls (.int n :: rest)) := by
  refine va_newa (atype := .boolean) (ty := .boolean) (a0 := (N', .inl (fun _ => 0))) hexec hb harr rfl hK hP hD hS hA (fun _ => rfl) hn hN hbytes hcells hslots hdg (fun q cA H1 hK1 hP1 hD1 hS1 => ?_)
  have h1 := (hK1.2 tys.length (cA, .boolean) (by simp)).2
  have h2 := (hK.2 t0 _ ht0).2
  have e1 : cA = cZ := Option.some.inj ((va_nm_boolean h1).symm.trans (va_nm_boolean h2))
  subst e1
  exact kk q H1 hP1 hD1 hS1
theorem nw_newL {cL : ClassId} {C : String} {t0 : Nat} (ht0 : tys[t0]? = some (cL, .object C)) (hexec : p.tables.exec = Jvm.exec) (hb : c.code = cc) {own : String} {index : Nat} (hown : s.vm.findClass own = some m.cls) (hclink : (Cond.classLink own index C).before args s = true) (hover : va_AO C s) (hK : va_K D cl tys s) (hP : va_P D cl ws H) (hD : va_D A ws) (hS : va_S A H0 H locs) (hA : ∀ q, H0.size ≤ q → A q)
    {n : Int32} {N' : Nat} (hn : ¬ n < 0) (hN : n.toNatClampNeg = N') (hbytes : N' * 4 ≤ 536870912) (hcells : cells + 1 ≤ R.cells) (hslots : slots + N' ≤ R.slots) (hdg : decode cc pc = .ok (.anewarray index, 3))
    (kk : ∀ (q : Nat) (H1 : Heap), va_P D cl (ws ++ [(q, .inl (cL, N', .inr (.inr (.inr (.inr (fun _ => none))))))]) H1 → va_D A (ws ++ [(q, .inl (cL, N', .inr (.inr (.inr (.inr (fun _ => none))))))]) → va_S A H0 H1 locs → W p l e R s m args below meth c H1 locs (cells + 1) (slots + N') Q (F0 m (pc + 3) ls (.ref q :: rest))) : W p l e R s m args below meth c H locs cells slots Q (F0 m pc ls (.int n :: rest)) := by
  refine va_newq hexec hb hown hclink hover hK hP hD hS hA hn hN hbytes hcells hslots hdg (fun q cA H1 hK1 hP1 hD1 hS1 => ?_)
  obtain ⟨_, _, _, _, _, h1⟩ := (hK1.2 tys.length (cA, .object C) (by simp)).2
  obtain ⟨_, _, _, _, _, h2⟩ := (hK.2 t0 _ ht0).2
  have e1 : cA = cL := Option.some.inj (h1.symm.trans h2)
  subst e1
  exact kk q H1 hP1 hD1 hS1
end BASE
/-- what the tables say of private constructors and of arrays of arrays -/
def nw_ok (cI cJ : ClassId) (U : State) : Prop := va_AO RX3 U ∧ (∃ kA : Class, U.vm.classes[cJ]? = some kA ∧ kA.kind = .array cI (.array .int)) ∧ va_Nw (.methodLinkNest RX7 18 yX6_init "MillTalk") U ∧ va_Nw (.methodLinkNest RX6 17 yX3_init "MillTalk") U ∧ va_Nw (.methodLinkNest RX7 25 yX3_init "MillTalk") U ∧ va_Nw (.methodLinkNest RX0 15 yX3_init "MillTalk") U ∧ va_Nw (.methodLinkNest RX7 46 yX4_init "MillTalk") U ∧ va_Nw (.methodLinkNest RX4 9 yX3_init "MillTalk") U ∧ va_Nw (.methodLinkNest RX2 17 yX3_init "MillTalk") U ∧ va_Nw (.methodLinkNest RX7 60 yX1_init "MillTalk") U
theorem nw_same {cI cJ : ClassId} {u U : State} (h : u.vm = U.vm) (hN : nw_ok cI cJ u) : nw_ok cI cJ U := by
  obtain ⟨h0, h1, h2, h3, h4, h5, h6, h7, h8, h9⟩ := hN
  refine ⟨va_AO.moved (by rw [h]; exact Vm.Alike.refl _) h0, by rw [← h]; exact h1, va_Nw.same rfl h h2, va_Nw.same rfl h h3, va_Nw.same rfl h h4, va_Nw.same rfl h h5, va_Nw.same rfl h h6, va_Nw.same rfl h h7, va_Nw.same rfl h h8, va_Nw.same rfl h h9⟩
theorem nw_warm {cI cJ : ClassId} {s U : State} (hW : s.WarmedH U.vm) (hN : nw_ok cI cJ s) : nw_ok cI cJ U := by
  obtain ⟨h0, ⟨kA, h1, h1b⟩, h2, h3, h4, h5, h6, h7, h8, h9⟩ := hN
  obtain ⟨k2, hk2, he⟩ := hW.alike.2.2 _ _ h1
  refine ⟨va_AO.moved hW.alike h0, ⟨k2, hk2, by rw [he]; exact h1b⟩, va_Nw.warmM hW h2, va_Nw.warmM hW h3, va_Nw.warmM hW h4, va_Nw.warmM hW h5, va_Nw.warmM hW h6, va_Nw.warmM hW h7, va_Nw.warmM hW h8, va_Nw.warmM hW h9⟩
theorem nw_X7_18 {cI cJ : ClassId} {U : State} (h : nw_ok cI cJ U) : va_Nw (.methodLinkNest RX7 18 yX6_init "MillTalk") U := h.2.2.1
theorem nw_X6_17 {cI cJ : ClassId} {U : State} (h : nw_ok cI cJ U) : va_Nw (.methodLinkNest RX6 17 yX3_init "MillTalk") U := h.2.2.2.1
theorem nw_X7_25 {cI cJ : ClassId} {U : State} (h : nw_ok cI cJ U) : va_Nw (.methodLinkNest RX7 25 yX3_init "MillTalk") U := h.2.2.2.2.1
theorem nw_X0_15 {cI cJ : ClassId} {U : State} (h : nw_ok cI cJ U) : va_Nw (.methodLinkNest RX0 15 yX3_init "MillTalk") U := h.2.2.2.2.2.1
theorem nw_X7_46 {cI cJ : ClassId} {U : State} (h : nw_ok cI cJ U) : va_Nw (.methodLinkNest RX7 46 yX4_init "MillTalk") U := h.2.2.2.2.2.2.1
theorem nw_X4_9 {cI cJ : ClassId} {U : State} (h : nw_ok cI cJ U) : va_Nw (.methodLinkNest RX4 9 yX3_init "MillTalk") U := h.2.2.2.2.2.2.2.1
theorem nw_X2_17 {cI cJ : ClassId} {U : State} (h : nw_ok cI cJ U) : va_Nw (.methodLinkNest RX2 17 yX3_init "MillTalk") U := h.2.2.2.2.2.2.2.2.1
theorem nw_X7_60 {cI cJ : ClassId} {U : State} (h : nw_ok cI cJ U) : va_Nw (.methodLinkNest RX7 60 yX1_init "MillTalk") U := h.2.2.2.2.2.2.2.2.2
/-! numbers -/
theorem w_lt (a b : Int32) : a.toInt64 < b.toInt64 ↔ a < b := by
  rw [Int64.lt_iff_toInt_lt, Int32.lt_iff_toInt_lt, Int32.toInt_toInt64, Int32.toInt_toInt64]
theorem w_le (a b : Int32) : a.toInt64 ≤ b.toInt64 ↔ a ≤ b := by
  rw [Int64.le_iff_toInt_le, Int32.le_iff_toInt_le, Int32.toInt_toInt64, Int32.toInt_toInt64]
theorem i_nlt {a b : Int32} : ¬ a < b ↔ b ≤ a := by
  rw [Int32.lt_iff_toInt_lt, Int32.le_iff_toInt_le]; omega
theorem i_nle {a b : Int32} : ¬ a ≤ b ↔ b < a := by
  rw [Int32.lt_iff_toInt_lt, Int32.le_iff_toInt_le]; omega
theorem in_8 {a : Int32} (h : ¬ (a < 0 ∨ 8 ≤ a)) : vp_in a 8 := by
  have h1 : ¬ a < 0 := fun q => h (Or.inl q)
  have h2 : ¬ 8 ≤ a := fun q => h (Or.inr q)
  rw [Int32.lt_iff_toInt_lt] at h1
  rw [Int32.le_iff_toInt_le] at h2
  rw [vp_in_iff]
  have e1 : (0 : Int32).toInt = 0 := rfl
  have e2 : (8 : Int32).toInt = 8 := rfl
  rw [e1] at h1; rw [e2] at h2
  constructor <;> omega
theorem in_2 {a : Int32} (h : ¬ (a < 0 ∨ 2 ≤ a)) : vp_in a 2 := by
  have h1 : ¬ a < 0 := fun q => h (Or.inl q)
  have h2 : ¬ 2 ≤ a := fun q => h (Or.inr q)
  rw [Int32.lt_iff_toInt_lt] at h1
  rw [Int32.le_iff_toInt_le] at h2
  rw [vp_in_iff]
  have e1 : (0 : Int32).toInt = 0 := rfl
  have e2 : (2 : Int32).toInt = 2 := rfl
  rw [e1] at h1; rw [e2] at h2
  constructor <;> omega
theorem in_lt {a : Int32} {n : Nat} (h : vp_in a n) : a.toNatClampNeg < n := Nat.not_le.mp fun q => h (Or.inr q)
theorem fl_step {f : Nat → Int32} {i : Nat} {v : Int32} (hi : i < 2 ^ 31) (h : ∀ j : Nat, j < i → f j = v) : ∀ j : Nat, j < i + 1 → upd f (nI i).toNatClampNeg v j = v := by
  intro j hj
  rw [nI_clamp hi]
  unfold upd
  split
  · rfl
  · exact h j (by omega)
theorem no_in (x : Int64) : x < 0 ∨ -1 < x := by
  rw [Int64.lt_iff_toInt_lt, Int64.lt_iff_toInt_lt]
  have e1 : (0 : Int64).toInt = 0 := rfl
  have e2 : (-1 : Int64).toInt = -1 := rfl
  rw [e1, e2]
  omega
theorem row64 {a : Int32} : (a.toInt64 < 0 ∨ 7 < a.toInt64) ↔ (a < 0 ∨ 8 ≤ a) := by
  rw [Int64.lt_iff_toInt_lt, Int64.lt_iff_toInt_lt, Int32.lt_iff_toInt_lt, Int32.le_iff_toInt_le, Int32.toInt_toInt64]
  have e1 : (0 : Int64).toInt = 0 := rfl
  have e2 : (7 : Int64).toInt = 7 := rfl
  have e3 : (0 : Int32).toInt = 0 := rfl
  have e4 : (8 : Int32).toInt = 8 := rfl
  rw [e1, e2, e3, e4]
  omega
theorem lane64 {a : Int32} : (a.toInt64 < 0 ∨ 2 < a.toInt64) ↔ (a < 0 ∨ 2 < a) := by
  rw [Int64.lt_iff_toInt_lt, Int64.lt_iff_toInt_lt, Int32.lt_iff_toInt_lt, Int32.lt_iff_toInt_lt, Int32.toInt_toInt64]
  have e1 : (0 : Int64).toInt = 0 := rfl
  have e2 : (2 : Int64).toInt = 2 := rfl
  have e3 : (0 : Int32).toInt = 0 := rfl
  have e4 : (2 : Int32).toInt = 2 := rfl
  rw [e1, e2, e3, e4]
theorem feed64 {a : Int32} : (a.toInt64 < 0 ∨ 255 < a.toInt64) ↔ (a < 0 ∨ ¬ a ≤ 255) := by
  rw [Int64.lt_iff_toInt_lt, Int64.lt_iff_toInt_lt, Int32.lt_iff_toInt_lt, Int32.le_iff_toInt_le, Int32.toInt_toInt64]
  have e1 : (0 : Int64).toInt = 0 := rfl
  have e2 : (255 : Int64).toInt = 255 := rfl
  have e3 : (0 : Int32).toInt = 0 := rfl
  have e4 : (255 : Int32).toInt = 255 := rfl
  rw [e1, e2, e3, e4]
  omega
theorem img64 {a : Int32} : (a.toInt64 < 0 ∨ 1 < a.toInt64) ↔ (a < 0 ∨ ¬ a < 2) := by
  rw [Int64.lt_iff_toInt_lt, Int64.lt_iff_toInt_lt, Int32.lt_iff_toInt_lt, Int32.lt_iff_toInt_lt, Int32.toInt_toInt64]
  have e1 : (0 : Int64).toInt = 0 := rfl
  have e2 : (1 : Int64).toInt = 1 := rfl
  have e3 : (0 : Int32).toInt = 0 := rfl
  have e4 : (2 : Int32).toInt = 2 := rfl
  rw [e1, e2, e3, e4]
  omega
theorem in_2b {a : Int32} (h : ¬ (a.toInt64 < 0 ∨ 1 < a.toInt64)) : vp_in a 2 := by
  rw [img64] at h
  exact in_2 (fun q => h (q.elim Or.inl (fun z => Or.inr (i_nlt.mpr z))))
theorem k_01 {k : Int32} (h1 : ¬ k < 0) (h2 : k < 2) : k = 0 ∨ k = 1 := by
  rw [Int32.lt_iff_toInt_lt] at h1 h2
  have e3 : (0 : Int32).toInt = 0 := rfl
  have e4 : (2 : Int32).toInt = 2 := rfl
  rw [e3] at h1
  rw [e4] at h2
  rcases (show k.toInt = 0 ∨ k.toInt = 1 by omega) with q | q
  · exact Or.inl (Int32.toInt_inj.mp q)
  · exact Or.inr (Int32.toInt_inj.mp q)
theorem in_320 {a v w : Int32} {i : Nat} (ha : ¬ (a < 0 ∨ 8 ≤ a)) (e1 : v = 40 * a) (e2 : w = v + nI i) (hi : i < 40) : vp_in w 320 := by
  obtain ⟨k, hk, rfl⟩ := vp_in_of (in_8 ha) (by decide)
  have e3 : (40 : Int32) * nI k = nI (40 * k) := pk_mul 40 k
  rw [e2, e1, e3, nI_add]
  exact vp_in_nI (by omega) (by decide)
/-! the answers of a first call -/
def an_row (a b n : Int32) : Int32 := if (a < 0 ∨ 8 ≤ a) ∨ (b < 0 ∨ 2 < b) ∨ ¬ n ≤ 40 then -1000001 else if 0 ≤ n then n else -1000014
def an_set (a : Int32) : Int32 := if a < 0 ∨ 8 ≤ a then -1000001 else -1000011
def an_copy (a b : Int32) : Int32 := if (a < 0 ∨ 8 ≤ a) ∨ (b < 0 ∨ 8 ≤ b) then -1000001 else -1000011
def an_feed (a : Int32) : Int32 := if a < 0 ∨ ¬ a ≤ 255 then -1000001 else 1
def an_image (a : Int32) : Int32 := if a < 0 ∨ ¬ a < 2 then -1000001 else -1000002
def an_count (a : Int32) : Int32 := if a = 0 ∨ a = 1 ∨ a = 2 ∨ a = 3 ∨ a = 4 ∨ a = 5 ∨ a = 6 ∨ a = 7 then 0 else -1000001
/-- new int[8][40] -/
def nw_rows (cI cJ : ClassId) (q : Nat) : va_W := [(q, .inl (cJ, 8, .inr (.inr (.inr (.inr (fun i => if i < 8 then some (q + 1 + i) else none)))))), ((q + 1 + 0), .inl (cI, 40, .inl (fun _ => 0))), ((q + 1 + 1), .inl (cI, 40, .inl (fun _ => 0))), ((q + 1 + 2), .inl (cI, 40, .inl (fun _ => 0))), ((q + 1 + 3), .inl (cI, 40, .inl (fun _ => 0))), ((q + 1 + 4), .inl (cI, 40, .inl (fun _ => 0))), ((q + 1 + 5), .inl (cI, 40, .inl (fun _ => 0))), ((q + 1 + 6), .inl (cI, 40, .inl (fun _ => 0))), ((q + 1 + 7), .inl (cI, 40, .inl (fun _ => 0)))]
section BASE2
variable {p : Program} {l : Launch} {e : Env} {R : Room} {s : State} {m : MethodId} {args : Array Value} {below : List Frame} {meth : Method} {c : Code} {H : Heap} {locs : List Loc} {cells slots : Nat} {Q : State → Prop}
variable {cc : ByteArray} {pc : Nat} {ls : Array Slot} {rest : List Value} {D : va_G} {cl : List vw_C} {A : Nat → Prop} {a : Nat} {tys : List (ClassId × FieldType)} {ws : va_W} {H0 : Heap}
theorem nw_mn {cI cJ : ClassId} {t0 t3 : Nat} {own : String} {index : Nat} (ht0 : tys[t0]? = some (cI, .int)) (ht3 : tys[t3]? = some (cJ, .array .int)) (hexec : p.tables.exec = Jvm.exec) (hb : c.code = cc) (hown : s.vm.findClass own = some m.cls) (hclink : (Cond.classLink own index "[[I").before args s = true) (hJ : ∃ kA : Class, s.vm.classes[cJ]? = some kA ∧ kA.kind = .array cI (.array .int)) (hK : va_K D cl tys s) (hP : va_P D cl ws H) (hD : va_D A ws) (hS : va_S A H0 H locs) (hA : ∀ q, H0.size ≤ q → A q)
    (hcells : cells + 9 ≤ R.cells) (hslots : slots + 328 ≤ R.slots) (hdg : decode cc pc = .ok (.multianewarray index 2, 4))
    (kk : ∀ (q : Nat) (H1 : Heap) (locs1 : List Loc), va_P D cl (ws ++ nw_rows cI cJ q) H1 → va_D A (ws ++ nw_rows cI cJ q) → va_S A H0 H1 locs1 → W p l e R s m args below meth c H1 locs1 (cells + 9) (slots + 328) Q (F0 m (pc + 4) ls (.ref q :: rest))) : W p l e R s m args below meth c H locs cells slots Q (F0 m pc ls (.int 40 :: .int 8 :: rest)) := by
  sorry
/-- an item of an array of int arrays -/
theorem nw_ald (hexec : p.tables.exec = Jvm.exec) (hb : c.code = cc) (hK : va_K D cl tys s) (hP : va_P D cl ws H) (q0 t0 : Nat) {cA : ClassId} {n : Nat} {f : Nat → Option Nat} (ha : ws[q0]? = some (a, .inl (cA, n, .inr (.inr (.inr (.inr f)))))) (ht : tys[t0]? = some (cA, .array .int)) {i : Int32} (hin : vp_in i n) (hdg : decode cc pc = .ok (.aaload, 1))
    (kk : W p l e R s m args below meth c H locs cells slots Q (F0 m (pc + 1) ls (va_rf (f i.toNatClampNeg) :: rest))) : W p l e R s m args below meth c H locs cells slots Q (F0 m pc ls (.int i :: .ref a :: rest)) := by
  have hlt : i.toNatClampNeg < n := Nat.not_le.mp fun q => hin (Or.inr q)
  exact W.aald (v := va_rf (f i.toNatClampNeg)) (ty := .array .int) hexec hb (hP q0 _ ha) ((hK.2 t0 _ ht).1 n (fun j => va_rf (f j))) rfl (fun q => by cases q) (by show ¬ (i < 0 ∨ (arrV _ _ _).slots.size ≤ _); rw [arrV_size]; exact hin) (by show (arrV _ _ _).slots[_]? = _; rw [arrV_read _ _ hlt]) rfl rfl hdg kk
end BASE2
