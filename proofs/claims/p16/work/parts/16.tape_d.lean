/-! the reading of the tape as exact functions: f its bytes, z how many; q = (place of the fault, fault, place) -/
noncomputable abbrev TQ := Int32 × Int32 × Int32
noncomputable abbrev isFig (x : Int32) : Prop := ¬ x < 48 ∧ ¬ 57 < x
/-- figures from k + i on, n looked at -/
noncomputable def figX (f : Nat → Int32) (z : Nat) (k : Int32) : Nat → Nat → Nat
  | 0, _ => 0
  | n + 1, i => if isFig (bAt f z (k + nI i)) then figX f z k n (i + 1) + 1 else 0
theorem figX_le (f : Nat → Int32) (z : Nat) (k : Int32) : ∀ n i : Nat, figX f z k n i ≤ n
  | 0, _ => Nat.le_refl 0
  | n + 1, i => by
    have h := figX_le f z k n (i + 1)
    unfold figX
    split <;> omega
theorem figX_go {f : Nat → Int32} {z : Nat} {k : Int32} {n i : Nat} (hn : 0 < n) (h : isFig (bAt f z (k + nI i))) : figX f z k n i = figX f z k (n - 1) (i + 1) + 1 := by
  cases n with
  | zero => omega
  | succ n => exact if_pos h
theorem figX_no {f : Nat → Int32} {z : Nat} {k : Int32} {n i : Nat} (h : ¬ isFig (bAt f z (k + nI i))) : figX f z k n i = 0 := by
  cases n with
  | zero => rfl
  | succ n => exact if_neg h
noncomputable def numX (f : Nat → Int32) (z : Nat) (k : Int32) : Nat → Int32
  | 0 => 0
  | i + 1 => numX f z k i * 10 + bAt f z (k + nI i) - 48
/-- a fault, if there is none yet -/
noncomputable def rF (n : Int32) (q : TQ) : TQ := if q.2.1 = 0 then (q.2.2, n, q.2.2) else q
noncomputable def rB (f : Nat → Int32) (z : Nat) (c : Int32) (q : TQ) : TQ := if bAt f z q.2.2 = c then (q.1, q.2.1, q.2.2 + 1) else rF 1 q
noncomputable abbrev rG1 (f : Nat → Int32) (z : Nat) (k : Int32) : Prop := ¬ figX f z k 120 0 < 1 ∧ figX f z k 120 0 ≤ 2
noncomputable abbrev rG2 (f : Nat → Int32) (z : Nat) (k lo hi : Int32) : Prop := ¬ numX f z k (figX f z k 120 0) < lo ∧ numX f z k (figX f z k 120 0) ≤ hi
noncomputable def rN (f : Nat → Int32) (z : Nat) (lo hi : Int32) (q : TQ) : TQ := if ¬ rG1 f z q.2.2 then rF 1 q else if ¬ rG2 f z q.2.2 lo hi then rF 2 q else (q.1, q.2.1, q.2.2 + nI (figX f z q.2.2 120 0))
noncomputable def rV (f : Nat → Int32) (z : Nat) (lo hi k : Int32) : Int32 := if rG1 f z k ∧ rG2 f z k lo hi then numX f z k (figX f z k 120 0) else 0
theorem rF_0 {n a b c : Int32} {q : TQ} (hn : ¬ n = 0) (h : rF n q = (a, b, c)) : ¬ b = 0 := by
  unfold rF at h
  split at h
  · cases h; exact hn
  · cases h; assumption
theorem rF_s {n a b c fp f k : Int32} (h : rF n (fp, f, k) = (a, b, c)) (hf : ¬ f = 0) : a = fp ∧ b = f ∧ c = k := by
  unfold rF at h
  rw [if_neg hf] at h
  cases h
  exact ⟨rfl, rfl, rfl⟩
theorem rB_0 {f : Nat → Int32} {z : Nat} {x fp ft k a c : Int32} (h : rB f z x (fp, ft, k) = (a, 0, c)) : ft = 0 ∧ bAt f z k = x := by
  unfold rB at h
  split at h
  · rename_i h1
    cases h
    exact ⟨rfl, h1⟩
  · exact absurd rfl (rF_0 (by decide) h)
theorem rN_0 {f : Nat → Int32} {z : Nat} {x y fp ft k a c : Int32} (h : rN f z x y (fp, ft, k) = (a, 0, c)) : ft = 0 := by
  unfold rN at h
  split at h
  · exact absurd rfl (rF_0 (by decide) h)
  · split at h
    · exact absurd rfl (rF_0 (by decide) h)
    · cases h
      rfl
/-! the law -/
noncomputable def xL0 (f : Nat → Int32) (z : Nat) (q : TQ) : Int32 := rV f z 5 15 (rB f z 109 q).2.2
noncomputable def xLa (f : Nat → Int32) (z : Nat) (q : TQ) : TQ := rB f z 44 (rN f z 5 15 (rB f z 109 q))
noncomputable def xL1 (f : Nat → Int32) (z : Nat) (q : TQ) : Int32 := rV f z 0 (xL0 f z q - 1) (xLa f z q).2.2
noncomputable def xLb (f : Nat → Int32) (z : Nat) (q : TQ) : TQ := rB f z 44 (rN f z 0 (xL0 f z q - 1) (xLa f z q))
noncomputable def xL2 (f : Nat → Int32) (z : Nat) (q : TQ) : Int32 := rV f z 0 4 (xLb f z q).2.2
noncomputable def xLc (f : Nat → Int32) (z : Nat) (q : TQ) : TQ := rB f z 59 (rN f z 0 4 (xLb f z q))
/-! winds -/
noncomputable abbrev TW := TQ × Nat × (Nat → Int32)
noncomputable def xW0 (f : Nat → Int32) (z : Nat) (q : TQ) (w : Nat) : TQ := if q.2.1 = 0 ∧ bAt f z q.2.2 = 119 ∧ ¬ w < 6 then rF 3 q else q
noncomputable def xWa (f : Nat → Int32) (z : Nat) (q : TQ) (w : Nat) : TQ := rB f z 119 (xW0 f z q w)
noncomputable def xWb (f : Nat → Int32) (z : Nat) (q : TQ) (w : Nat) : TQ := rB f z 59 (rN f z 0 4 (xWa f z q w))
noncomputable def xW (f : Nat → Int32) (z : Nat) (s : TW) : TW := if (xWb f z s.1 s.2.1).2.1 = 0 then (xWb f z s.1 s.2.1, s.2.1 + 1, upd s.2.2 s.2.1 (rV f z 0 4 (xWa f z s.1 s.2.1).2.2)) else (xWb f z s.1 s.2.1, s.2.1, s.2.2)
noncomputable abbrev xWg (f : Nat → Int32) (z : Nat) (s : TW) : Prop := s.1.2.1 = 0 ∧ bAt f z s.1.2.2 = 119
noncomputable def xWs (f : Nat → Int32) (z : Nat) : Nat → TW → TW
  | 0, s => s
  | n + 1, s => if xWg f z s then xWs f z n (xW f z s) else s
theorem xWs_stop {f : Nat → Int32} {z n : Nat} {s : TW} (h : ¬ xWg f z s) : xWs f z n s = s := by
  cases n with
  | zero => rfl
  | succ n => exact if_neg h
theorem xWs_go {f : Nat → Int32} {z n : Nat} {s : TW} (hn : 0 < n) (h : xWg f z s) : xWs f z n s = xWs f z (n - 1) (xW f z s) := by
  cases n with
  | zero => omega
  | succ n => exact if_pos h
/-! sounds -/
noncomputable def kindX (x : Int32) : Int32 := if x = 118 then 1 else if x = 98 then 2 else if x = 104 then 3 else if x = 100 then 4 else if x = 115 then 5 else 0
noncomputable abbrev TS := TQ × Nat × (Nat → Int32) × (Nat → Int32) × (Nat → Int32) × (Nat → Int32)
noncomputable def xS0 (f : Nat → Int32) (z : Nat) (q : TQ) (w : Nat) : TQ := if kindX (bAt f z q.2.2) = 0 then rF 1 q else if ¬ w < 6 then rF 3 q else q
noncomputable def xSa (f : Nat → Int32) (z : Nat) (q : TQ) (w : Nat) : TQ := ((xS0 f z q w).1, (xS0 f z q w).2.1, (xS0 f z q w).2.2 + 1)
noncomputable def xSb (f : Nat → Int32) (z : Nat) (c : Int32) (q : TQ) (w : Nat) : TQ := rB f z 44 (rN f z 0 (c - 1) (xSa f z q w))
noncomputable def xSc (f : Nat → Int32) (z : Nat) (c : Int32) (q : TQ) (w : Nat) : TQ := rB f z 59 (rN f z 1 20 (xSb f z c q w))
noncomputable def xS (f : Nat → Int32) (z : Nat) (c : Int32) (s : TS) : TS := if (xSc f z c s.1 s.2.1).2.1 = 0 then (xSc f z c s.1 s.2.1, s.2.1 + 1, upd s.2.2.1 s.2.1 (kindX (bAt f z s.1.2.2)), upd s.2.2.2.1 s.2.1 (rV f z 0 (c - 1) (xSa f z s.1 s.2.1).2.2), upd s.2.2.2.2.1 s.2.1 (rV f z 1 20 (xSb f z c s.1 s.2.1).2.2), upd s.2.2.2.2.2 s.2.1 0) else (xSc f z c s.1 s.2.1, s.2.1, s.2.2)
noncomputable abbrev xSg (f : Nat → Int32) (z : Nat) (s : TS) : Prop := s.1.2.1 = 0 ∧ ¬ bAt f z s.1.2.2 = -1
noncomputable def xSs (f : Nat → Int32) (z : Nat) (c : Int32) : Nat → TS → TS
  | 0, s => s
  | n + 1, s => if xSg f z s then xSs f z c n (xS f z c s) else s
theorem xSs_stop {f : Nat → Int32} {z n : Nat} {c : Int32} {s : TS} (h : ¬ xSg f z s) : xSs f z c n s = s := by
  cases n with
  | zero => rfl
  | succ n => exact if_neg h
theorem xSs_go {f : Nat → Int32} {z n : Nat} {c : Int32} {s : TS} (hn : 0 < n) (h : xSg f z s) : xSs f z c n s = xSs f z c (n - 1) (xS f z c s) := by
  cases n with
  | zero => omega
  | succ n => exact if_pos h
/-! all of it -/
noncomputable def xRw (f : Nat → Int32) (z : Nat) (g1 : Nat → Int32) : TW := xWs f z 6 (xW f z (xLc f z (0, 0, 0), 0, g1))
noncomputable def xRs (f : Nat → Int32) (z : Nat) (g1 g2 g3 g4 g5 : Nat → Int32) : TS := xSs f z (xL0 f z (0, 0, 0)) 6 (xS f z (xL0 f z (0, 0, 0)) ((xRw f z g1).1, 0, g2, g3, g4, g5))
theorem fig64 {x : Int32} : (x.toInt64 < 48 ∨ 57 < x.toInt64) ↔ ¬ isFig x := by
  have e1 : (48 : Int64).toInt = 48 := rfl
  have e2 : (57 : Int64).toInt = 57 := rfl
  have e3 : (48 : Int32).toInt = 48 := rfl
  have e4 : (57 : Int32).toInt = 57 := rfl
  rw [Int64.lt_iff_toInt_lt, Int64.lt_iff_toInt_lt, Int32.toInt_toInt64, e1, e2]
  unfold isFig
  rw [Int32.lt_iff_toInt_lt, Int32.lt_iff_toInt_lt, e3, e4]
  omega
theorem let64 {x : Int32} : (x.toInt64 < 97 ∨ 122 < x.toInt64) ↔ (x < 97 ∨ 122 < x) := by
  have e1 : (97 : Int64).toInt = 97 := rfl
  have e2 : (122 : Int64).toInt = 122 := rfl
  have e3 : (97 : Int32).toInt = 97 := rfl
  have e4 : (122 : Int32).toInt = 122 := rfl
  rw [Int64.lt_iff_toInt_lt, Int64.lt_iff_toInt_lt, Int32.toInt_toInt64, e1, e2, Int32.lt_iff_toInt_lt, Int32.lt_iff_toInt_lt, e3, e4]
/-! the other side: tokens -/
noncomputable abbrev MU := Int32 × Int32 × Int32 × Nat
noncomputable def dgM (f : Nat → Int32) (z : Nat) : Nat → Int32 → Nat → Int32 × Nat
  | 0, v, q => (v, q)
  | n + 1, v, q => if q < z ∧ isFig (f q) then dgM f z n (if v ≤ 99 then 10 * v + f q - 48 else v) (q + 1) else (v, q)
theorem dgM_stop {f : Nat → Int32} {z n q : Nat} {v : Int32} (h : ¬ (q < z ∧ isFig (f q))) : dgM f z n v q = (v, q) := by
  cases n with
  | zero => rfl
  | succ n => exact if_neg h
theorem dgM_go {f : Nat → Int32} {z n q : Nat} {v : Int32} (hn : 0 < n) (h : q < z ∧ isFig (f q)) : dgM f z n v q = dgM f z (n - 1) (if v ≤ 99 then 10 * v + f q - 48 else v) (q + 1) := by
  cases n with
  | zero => omega
  | succ n => exact if_pos h
noncomputable abbrev tokL (x : Int32) : Prop := (¬ x < 97 ∧ ¬ 122 < x) ∨ x = 44 ∨ x = 59
noncomputable def nT (f : Nat → Int32) (z p : Nat) : MU := if p < (dgM f z (z - p) 0 p).2 then (if (dgM f z (z - p) 0 p).2 - p ≤ 2 then 2 else 0, (dgM f z (z - p) 0 p).1, nI p, (dgM f z (z - p) 0 p).2) else if p = z then (3, 0, nI p, p) else (if tokL (f p) then 1 else 0, f p, nI p, p + 1)
noncomputable def uT (f : Nat → Int32) (z : Nat) (u : MU) : MU := nT f z u.2.2.2
noncomputable abbrev kG (c : Int32) (u : MU) : Prop := u.1 = 1 ∧ u.2.1 = c
noncomputable def kU (f : Nat → Int32) (z : Nat) (c : Int32) (u : MU) : MU := if kG c u then uT f z u else u
noncomputable abbrev nG (lo hi : Int32) (u : MU) : Prop := u.1 = 2 ∧ ¬ (u.2.1 < lo ∨ hi < u.2.1)
noncomputable def nU (f : Nat → Int32) (z : Nat) (lo hi c : Int32) (u : MU) : MU := if nG lo hi u then kU f z c (uT f z u) else u
noncomputable abbrev nGG (f : Nat → Int32) (z : Nat) (lo hi c : Int32) (u : MU) : Prop := nG lo hi u ∧ kG c (uT f z u)
noncomputable def nE (lo hi : Int32) (u : MU) : Int32 := if nG lo hi u then 1 else if u.1 = 2 then 2 else 1
noncomputable def nR (lo hi : Int32) (ix : Nat) (u : MU) (r : Nat → Int32) : Nat → Int32 := if nG lo hi u then upd r ix u.2.1 else r
/-- a row of 38 -/
noncomputable abbrev MS := MU × (Nat → Int32)
noncomputable abbrev wG0 (s : MS) : Prop := kG 119 s.1 ∧ ¬ s.2 3 = 6
noncomputable def wS (f : Nat → Int32) (z : Nat) (s : MS) : MS := if wG0 s then (nU f z 0 4 59 (uT f z s.1), nR 0 4 (8 + (s.2 3).toNatClampNeg) (uT f z s.1) (upd s.2 3 (s.2 3 + 1))) else s
noncomputable abbrev wGG (f : Nat → Int32) (z : Nat) (s : MS) : Prop := wG0 s ∧ nGG f z 0 4 59 (uT f z s.1)
noncomputable def wE (f : Nat → Int32) (z : Nat) (s : MS) : Int32 := if wG0 s then nE 0 4 (uT f z s.1) else if kG 119 s.1 then 3 else 1
noncomputable def kdM (u : MU) : Int32 := if u.1 = 1 then kindX u.2.1 else 0
noncomputable abbrev sG0 (s : MS) : Prop := ¬ kdM s.1 = 0 ∧ ¬ s.2 4 = 6
noncomputable def sRa (s : MS) : Nat → Int32 := upd (upd s.2 (14 + (s.2 4).toNatClampNeg) (kdM s.1)) 4 (s.2 4 + 1)
noncomputable def sUb (f : Nat → Int32) (z : Nat) (s : MS) : MU := nU f z 0 (s.2 0 - 1) 44 (uT f z s.1)
noncomputable def sRb (f : Nat → Int32) (z : Nat) (s : MS) : Nat → Int32 := nR 0 (s.2 0 - 1) (20 + (s.2 4).toNatClampNeg) (uT f z s.1) (sRa s)
noncomputable abbrev sG1 (f : Nat → Int32) (z : Nat) (s : MS) : Prop := nGG f z 0 (s.2 0 - 1) 44 (uT f z s.1)
noncomputable def sS (f : Nat → Int32) (z : Nat) (s : MS) : MS := if sG0 s then (if sG1 f z s then (nU f z 1 20 59 (sUb f z s), nR 1 20 (32 + (s.2 4).toNatClampNeg) (sUb f z s) (sRb f z s)) else (sUb f z s, sRb f z s)) else s
noncomputable abbrev sGG (f : Nat → Int32) (z : Nat) (s : MS) : Prop := sG0 s ∧ sG1 f z s ∧ nGG f z 1 20 59 (sUb f z s)
noncomputable def sE (f : Nat → Int32) (z : Nat) (s : MS) : Int32 := if sG0 s then (if sG1 f z s then nE 1 20 (sUb f z s) else nE 0 (s.2 0 - 1) (uT f z s.1)) else if kdM s.1 = 0 then 1 else 3
/-- with the fault that came, 0: none -/
noncomputable abbrev MR := MS × Int32
noncomputable def mB (r : MR) (k : MS → MR) : MR := if r.2 = 0 then k r.1 else r
noncomputable def kR (f : Nat → Int32) (z : Nat) (c : Int32) (s : MS) : MR := ((kU f z c s.1, s.2), if kG c s.1 then 0 else 1)
noncomputable def nRr (f : Nat → Int32) (z : Nat) (lo hi : Int32) (ix : Nat) (c : Int32) (s : MS) : MR := ((nU f z lo hi c s.1, nR lo hi ix s.1 s.2), if nGG f z lo hi c s.1 then 0 else nE lo hi s.1)
noncomputable def wR (f : Nat → Int32) (z : Nat) (s : MS) : MR := (wS f z s, if wGG f z s then 0 else wE f z s)
noncomputable def sR (f : Nat → Int32) (z : Nat) (s : MS) : MR := (sS f z s, if sGG f z s then 0 else sE f z s)
noncomputable def r0 : Nat → Int32 := upd (fun _ => 0) 6 1
noncomputable def lRa (f : Nat → Int32) (z : Nat) : MR := kR f z 109 (nT f z 0, r0)
noncomputable def lRb (f : Nat → Int32) (z : Nat) : MR := mB (lRa f z) (fun s => nRr f z 5 15 0 44 s)
noncomputable def lRc (f : Nat → Int32) (z : Nat) : MR := mB (lRb f z) (fun s => nRr f z 0 (s.2 0 - 1) 1 44 s)
noncomputable def lRd (f : Nat → Int32) (z : Nat) : MR := mB (lRc f z) (fun s => nRr f z 0 4 2 59 s)
noncomputable def lRe (f : Nat → Int32) (z : Nat) : MR := mB (lRd f z) (fun s => wR f z s)
noncomputable abbrev wLg (r : MR) : Prop := r.2 = 0 ∧ kG 119 r.1.1
noncomputable def wL (f : Nat → Int32) (z : Nat) : Nat → MR → MR
  | 0, r => r
  | n + 1, r => if wLg r then wL f z n (wR f z r.1) else r
theorem wL_stop {f : Nat → Int32} {z n : Nat} {r : MR} (h : ¬ wLg r) : wL f z n r = r := by
  cases n with
  | zero => rfl
  | succ n => exact if_neg h
theorem wL_go {f : Nat → Int32} {z n : Nat} {r : MR} (hn : 0 < n) (h : wLg r) : wL f z n r = wL f z (n - 1) (wR f z r.1) := by
  cases n with
  | zero => omega
  | succ n => exact if_pos h
noncomputable abbrev sLg (r : MR) : Prop := r.2 = 0 ∧ ¬ (r.1.1.1 = 3 ∧ ¬ r.1.2 4 = 0)
noncomputable def sL (f : Nat → Int32) (z : Nat) : Nat → MR → MR
  | 0, r => r
  | n + 1, r => if sLg r then sL f z n (sR f z r.1) else r
theorem sL_stop {f : Nat → Int32} {z n : Nat} {r : MR} (h : ¬ sLg r) : sL f z n r = r := by
  cases n with
  | zero => rfl
  | succ n => exact if_neg h
theorem sL_go {f : Nat → Int32} {z n : Nat} {r : MR} (hn : 0 < n) (h : sLg r) : sL f z n r = sL f z (n - 1) (sR f z r.1) := by
  cases n with
  | zero => omega
  | succ n => exact if_pos h
noncomputable def rR (f : Nat → Int32) (z : Nat) : MR := sL f z 7 (wL f z 6 (lRe f z))
/-- what reading answers, the latest fault, the level -/
noncomputable def lvA (f : Nat → Int32) (z : Nat) : Int32 := if (rR f z).2 = 0 then (rR f z).1.2 4 else -1000100 - (rR f z).1.1.2.2.1
noncomputable def lvF (f : Nat → Int32) (z : Nat) (lf : Int32) : Int32 := if (rR f z).2 = 0 then lf else (rR f z).2
/-- a byte that is no byte lies nowhere on the tape -/
noncomputable def okT (f : Nat → Int32) (z : Nat) : Prop := ∀ j : Nat, j < z → ¬ f j = -1
noncomputable def apb (f : Nat → Int32) (z : Nat) (a : Int32) : Nat → Int32 := if z < 120 then upd f z a else f
noncomputable def sf_b (f : Nat → Int32) (z : Nat) (a : Int32) : Nat → Int32 := if a < 0 ∨ ¬ a ≤ 255 ∨ z = 120 then f else upd f z a
theorem okT_up {f : Nat → Int32} {z : Nat} {a : Int32} (h : okT f z) : okT (sf_b f z a) (sf_z z a) := by
  unfold sf_b sf_z
  split
  · exact h
  · rename_i h1
    intro j hj
    unfold upd
    split
    · intro q
      exact h1 (Or.inl (by rw [q]; decide))
    · exact h j (by omega)
theorem okT_0 (f : Nat → Int32) : okT f 0 := fun j h => absurd h (Nat.not_lt_zero j)
theorem r0_m38 {F : Nat → Int32} (h : ∀ j : Nat, j < 38 → F j = 0) : m38 (upd F 6 1) = r0 := by
  funext j
  have h1 := h j
  unfold m38 r0 upd
  grind
theorem nE_nz (lo hi : Int32) (u : MU) : ¬ nE lo hi u = 0 := by
  unfold nE
  split
  · decide
  · split <;> decide
theorem wE_nz (f : Nat → Int32) (z : Nat) (s : MS) : ¬ wE f z s = 0 := by
  unfold wE
  split
  · exact nE_nz _ _ _
  · split <;> decide
theorem sE_nz (f : Nat → Int32) (z : Nat) (s : MS) : ¬ sE f z s = 0 := by
  unfold sE
  split
  · split <;> exact nE_nz _ _ _
  · split <;> decide
theorem rR_e {f : Nat → Int32} {z : Nat} {s : MS} {e : Int32} (h : lRe f z = (s, e)) (he : ¬ e = 0) : rR f z = (s, e) := by
  unfold rR
  rw [h, wL_stop (fun q => he q.1), sL_stop (fun q => he q.1)]
theorem rR_d {f : Nat → Int32} {z : Nat} {s : MS} {e : Int32} (h : lRd f z = (s, e)) (he : ¬ e = 0) : rR f z = (s, e) := rR_e (by unfold lRe mB; rw [h]; exact if_neg he) he
theorem rR_c {f : Nat → Int32} {z : Nat} {s : MS} {e : Int32} (h : lRc f z = (s, e)) (he : ¬ e = 0) : rR f z = (s, e) := rR_d (by unfold lRd mB; rw [h]; exact if_neg he) he
theorem rR_b {f : Nat → Int32} {z : Nat} {s : MS} {e : Int32} (h : lRb f z = (s, e)) (he : ¬ e = 0) : rR f z = (s, e) := rR_c (by unfold lRc mB; rw [h]; exact if_neg he) he
theorem rR_a {f : Nat → Int32} {z : Nat} {s : MS} {e : Int32} (h : lRa f z = (s, e)) (he : ¬ e = 0) : rR f z = (s, e) := rR_b (by unfold lRb mB; rw [h]; exact if_neg he) he
theorem dX6_append_0 : decode cX6_append 0 = .ok (.aload_n 0, 1) := dq_42 (by decide +kernel)
theorem dX6_append_1 : decode cX6_append 1 = .ok (.invokevirtual 26, 3) := dq_182 (b1 := 0) (b2 := 26) (by decide +kernel) (by decide)
theorem dX6_append_11 : decode cX6_append 11 = .ok (.aload_n 0, 1) := dq_42 (by decide +kernel)
theorem dX6_append_12 : decode cX6_append 12 = .ok (.getfield 22, 3) := dq_180 (b1 := 0) (b2 := 22) (by decide +kernel) (by decide)
theorem dX6_append_15 : decode cX6_append 15 = .ok (.iload_n 1, 1) := dq_27 (by decide +kernel)
theorem dX6_append_16 : decode cX6_append 16 = .ok (.iastore, 1) := dq_79 (by decide +kernel)
theorem dX6_append_17 : decode cX6_append 17 = .ok (.aload_n 0, 1) := dq_42 (by decide +kernel)
theorem dX6_append_18 : decode cX6_append 18 = .ok (.dup, 1) := dq_89 (by decide +kernel)
theorem dX6_append_19 : decode cX6_append 19 = .ok (.getfield 22, 3) := dq_180 (b1 := 0) (b2 := 22) (by decide +kernel) (by decide)
theorem dX6_append_22 : decode cX6_append 22 = .ok (.iconst 1, 1) := dq_4 (by decide +kernel)
theorem dX6_append_23 : decode cX6_append 23 = .ok (.iadd, 1) := dq_96 (by decide +kernel)
theorem dX6_append_24 : decode cX6_append 24 = .ok (.putfield 22, 3) := dq_181 (b1 := 0) (b2 := 22) (by decide +kernel) (by decide)
theorem dX6_append_27 : decode cX6_append 27 = .ok (.aload_n 0, 1) := dq_42 (by decide +kernel)
theorem dX6_append_28 : decode cX6_append 28 = .ok (.getfield 22, 3) := dq_180 (b1 := 0) (b2 := 22) (by decide +kernel) (by decide)
theorem dX6_append_31 : decode cX6_append 31 = .ok (.ireturn, 1) := dq_172 (by decide +kernel)
theorem dX6_append_4 : decode cX6_append 4 = .ok (.ifCond .ne 23, 3) := dq_154 (b1 := 0) (b2 := 23) (by decide +kernel) (by decide)
theorem dX6_append_7 : decode cX6_append 7 = .ok (.aload_n 0, 1) := dq_42 (by decide +kernel)
theorem dX6_append_8 : decode cX6_append 8 = .ok (.getfield 11, 3) := dq_180 (b1 := 0) (b2 := 11) (by decide +kernel) (by decide)
theorem dX6_byteAt_0 : decode cX6_byteAt 0 = .ok (.iload_n 1, 1) := dq_27 (by decide +kernel)
theorem dX6_byteAt_1 : decode cX6_byteAt 1 = .ok (.ifCond .lt 20, 3) := dq_155 (b1 := 0) (b2 := 20) (by decide +kernel) (by decide)
theorem dX6_byteAt_12 : decode cX6_byteAt 12 = .ok (.aload_n 0, 1) := dq_42 (by decide +kernel)
theorem dX6_byteAt_13 : decode cX6_byteAt 13 = .ok (.getfield 11, 3) := dq_180 (b1 := 0) (b2 := 11) (by decide +kernel) (by decide)
theorem dX6_byteAt_16 : decode cX6_byteAt 16 = .ok (.iload_n 1, 1) := dq_27 (by decide +kernel)
theorem dX6_byteAt_17 : decode cX6_byteAt 17 = .ok (.iaload, 1) := dq_46 (by decide +kernel)
theorem dX6_byteAt_18 : decode cX6_byteAt 18 = .ok (.goto 4, 3) := dq_167 (b1 := 0) (b2 := 4) (by decide +kernel) (by decide)
theorem dX6_byteAt_21 : decode cX6_byteAt 21 = .ok (.iconst (-1), 1) := dq_2 (by decide +kernel)
theorem dX6_byteAt_22 : decode cX6_byteAt 22 = .ok (.ireturn, 1) := dq_172 (by decide +kernel)
theorem dX6_byteAt_4 : decode cX6_byteAt 4 = .ok (.iload_n 1, 1) := dq_27 (by decide +kernel)
theorem dX6_byteAt_5 : decode cX6_byteAt 5 = .ok (.aload_n 0, 1) := dq_42 (by decide +kernel)
theorem dX6_byteAt_6 : decode cX6_byteAt 6 = .ok (.getfield 22, 3) := dq_180 (b1 := 0) (b2 := 22) (by decide +kernel) (by decide)
theorem dX6_byteAt_9 : decode cX6_byteAt 9 = .ok (.if_icmp .ge 12, 3) := dq_162 (b1 := 0) (b2 := 12) (by decide +kernel) (by decide)
theorem dX6_fail_0 : decode cX6_fail 0 = .ok (.aload_n 0, 1) := dq_42 (by decide +kernel)
theorem dX6_fail_1 : decode cX6_fail 1 = .ok (.getfield 30, 3) := dq_180 (b1 := 0) (b2 := 30) (by decide +kernel) (by decide)
theorem dX6_fail_12 : decode cX6_fail 12 = .ok (.aload_n 0, 1) := dq_42 (by decide +kernel)
theorem dX6_fail_13 : decode cX6_fail 13 = .ok (.aload_n 0, 1) := dq_42 (by decide +kernel)
theorem dX6_fail_14 : decode cX6_fail 14 = .ok (.getfield 36, 3) := dq_180 (b1 := 0) (b2 := 36) (by decide +kernel) (by decide)
theorem dX6_fail_17 : decode cX6_fail 17 = .ok (.putfield 33, 3) := dq_181 (b1 := 0) (b2 := 33) (by decide +kernel) (by decide)
theorem dX6_fail_20 : decode cX6_fail 20 = .ok (.return_, 1) := dq_177 (by decide +kernel)
theorem dX6_fail_4 : decode cX6_fail 4 = .ok (.ifCond .ne 16, 3) := dq_154 (b1 := 0) (b2 := 16) (by decide +kernel) (by decide)
theorem dX6_fail_7 : decode cX6_fail 7 = .ok (.aload_n 0, 1) := dq_42 (by decide +kernel)
theorem dX6_fail_8 : decode cX6_fail 8 = .ok (.iload_n 1, 1) := dq_27 (by decide +kernel)
theorem dX6_fail_9 : decode cX6_fail 9 = .ok (.putfield 30, 3) := dq_181 (b1 := 0) (b2 := 30) (by decide +kernel) (by decide)
theorem dX6_figuresHere_0 : decode cX6_figuresHere 0 = .ok (.iconst 0, 1) := dq_3 (by decide +kernel)
theorem dX6_figuresHere_1 : decode cX6_figuresHere 1 = .ok (.istore_n 1, 1) := dq_60 (by decide +kernel)
theorem dX6_figuresHere_10 : decode cX6_figuresHere 10 = .ok (.getfield 36, 3) := dq_180 (b1 := 0) (b2 := 36) (by decide +kernel) (by decide)
theorem dX6_figuresHere_13 : decode cX6_figuresHere 13 = .ok (.iload_n 1, 1) := dq_27 (by decide +kernel)
theorem dX6_figuresHere_14 : decode cX6_figuresHere 14 = .ok (.iadd, 1) := dq_96 (by decide +kernel)
theorem dX6_figuresHere_15 : decode cX6_figuresHere 15 = .ok (.invokevirtual 71, 3) := dq_182 (b1 := 0) (b2 := 71) (by decide +kernel) (by decide)
theorem dX6_figuresHere_18 : decode cX6_figuresHere 18 = .ok (.invokestatic 104, 3) := dq_184 (b1 := 0) (b2 := 104) (by decide +kernel) (by decide)
theorem dX6_figuresHere_2 : decode cX6_figuresHere 2 = .ok (.iload_n 1, 1) := dq_27 (by decide +kernel)
theorem dX6_figuresHere_21 : decode cX6_figuresHere 21 = .ok (.ifCond .eq 9, 3) := dq_153 (b1 := 0) (b2 := 9) (by decide +kernel) (by decide)
theorem dX6_figuresHere_24 : decode cX6_figuresHere 24 = .ok (.iinc 1 1, 3) := dq_132 (b1 := 1) (b2 := 1) (by decide +kernel) (by decide) (by decide)
theorem dX6_figuresHere_27 : decode cX6_figuresHere 27 = .ok (.goto (-25), 3) := dq_167 (b1 := 255) (b2 := 231) (by decide +kernel) (by decide)
theorem dX6_figuresHere_3 : decode cX6_figuresHere 3 = .ok (.bipush 120, 2) := dq_16 (b1 := 120) (by decide +kernel) (by decide)
theorem dX6_figuresHere_30 : decode cX6_figuresHere 30 = .ok (.iload_n 1, 1) := dq_27 (by decide +kernel)
theorem dX6_figuresHere_31 : decode cX6_figuresHere 31 = .ok (.ireturn, 1) := dq_172 (by decide +kernel)
theorem dX6_figuresHere_5 : decode cX6_figuresHere 5 = .ok (.if_icmp .ge 25, 3) := dq_162 (b1 := 0) (b2 := 25) (by decide +kernel) (by decide)
theorem dX6_figuresHere_8 : decode cX6_figuresHere 8 = .ok (.aload_n 0, 1) := dq_42 (by decide +kernel)
theorem dX6_figuresHere_9 : decode cX6_figuresHere 9 = .ok (.aload_n 0, 1) := dq_42 (by decide +kernel)
theorem dX6_isFigure_0 : decode cX6_isFigure 0 = .ok (.iload_n 0, 1) := dq_26 (by decide +kernel)
theorem dX6_isFigure_1 : decode cX6_isFigure 1 = .ok (.bipush 48, 2) := dq_16 (b1 := 48) (by decide +kernel) (by decide)
theorem dX6_isFigure_12 : decode cX6_isFigure 12 = .ok (.iconst 1, 1) := dq_4 (by decide +kernel)
theorem dX6_isFigure_13 : decode cX6_isFigure 13 = .ok (.goto 4, 3) := dq_167 (b1 := 0) (b2 := 4) (by decide +kernel) (by decide)
theorem dX6_isFigure_16 : decode cX6_isFigure 16 = .ok (.iconst 0, 1) := dq_3 (by decide +kernel)
theorem dX6_isFigure_17 : decode cX6_isFigure 17 = .ok (.ireturn, 1) := dq_172 (by decide +kernel)
theorem dX6_isFigure_3 : decode cX6_isFigure 3 = .ok (.if_icmp .lt 13, 3) := dq_161 (b1 := 0) (b2 := 13) (by decide +kernel) (by decide)
theorem dX6_isFigure_6 : decode cX6_isFigure 6 = .ok (.iload_n 0, 1) := dq_26 (by decide +kernel)
theorem dX6_isFigure_7 : decode cX6_isFigure 7 = .ok (.bipush 57, 2) := dq_16 (b1 := 57) (by decide +kernel) (by decide)
theorem dX6_isFigure_9 : decode cX6_isFigure 9 = .ok (.if_icmp .gt 7, 3) := dq_163 (b1 := 0) (b2 := 7) (by decide +kernel) (by decide)
theorem dX6_isFull_0 : decode cX6_isFull 0 = .ok (.aload_n 0, 1) := dq_42 (by decide +kernel)
theorem dX6_isFull_1 : decode cX6_isFull 1 = .ok (.getfield 22, 3) := dq_180 (b1 := 0) (b2 := 22) (by decide +kernel) (by decide)
theorem dX6_isFull_10 : decode cX6_isFull 10 = .ok (.goto 4, 3) := dq_167 (b1 := 0) (b2 := 4) (by decide +kernel) (by decide)
theorem dX6_isFull_13 : decode cX6_isFull 13 = .ok (.iconst 0, 1) := dq_3 (by decide +kernel)
theorem dX6_isFull_14 : decode cX6_isFull 14 = .ok (.ireturn, 1) := dq_172 (by decide +kernel)
theorem dX6_isFull_4 : decode cX6_isFull 4 = .ok (.bipush 120, 2) := dq_16 (b1 := 120) (by decide +kernel) (by decide)
theorem dX6_isFull_6 : decode cX6_isFull 6 = .ok (.if_icmp .lt 7, 3) := dq_161 (b1 := 0) (b2 := 7) (by decide +kernel) (by decide)
theorem dX6_isFull_9 : decode cX6_isFull 9 = .ok (.iconst 1, 1) := dq_4 (by decide +kernel)
theorem dX6_kindOf_0 : decode cX6_kindOf 0 = .ok (.iload_n 0, 1) := dq_26 (by decide +kernel)
theorem dX6_kindOf_1 : decode cX6_kindOf 1 = .ok (.lookupswitch 61 #[(98, 53), (100, 57), (104, 55), (115, 59), (118, 51)], 51) := by decide +kernel
theorem dX6_kindOf_52 : decode cX6_kindOf 52 = .ok (.iconst 1, 1) := dq_4 (by decide +kernel)
theorem dX6_kindOf_53 : decode cX6_kindOf 53 = .ok (.ireturn, 1) := dq_172 (by decide +kernel)
theorem dX6_kindOf_54 : decode cX6_kindOf 54 = .ok (.iconst 2, 1) := dq_5 (by decide +kernel)
theorem dX6_kindOf_55 : decode cX6_kindOf 55 = .ok (.ireturn, 1) := dq_172 (by decide +kernel)
theorem dX6_kindOf_56 : decode cX6_kindOf 56 = .ok (.iconst 3, 1) := dq_6 (by decide +kernel)
theorem dX6_kindOf_57 : decode cX6_kindOf 57 = .ok (.ireturn, 1) := dq_172 (by decide +kernel)
theorem dX6_kindOf_58 : decode cX6_kindOf 58 = .ok (.iconst 4, 1) := dq_7 (by decide +kernel)
theorem dX6_kindOf_59 : decode cX6_kindOf 59 = .ok (.ireturn, 1) := dq_172 (by decide +kernel)
theorem dX6_kindOf_60 : decode cX6_kindOf 60 = .ok (.iconst 5, 1) := dq_8 (by decide +kernel)
theorem dX6_kindOf_61 : decode cX6_kindOf 61 = .ok (.ireturn, 1) := dq_172 (by decide +kernel)
theorem dX6_kindOf_62 : decode cX6_kindOf 62 = .ok (.iconst 0, 1) := dq_3 (by decide +kernel)
theorem dX6_kindOf_63 : decode cX6_kindOf 63 = .ok (.ireturn, 1) := dq_172 (by decide +kernel)
theorem dX6_readByte_0 : decode cX6_readByte 0 = .ok (.aload_n 0, 1) := dq_42 (by decide +kernel)
theorem dX6_readByte_1 : decode cX6_readByte 1 = .ok (.aload_n 0, 1) := dq_42 (by decide +kernel)
theorem dX6_readByte_12 : decode cX6_readByte 12 = .ok (.aload_n 0, 1) := dq_42 (by decide +kernel)
theorem dX6_readByte_13 : decode cX6_readByte 13 = .ok (.dup, 1) := dq_89 (by decide +kernel)
theorem dX6_readByte_14 : decode cX6_readByte 14 = .ok (.getfield 36, 3) := dq_180 (b1 := 0) (b2 := 36) (by decide +kernel) (by decide)
theorem dX6_readByte_17 : decode cX6_readByte 17 = .ok (.iconst 1, 1) := dq_4 (by decide +kernel)
theorem dX6_readByte_18 : decode cX6_readByte 18 = .ok (.iadd, 1) := dq_96 (by decide +kernel)
theorem dX6_readByte_19 : decode cX6_readByte 19 = .ok (.putfield 36, 3) := dq_181 (b1 := 0) (b2 := 36) (by decide +kernel) (by decide)
theorem dX6_readByte_2 : decode cX6_readByte 2 = .ok (.getfield 36, 3) := dq_180 (b1 := 0) (b2 := 36) (by decide +kernel) (by decide)
theorem dX6_readByte_22 : decode cX6_readByte 22 = .ok (.goto 8, 3) := dq_167 (b1 := 0) (b2 := 8) (by decide +kernel) (by decide)
theorem dX6_readByte_25 : decode cX6_readByte 25 = .ok (.aload_n 0, 1) := dq_42 (by decide +kernel)
theorem dX6_readByte_26 : decode cX6_readByte 26 = .ok (.iconst 1, 1) := dq_4 (by decide +kernel)
theorem dX6_readByte_27 : decode cX6_readByte 27 = .ok (.invokevirtual 78, 3) := dq_182 (b1 := 0) (b2 := 78) (by decide +kernel) (by decide)
theorem dX6_readByte_30 : decode cX6_readByte 30 = .ok (.return_, 1) := dq_177 (by decide +kernel)
theorem dX6_readByte_5 : decode cX6_readByte 5 = .ok (.invokevirtual 71, 3) := dq_182 (b1 := 0) (b2 := 71) (by decide +kernel) (by decide)
theorem dX6_readByte_8 : decode cX6_readByte 8 = .ok (.iload_n 1, 1) := dq_27 (by decide +kernel)
theorem dX6_readByte_9 : decode cX6_readByte 9 = .ok (.if_icmp .ne 16, 3) := dq_160 (b1 := 0) (b2 := 16) (by decide +kernel) (by decide)
theorem dX6_readLaw_0 : decode cX6_readLaw 0 = .ok (.aload_n 0, 1) := dq_42 (by decide +kernel)
theorem dX6_readLaw_1 : decode cX6_readLaw 1 = .ok (.bipush 109, 2) := dq_16 (b1 := 109) (by decide +kernel) (by decide)
theorem dX6_readLaw_10 : decode cX6_readLaw 10 = .ok (.aload_n 0, 1) := dq_42 (by decide +kernel)
theorem dX6_readLaw_11 : decode cX6_readLaw 11 = .ok (.iconst 5, 1) := dq_8 (by decide +kernel)
theorem dX6_readLaw_12 : decode cX6_readLaw 12 = .ok (.bipush 15, 2) := dq_16 (b1 := 15) (by decide +kernel) (by decide)
theorem dX6_readLaw_14 : decode cX6_readLaw 14 = .ok (.invokevirtual 55, 3) := dq_182 (b1 := 0) (b2 := 55) (by decide +kernel) (by decide)
theorem dX6_readLaw_17 : decode cX6_readLaw 17 = .ok (.putfield 59, 3) := dq_181 (b1 := 0) (b2 := 59) (by decide +kernel) (by decide)
theorem dX6_readLaw_20 : decode cX6_readLaw 20 = .ok (.aload_n 0, 1) := dq_42 (by decide +kernel)
theorem dX6_readLaw_21 : decode cX6_readLaw 21 = .ok (.bipush 44, 2) := dq_16 (b1 := 44) (by decide +kernel) (by decide)
theorem dX6_readLaw_23 : decode cX6_readLaw 23 = .ok (.invokevirtual 51, 3) := dq_182 (b1 := 0) (b2 := 51) (by decide +kernel) (by decide)
theorem dX6_readLaw_26 : decode cX6_readLaw 26 = .ok (.aload_n 0, 1) := dq_42 (by decide +kernel)
theorem dX6_readLaw_27 : decode cX6_readLaw 27 = .ok (.getfield 18, 3) := dq_180 (b1 := 0) (b2 := 18) (by decide +kernel) (by decide)
theorem dX6_readLaw_3 : decode cX6_readLaw 3 = .ok (.invokevirtual 51, 3) := dq_182 (b1 := 0) (b2 := 51) (by decide +kernel) (by decide)
theorem dX6_readLaw_30 : decode cX6_readLaw 30 = .ok (.aload_n 0, 1) := dq_42 (by decide +kernel)
theorem dX6_readLaw_31 : decode cX6_readLaw 31 = .ok (.iconst 0, 1) := dq_3 (by decide +kernel)
theorem dX6_readLaw_32 : decode cX6_readLaw 32 = .ok (.aload_n 0, 1) := dq_42 (by decide +kernel)
theorem dX6_readLaw_33 : decode cX6_readLaw 33 = .ok (.getfield 18, 3) := dq_180 (b1 := 0) (b2 := 18) (by decide +kernel) (by decide)
theorem dX6_readLaw_36 : decode cX6_readLaw 36 = .ok (.getfield 59, 3) := dq_180 (b1 := 0) (b2 := 59) (by decide +kernel) (by decide)
theorem dX6_readLaw_39 : decode cX6_readLaw 39 = .ok (.iconst 1, 1) := dq_4 (by decide +kernel)
theorem dX6_readLaw_40 : decode cX6_readLaw 40 = .ok (.isub, 1) := dq_100 (by decide +kernel)
theorem dX6_readLaw_41 : decode cX6_readLaw 41 = .ok (.invokevirtual 55, 3) := dq_182 (b1 := 0) (b2 := 55) (by decide +kernel) (by decide)
theorem dX6_readLaw_44 : decode cX6_readLaw 44 = .ok (.putfield 62, 3) := dq_181 (b1 := 0) (b2 := 62) (by decide +kernel) (by decide)
theorem dX6_readLaw_47 : decode cX6_readLaw 47 = .ok (.aload_n 0, 1) := dq_42 (by decide +kernel)
theorem dX6_readLaw_48 : decode cX6_readLaw 48 = .ok (.bipush 44, 2) := dq_16 (b1 := 44) (by decide +kernel) (by decide)
theorem dX6_readLaw_50 : decode cX6_readLaw 50 = .ok (.invokevirtual 51, 3) := dq_182 (b1 := 0) (b2 := 51) (by decide +kernel) (by decide)
theorem dX6_readLaw_53 : decode cX6_readLaw 53 = .ok (.aload_n 0, 1) := dq_42 (by decide +kernel)
theorem dX6_readLaw_54 : decode cX6_readLaw 54 = .ok (.getfield 18, 3) := dq_180 (b1 := 0) (b2 := 18) (by decide +kernel) (by decide)
theorem dX6_readLaw_57 : decode cX6_readLaw 57 = .ok (.aload_n 0, 1) := dq_42 (by decide +kernel)
theorem dX6_readLaw_58 : decode cX6_readLaw 58 = .ok (.iconst 0, 1) := dq_3 (by decide +kernel)
theorem dX6_readLaw_59 : decode cX6_readLaw 59 = .ok (.iconst 4, 1) := dq_7 (by decide +kernel)
theorem dX6_readLaw_6 : decode cX6_readLaw 6 = .ok (.aload_n 0, 1) := dq_42 (by decide +kernel)
theorem dX6_readLaw_60 : decode cX6_readLaw 60 = .ok (.invokevirtual 55, 3) := dq_182 (b1 := 0) (b2 := 55) (by decide +kernel) (by decide)
theorem dX6_readLaw_63 : decode cX6_readLaw 63 = .ok (.putfield 65, 3) := dq_181 (b1 := 0) (b2 := 65) (by decide +kernel) (by decide)
theorem dX6_readLaw_66 : decode cX6_readLaw 66 = .ok (.aload_n 0, 1) := dq_42 (by decide +kernel)
theorem dX6_readLaw_67 : decode cX6_readLaw 67 = .ok (.bipush 59, 2) := dq_16 (b1 := 59) (by decide +kernel) (by decide)
theorem dX6_readLaw_69 : decode cX6_readLaw 69 = .ok (.invokevirtual 51, 3) := dq_182 (b1 := 0) (b2 := 51) (by decide +kernel) (by decide)
theorem dX6_readLaw_7 : decode cX6_readLaw 7 = .ok (.getfield 18, 3) := dq_180 (b1 := 0) (b2 := 18) (by decide +kernel) (by decide)
theorem dX6_readLaw_72 : decode cX6_readLaw 72 = .ok (.return_, 1) := dq_177 (by decide +kernel)
theorem dX6_readNumber_0 : decode cX6_readNumber 0 = .ok (.aload_n 0, 1) := dq_42 (by decide +kernel)
theorem dX6_readNumber_1 : decode cX6_readNumber 1 = .ok (.invokevirtual 100, 3) := dq_182 (b1 := 0) (b2 := 100) (by decide +kernel) (by decide)
theorem dX6_readNumber_10 : decode cX6_readNumber 10 = .ok (.iload_n 3, 1) := dq_29 (by decide +kernel)
theorem dX6_readNumber_11 : decode cX6_readNumber 11 = .ok (.iconst 2, 1) := dq_5 (by decide +kernel)
theorem dX6_readNumber_12 : decode cX6_readNumber 12 = .ok (.if_icmp .le 10, 3) := dq_164 (b1 := 0) (b2 := 10) (by decide +kernel) (by decide)
theorem dX6_readNumber_15 : decode cX6_readNumber 15 = .ok (.aload_n 0, 1) := dq_42 (by decide +kernel)
theorem dX6_readNumber_16 : decode cX6_readNumber 16 = .ok (.iconst 1, 1) := dq_4 (by decide +kernel)
theorem dX6_readNumber_17 : decode cX6_readNumber 17 = .ok (.invokevirtual 78, 3) := dq_182 (b1 := 0) (b2 := 78) (by decide +kernel) (by decide)
theorem dX6_readNumber_20 : decode cX6_readNumber 20 = .ok (.iconst 0, 1) := dq_3 (by decide +kernel)
theorem dX6_readNumber_21 : decode cX6_readNumber 21 = .ok (.ireturn, 1) := dq_172 (by decide +kernel)
theorem dX6_readNumber_22 : decode cX6_readNumber 22 = .ok (.iconst 0, 1) := dq_3 (by decide +kernel)
theorem dX6_readNumber_23 : decode cX6_readNumber 23 = .ok (.istore 4, 2) := dq_54 (b1 := 4) (by decide +kernel) (by decide)
theorem dX6_readNumber_25 : decode cX6_readNumber 25 = .ok (.iconst 0, 1) := dq_3 (by decide +kernel)
theorem dX6_readNumber_26 : decode cX6_readNumber 26 = .ok (.istore 5, 2) := dq_54 (b1 := 5) (by decide +kernel) (by decide)
theorem dX6_readNumber_28 : decode cX6_readNumber 28 = .ok (.iload 5, 2) := dq_21 (b1 := 5) (by decide +kernel) (by decide)
theorem dX6_readNumber_30 : decode cX6_readNumber 30 = .ok (.iload_n 3, 1) := dq_29 (by decide +kernel)
theorem dX6_readNumber_31 : decode cX6_readNumber 31 = .ok (.if_icmp .ge 31, 3) := dq_162 (b1 := 0) (b2 := 31) (by decide +kernel) (by decide)
theorem dX6_readNumber_34 : decode cX6_readNumber 34 = .ok (.iload 4, 2) := dq_21 (b1 := 4) (by decide +kernel) (by decide)
theorem dX6_readNumber_36 : decode cX6_readNumber 36 = .ok (.bipush 10, 2) := dq_16 (b1 := 10) (by decide +kernel) (by decide)
theorem dX6_readNumber_38 : decode cX6_readNumber 38 = .ok (.imul, 1) := dq_104 (by decide +kernel)
theorem dX6_readNumber_39 : decode cX6_readNumber 39 = .ok (.aload_n 0, 1) := dq_42 (by decide +kernel)
theorem dX6_readNumber_4 : decode cX6_readNumber 4 = .ok (.istore_n 3, 1) := dq_62 (by decide +kernel)
theorem dX6_readNumber_40 : decode cX6_readNumber 40 = .ok (.aload_n 0, 1) := dq_42 (by decide +kernel)
theorem dX6_readNumber_41 : decode cX6_readNumber 41 = .ok (.getfield 36, 3) := dq_180 (b1 := 0) (b2 := 36) (by decide +kernel) (by decide)
theorem dX6_readNumber_44 : decode cX6_readNumber 44 = .ok (.iload 5, 2) := dq_21 (b1 := 5) (by decide +kernel) (by decide)
theorem dX6_readNumber_46 : decode cX6_readNumber 46 = .ok (.iadd, 1) := dq_96 (by decide +kernel)
theorem dX6_readNumber_47 : decode cX6_readNumber 47 = .ok (.invokevirtual 71, 3) := dq_182 (b1 := 0) (b2 := 71) (by decide +kernel) (by decide)
theorem dX6_readNumber_5 : decode cX6_readNumber 5 = .ok (.iload_n 3, 1) := dq_29 (by decide +kernel)
theorem dX6_readNumber_50 : decode cX6_readNumber 50 = .ok (.iadd, 1) := dq_96 (by decide +kernel)
theorem dX6_readNumber_51 : decode cX6_readNumber 51 = .ok (.bipush 48, 2) := dq_16 (b1 := 48) (by decide +kernel) (by decide)
theorem dX6_readNumber_53 : decode cX6_readNumber 53 = .ok (.isub, 1) := dq_100 (by decide +kernel)
theorem dX6_readNumber_54 : decode cX6_readNumber 54 = .ok (.istore 4, 2) := dq_54 (b1 := 4) (by decide +kernel) (by decide)
theorem dX6_readNumber_56 : decode cX6_readNumber 56 = .ok (.iinc 5 1, 3) := dq_132 (b1 := 5) (b2 := 1) (by decide +kernel) (by decide) (by decide)
theorem dX6_readNumber_59 : decode cX6_readNumber 59 = .ok (.goto (-31), 3) := dq_167 (b1 := 255) (b2 := 225) (by decide +kernel) (by decide)
theorem dX6_readNumber_6 : decode cX6_readNumber 6 = .ok (.iconst 1, 1) := dq_4 (by decide +kernel)
theorem dX6_readNumber_62 : decode cX6_readNumber 62 = .ok (.iload 4, 2) := dq_21 (b1 := 4) (by decide +kernel) (by decide)
theorem dX6_readNumber_64 : decode cX6_readNumber 64 = .ok (.iload_n 1, 1) := dq_27 (by decide +kernel)
theorem dX6_readNumber_65 : decode cX6_readNumber 65 = .ok (.if_icmp .lt 9, 3) := dq_161 (b1 := 0) (b2 := 9) (by decide +kernel) (by decide)
theorem dX6_readNumber_68 : decode cX6_readNumber 68 = .ok (.iload 4, 2) := dq_21 (b1 := 4) (by decide +kernel) (by decide)
theorem dX6_readNumber_7 : decode cX6_readNumber 7 = .ok (.if_icmp .lt 8, 3) := dq_161 (b1 := 0) (b2 := 8) (by decide +kernel) (by decide)
theorem dX6_readNumber_70 : decode cX6_readNumber 70 = .ok (.iload_n 2, 1) := dq_28 (by decide +kernel)
theorem dX6_readNumber_71 : decode cX6_readNumber 71 = .ok (.if_icmp .le 10, 3) := dq_164 (b1 := 0) (b2 := 10) (by decide +kernel) (by decide)
theorem dX6_readNumber_74 : decode cX6_readNumber 74 = .ok (.aload_n 0, 1) := dq_42 (by decide +kernel)
theorem dX6_readNumber_75 : decode cX6_readNumber 75 = .ok (.iconst 2, 1) := dq_5 (by decide +kernel)
theorem dX6_readNumber_76 : decode cX6_readNumber 76 = .ok (.invokevirtual 78, 3) := dq_182 (b1 := 0) (b2 := 78) (by decide +kernel) (by decide)
theorem dX6_readNumber_79 : decode cX6_readNumber 79 = .ok (.iconst 0, 1) := dq_3 (by decide +kernel)
theorem dX6_readNumber_80 : decode cX6_readNumber 80 = .ok (.ireturn, 1) := dq_172 (by decide +kernel)
theorem dX6_readNumber_81 : decode cX6_readNumber 81 = .ok (.aload_n 0, 1) := dq_42 (by decide +kernel)
theorem dX6_readNumber_82 : decode cX6_readNumber 82 = .ok (.dup, 1) := dq_89 (by decide +kernel)
theorem dX6_readNumber_83 : decode cX6_readNumber 83 = .ok (.getfield 36, 3) := dq_180 (b1 := 0) (b2 := 36) (by decide +kernel) (by decide)
theorem dX6_readNumber_86 : decode cX6_readNumber 86 = .ok (.iload_n 3, 1) := dq_29 (by decide +kernel)
theorem dX6_readNumber_87 : decode cX6_readNumber 87 = .ok (.iadd, 1) := dq_96 (by decide +kernel)
theorem dX6_readNumber_88 : decode cX6_readNumber 88 = .ok (.putfield 36, 3) := dq_181 (b1 := 0) (b2 := 36) (by decide +kernel) (by decide)
theorem dX6_readNumber_91 : decode cX6_readNumber 91 = .ok (.iload 4, 2) := dq_21 (b1 := 4) (by decide +kernel) (by decide)
theorem dX6_readNumber_93 : decode cX6_readNumber 93 = .ok (.ireturn, 1) := dq_172 (by decide +kernel)
theorem dX6_readSound_0 : decode cX6_readSound 0 = .ok (.aload_n 0, 1) := dq_42 (by decide +kernel)
theorem dX6_readSound_1 : decode cX6_readSound 1 = .ok (.aload_n 0, 1) := dq_42 (by decide +kernel)
theorem dX6_readSound_100 : decode cX6_readSound 100 = .ok (.aload_n 0, 1) := dq_42 (by decide +kernel)
theorem dX6_readSound_101 : decode cX6_readSound 101 = .ok (.getfield 18, 3) := dq_180 (b1 := 0) (b2 := 18) (by decide +kernel) (by decide)
theorem dX6_readSound_104 : decode cX6_readSound 104 = .ok (.getfield 90, 3) := dq_180 (b1 := 0) (b2 := 90) (by decide +kernel) (by decide)
theorem dX6_readSound_107 : decode cX6_readSound 107 = .ok (.iload_n 1, 1) := dq_27 (by decide +kernel)
theorem dX6_readSound_108 : decode cX6_readSound 108 = .ok (.iastore, 1) := dq_79 (by decide +kernel)
theorem dX6_readSound_109 : decode cX6_readSound 109 = .ok (.aload_n 0, 1) := dq_42 (by decide +kernel)
theorem dX6_readSound_11 : decode cX6_readSound 11 = .ok (.istore_n 1, 1) := dq_60 (by decide +kernel)
theorem dX6_readSound_110 : decode cX6_readSound 110 = .ok (.getfield 18, 3) := dq_180 (b1 := 0) (b2 := 18) (by decide +kernel) (by decide)
theorem dX6_readSound_113 : decode cX6_readSound 113 = .ok (.aload_n 0, 1) := dq_42 (by decide +kernel)
theorem dX6_readSound_114 : decode cX6_readSound 114 = .ok (.getfield 18, 3) := dq_180 (b1 := 0) (b2 := 18) (by decide +kernel) (by decide)
theorem dX6_readSound_117 : decode cX6_readSound 117 = .ok (.getfield 90, 3) := dq_180 (b1 := 0) (b2 := 90) (by decide +kernel) (by decide)
theorem dX6_readSound_12 : decode cX6_readSound 12 = .ok (.iload_n 1, 1) := dq_27 (by decide +kernel)
theorem dX6_readSound_120 : decode cX6_readSound 120 = .ok (.iload_n 2, 1) := dq_28 (by decide +kernel)
theorem dX6_readSound_121 : decode cX6_readSound 121 = .ok (.iload_n 3, 1) := dq_29 (by decide +kernel)
theorem dX6_readSound_122 : decode cX6_readSound 122 = .ok (.invokevirtual 96, 3) := dq_182 (b1 := 0) (b2 := 96) (by decide +kernel) (by decide)
theorem dX6_readSound_125 : decode cX6_readSound 125 = .ok (.aload_n 0, 1) := dq_42 (by decide +kernel)
theorem dX6_readSound_126 : decode cX6_readSound 126 = .ok (.getfield 18, 3) := dq_180 (b1 := 0) (b2 := 18) (by decide +kernel) (by decide)
theorem dX6_readSound_129 : decode cX6_readSound 129 = .ok (.dup, 1) := dq_89 (by decide +kernel)
theorem dX6_readSound_13 : decode cX6_readSound 13 = .ok (.ifCond .ne 11, 3) := dq_154 (b1 := 0) (b2 := 11) (by decide +kernel) (by decide)
theorem dX6_readSound_130 : decode cX6_readSound 130 = .ok (.getfield 90, 3) := dq_180 (b1 := 0) (b2 := 90) (by decide +kernel) (by decide)
theorem dX6_readSound_133 : decode cX6_readSound 133 = .ok (.iconst 1, 1) := dq_4 (by decide +kernel)
theorem dX6_readSound_134 : decode cX6_readSound 134 = .ok (.iadd, 1) := dq_96 (by decide +kernel)
theorem dX6_readSound_135 : decode cX6_readSound 135 = .ok (.putfield 90, 3) := dq_181 (b1 := 0) (b2 := 90) (by decide +kernel) (by decide)
theorem dX6_readSound_138 : decode cX6_readSound 138 = .ok (.return_, 1) := dq_177 (by decide +kernel)
theorem dX6_readSound_16 : decode cX6_readSound 16 = .ok (.aload_n 0, 1) := dq_42 (by decide +kernel)
theorem dX6_readSound_17 : decode cX6_readSound 17 = .ok (.iconst 1, 1) := dq_4 (by decide +kernel)
theorem dX6_readSound_18 : decode cX6_readSound 18 = .ok (.invokevirtual 78, 3) := dq_182 (b1 := 0) (b2 := 78) (by decide +kernel) (by decide)
theorem dX6_readSound_2 : decode cX6_readSound 2 = .ok (.getfield 36, 3) := dq_180 (b1 := 0) (b2 := 36) (by decide +kernel) (by decide)
theorem dX6_readSound_21 : decode cX6_readSound 21 = .ok (.goto 20, 3) := dq_167 (b1 := 0) (b2 := 20) (by decide +kernel) (by decide)
theorem dX6_readSound_24 : decode cX6_readSound 24 = .ok (.aload_n 0, 1) := dq_42 (by decide +kernel)
theorem dX6_readSound_25 : decode cX6_readSound 25 = .ok (.getfield 18, 3) := dq_180 (b1 := 0) (b2 := 18) (by decide +kernel) (by decide)
theorem dX6_readSound_28 : decode cX6_readSound 28 = .ok (.getfield 90, 3) := dq_180 (b1 := 0) (b2 := 90) (by decide +kernel) (by decide)
theorem dX6_readSound_31 : decode cX6_readSound 31 = .ok (.bipush 6, 2) := dq_16 (b1 := 6) (by decide +kernel) (by decide)
theorem dX6_readSound_33 : decode cX6_readSound 33 = .ok (.if_icmp .lt 8, 3) := dq_161 (b1 := 0) (b2 := 8) (by decide +kernel) (by decide)
theorem dX6_readSound_36 : decode cX6_readSound 36 = .ok (.aload_n 0, 1) := dq_42 (by decide +kernel)
theorem dX6_readSound_37 : decode cX6_readSound 37 = .ok (.iconst 3, 1) := dq_6 (by decide +kernel)
theorem dX6_readSound_38 : decode cX6_readSound 38 = .ok (.invokevirtual 78, 3) := dq_182 (b1 := 0) (b2 := 78) (by decide +kernel) (by decide)
theorem dX6_readSound_41 : decode cX6_readSound 41 = .ok (.aload_n 0, 1) := dq_42 (by decide +kernel)
theorem dX6_readSound_42 : decode cX6_readSound 42 = .ok (.dup, 1) := dq_89 (by decide +kernel)
theorem dX6_readSound_43 : decode cX6_readSound 43 = .ok (.getfield 36, 3) := dq_180 (b1 := 0) (b2 := 36) (by decide +kernel) (by decide)
theorem dX6_readSound_46 : decode cX6_readSound 46 = .ok (.iconst 1, 1) := dq_4 (by decide +kernel)
theorem dX6_readSound_47 : decode cX6_readSound 47 = .ok (.iadd, 1) := dq_96 (by decide +kernel)
theorem dX6_readSound_48 : decode cX6_readSound 48 = .ok (.putfield 36, 3) := dq_181 (b1 := 0) (b2 := 36) (by decide +kernel) (by decide)
theorem dX6_readSound_5 : decode cX6_readSound 5 = .ok (.invokevirtual 71, 3) := dq_182 (b1 := 0) (b2 := 71) (by decide +kernel) (by decide)
theorem dX6_readSound_51 : decode cX6_readSound 51 = .ok (.aload_n 0, 1) := dq_42 (by decide +kernel)
theorem dX6_readSound_52 : decode cX6_readSound 52 = .ok (.iconst 0, 1) := dq_3 (by decide +kernel)
theorem dX6_readSound_53 : decode cX6_readSound 53 = .ok (.aload_n 0, 1) := dq_42 (by decide +kernel)
theorem dX6_readSound_54 : decode cX6_readSound 54 = .ok (.getfield 18, 3) := dq_180 (b1 := 0) (b2 := 18) (by decide +kernel) (by decide)
theorem dX6_readSound_57 : decode cX6_readSound 57 = .ok (.getfield 59, 3) := dq_180 (b1 := 0) (b2 := 59) (by decide +kernel) (by decide)
theorem dX6_readSound_60 : decode cX6_readSound 60 = .ok (.iconst 1, 1) := dq_4 (by decide +kernel)
theorem dX6_readSound_61 : decode cX6_readSound 61 = .ok (.isub, 1) := dq_100 (by decide +kernel)
theorem dX6_readSound_62 : decode cX6_readSound 62 = .ok (.invokevirtual 55, 3) := dq_182 (b1 := 0) (b2 := 55) (by decide +kernel) (by decide)
theorem dX6_readSound_65 : decode cX6_readSound 65 = .ok (.istore_n 2, 1) := dq_61 (by decide +kernel)
theorem dX6_readSound_66 : decode cX6_readSound 66 = .ok (.aload_n 0, 1) := dq_42 (by decide +kernel)
theorem dX6_readSound_67 : decode cX6_readSound 67 = .ok (.bipush 44, 2) := dq_16 (b1 := 44) (by decide +kernel) (by decide)
theorem dX6_readSound_69 : decode cX6_readSound 69 = .ok (.invokevirtual 51, 3) := dq_182 (b1 := 0) (b2 := 51) (by decide +kernel) (by decide)
theorem dX6_readSound_72 : decode cX6_readSound 72 = .ok (.aload_n 0, 1) := dq_42 (by decide +kernel)
theorem dX6_readSound_73 : decode cX6_readSound 73 = .ok (.iconst 1, 1) := dq_4 (by decide +kernel)
theorem dX6_readSound_74 : decode cX6_readSound 74 = .ok (.bipush 20, 2) := dq_16 (b1 := 20) (by decide +kernel) (by decide)
theorem dX6_readSound_76 : decode cX6_readSound 76 = .ok (.invokevirtual 55, 3) := dq_182 (b1 := 0) (b2 := 55) (by decide +kernel) (by decide)
theorem dX6_readSound_79 : decode cX6_readSound 79 = .ok (.istore_n 3, 1) := dq_62 (by decide +kernel)
theorem dX6_readSound_8 : decode cX6_readSound 8 = .ok (.invokestatic 87, 3) := dq_184 (b1 := 0) (b2 := 87) (by decide +kernel) (by decide)
theorem dX6_readSound_80 : decode cX6_readSound 80 = .ok (.aload_n 0, 1) := dq_42 (by decide +kernel)
theorem dX6_readSound_81 : decode cX6_readSound 81 = .ok (.bipush 59, 2) := dq_16 (b1 := 59) (by decide +kernel) (by decide)
theorem dX6_readSound_83 : decode cX6_readSound 83 = .ok (.invokevirtual 51, 3) := dq_182 (b1 := 0) (b2 := 51) (by decide +kernel) (by decide)
theorem dX6_readSound_86 : decode cX6_readSound 86 = .ok (.aload_n 0, 1) := dq_42 (by decide +kernel)
theorem dX6_readSound_87 : decode cX6_readSound 87 = .ok (.getfield 30, 3) := dq_180 (b1 := 0) (b2 := 30) (by decide +kernel) (by decide)
theorem dX6_readSound_90 : decode cX6_readSound 90 = .ok (.ifCond .ne 48, 3) := dq_154 (b1 := 0) (b2 := 48) (by decide +kernel) (by decide)
theorem dX6_readSound_93 : decode cX6_readSound 93 = .ok (.aload_n 0, 1) := dq_42 (by decide +kernel)
theorem dX6_readSound_94 : decode cX6_readSound 94 = .ok (.getfield 18, 3) := dq_180 (b1 := 0) (b2 := 18) (by decide +kernel) (by decide)
theorem dX6_readSound_97 : decode cX6_readSound 97 = .ok (.getfield 93, 3) := dq_180 (b1 := 0) (b2 := 93) (by decide +kernel) (by decide)
theorem dX6_readSounds_0 : decode cX6_readSounds 0 = .ok (.aload_n 0, 1) := dq_42 (by decide +kernel)
theorem dX6_readSounds_1 : decode cX6_readSounds 1 = .ok (.invokevirtual 84, 3) := dq_182 (b1 := 0) (b2 := 84) (by decide +kernel) (by decide)
theorem dX6_readSounds_12 : decode cX6_readSounds 12 = .ok (.aload_n 0, 1) := dq_42 (by decide +kernel)
theorem dX6_readSounds_13 : decode cX6_readSounds 13 = .ok (.getfield 30, 3) := dq_180 (b1 := 0) (b2 := 30) (by decide +kernel) (by decide)
theorem dX6_readSounds_16 : decode cX6_readSounds 16 = .ok (.ifCond .ne 25, 3) := dq_154 (b1 := 0) (b2 := 25) (by decide +kernel) (by decide)
theorem dX6_readSounds_19 : decode cX6_readSounds 19 = .ok (.aload_n 0, 1) := dq_42 (by decide +kernel)
theorem dX6_readSounds_20 : decode cX6_readSounds 20 = .ok (.aload_n 0, 1) := dq_42 (by decide +kernel)
theorem dX6_readSounds_21 : decode cX6_readSounds 21 = .ok (.getfield 36, 3) := dq_180 (b1 := 0) (b2 := 36) (by decide +kernel) (by decide)
theorem dX6_readSounds_24 : decode cX6_readSounds 24 = .ok (.invokevirtual 71, 3) := dq_182 (b1 := 0) (b2 := 71) (by decide +kernel) (by decide)
theorem dX6_readSounds_27 : decode cX6_readSounds 27 = .ok (.iconst (-1), 1) := dq_2 (by decide +kernel)
theorem dX6_readSounds_28 : decode cX6_readSounds 28 = .ok (.if_icmp .eq 13, 3) := dq_159 (b1 := 0) (b2 := 13) (by decide +kernel) (by decide)
theorem dX6_readSounds_31 : decode cX6_readSounds 31 = .ok (.aload_n 0, 1) := dq_42 (by decide +kernel)
theorem dX6_readSounds_32 : decode cX6_readSounds 32 = .ok (.invokevirtual 84, 3) := dq_182 (b1 := 0) (b2 := 84) (by decide +kernel) (by decide)
theorem dX6_readSounds_35 : decode cX6_readSounds 35 = .ok (.iinc 1 1, 3) := dq_132 (b1 := 1) (b2 := 1) (by decide +kernel) (by decide) (by decide)
theorem dX6_readSounds_38 : decode cX6_readSounds 38 = .ok (.goto (-32), 3) := dq_167 (b1 := 255) (b2 := 224) (by decide +kernel) (by decide)
theorem dX6_readSounds_4 : decode cX6_readSounds 4 = .ok (.iconst 0, 1) := dq_3 (by decide +kernel)
theorem dX6_readSounds_41 : decode cX6_readSounds 41 = .ok (.return_, 1) := dq_177 (by decide +kernel)
theorem dX6_readSounds_5 : decode cX6_readSounds 5 = .ok (.istore_n 1, 1) := dq_60 (by decide +kernel)
theorem dX6_readSounds_6 : decode cX6_readSounds 6 = .ok (.iload_n 1, 1) := dq_27 (by decide +kernel)
theorem dX6_readSounds_7 : decode cX6_readSounds 7 = .ok (.bipush 6, 2) := dq_16 (b1 := 6) (by decide +kernel) (by decide)
theorem dX6_readSounds_9 : decode cX6_readSounds 9 = .ok (.if_icmp .ge 32, 3) := dq_162 (b1 := 0) (b2 := 32) (by decide +kernel) (by decide)
theorem dX6_readWind_0 : decode cX6_readWind 0 = .ok (.aload_n 0, 1) := dq_42 (by decide +kernel)
theorem dX6_readWind_1 : decode cX6_readWind 1 = .ok (.getfield 30, 3) := dq_180 (b1 := 0) (b2 := 30) (by decide +kernel) (by decide)
theorem dX6_readWind_12 : decode cX6_readWind 12 = .ok (.invokevirtual 71, 3) := dq_182 (b1 := 0) (b2 := 71) (by decide +kernel) (by decide)
theorem dX6_readWind_15 : decode cX6_readWind 15 = .ok (.bipush 119, 2) := dq_16 (b1 := 119) (by decide +kernel) (by decide)
theorem dX6_readWind_17 : decode cX6_readWind 17 = .ok (.if_icmp .ne 20, 3) := dq_160 (b1 := 0) (b2 := 20) (by decide +kernel) (by decide)
theorem dX6_readWind_20 : decode cX6_readWind 20 = .ok (.aload_n 0, 1) := dq_42 (by decide +kernel)
theorem dX6_readWind_21 : decode cX6_readWind 21 = .ok (.getfield 18, 3) := dq_180 (b1 := 0) (b2 := 18) (by decide +kernel) (by decide)
theorem dX6_readWind_24 : decode cX6_readWind 24 = .ok (.getfield 75, 3) := dq_180 (b1 := 0) (b2 := 75) (by decide +kernel) (by decide)
theorem dX6_readWind_27 : decode cX6_readWind 27 = .ok (.bipush 6, 2) := dq_16 (b1 := 6) (by decide +kernel) (by decide)
theorem dX6_readWind_29 : decode cX6_readWind 29 = .ok (.if_icmp .lt 8, 3) := dq_161 (b1 := 0) (b2 := 8) (by decide +kernel) (by decide)
theorem dX6_readWind_32 : decode cX6_readWind 32 = .ok (.aload_n 0, 1) := dq_42 (by decide +kernel)
theorem dX6_readWind_33 : decode cX6_readWind 33 = .ok (.iconst 3, 1) := dq_6 (by decide +kernel)
theorem dX6_readWind_34 : decode cX6_readWind 34 = .ok (.invokevirtual 78, 3) := dq_182 (b1 := 0) (b2 := 78) (by decide +kernel) (by decide)
theorem dX6_readWind_37 : decode cX6_readWind 37 = .ok (.aload_n 0, 1) := dq_42 (by decide +kernel)
theorem dX6_readWind_38 : decode cX6_readWind 38 = .ok (.bipush 119, 2) := dq_16 (b1 := 119) (by decide +kernel) (by decide)
theorem dX6_readWind_4 : decode cX6_readWind 4 = .ok (.ifCond .ne 33, 3) := dq_154 (b1 := 0) (b2 := 33) (by decide +kernel) (by decide)
theorem dX6_readWind_40 : decode cX6_readWind 40 = .ok (.invokevirtual 51, 3) := dq_182 (b1 := 0) (b2 := 51) (by decide +kernel) (by decide)
theorem dX6_readWind_43 : decode cX6_readWind 43 = .ok (.aload_n 0, 1) := dq_42 (by decide +kernel)
theorem dX6_readWind_44 : decode cX6_readWind 44 = .ok (.iconst 0, 1) := dq_3 (by decide +kernel)
theorem dX6_readWind_45 : decode cX6_readWind 45 = .ok (.iconst 4, 1) := dq_7 (by decide +kernel)
theorem dX6_readWind_46 : decode cX6_readWind 46 = .ok (.invokevirtual 55, 3) := dq_182 (b1 := 0) (b2 := 55) (by decide +kernel) (by decide)
theorem dX6_readWind_49 : decode cX6_readWind 49 = .ok (.istore_n 1, 1) := dq_60 (by decide +kernel)
theorem dX6_readWind_50 : decode cX6_readWind 50 = .ok (.aload_n 0, 1) := dq_42 (by decide +kernel)
theorem dX6_readWind_51 : decode cX6_readWind 51 = .ok (.bipush 59, 2) := dq_16 (b1 := 59) (by decide +kernel) (by decide)
theorem dX6_readWind_53 : decode cX6_readWind 53 = .ok (.invokevirtual 51, 3) := dq_182 (b1 := 0) (b2 := 51) (by decide +kernel) (by decide)
theorem dX6_readWind_56 : decode cX6_readWind 56 = .ok (.aload_n 0, 1) := dq_42 (by decide +kernel)
theorem dX6_readWind_57 : decode cX6_readWind 57 = .ok (.getfield 30, 3) := dq_180 (b1 := 0) (b2 := 30) (by decide +kernel) (by decide)
theorem dX6_readWind_60 : decode cX6_readWind 60 = .ok (.ifCond .ne 32, 3) := dq_154 (b1 := 0) (b2 := 32) (by decide +kernel) (by decide)
theorem dX6_readWind_63 : decode cX6_readWind 63 = .ok (.aload_n 0, 1) := dq_42 (by decide +kernel)
theorem dX6_readWind_64 : decode cX6_readWind 64 = .ok (.getfield 18, 3) := dq_180 (b1 := 0) (b2 := 18) (by decide +kernel) (by decide)
theorem dX6_readWind_67 : decode cX6_readWind 67 = .ok (.getfield 81, 3) := dq_180 (b1 := 0) (b2 := 81) (by decide +kernel) (by decide)
theorem dX6_readWind_7 : decode cX6_readWind 7 = .ok (.aload_n 0, 1) := dq_42 (by decide +kernel)
theorem dX6_readWind_70 : decode cX6_readWind 70 = .ok (.aload_n 0, 1) := dq_42 (by decide +kernel)
theorem dX6_readWind_71 : decode cX6_readWind 71 = .ok (.getfield 18, 3) := dq_180 (b1 := 0) (b2 := 18) (by decide +kernel) (by decide)
theorem dX6_readWind_74 : decode cX6_readWind 74 = .ok (.getfield 75, 3) := dq_180 (b1 := 0) (b2 := 75) (by decide +kernel) (by decide)
theorem dX6_readWind_77 : decode cX6_readWind 77 = .ok (.iload_n 1, 1) := dq_27 (by decide +kernel)
theorem dX6_readWind_78 : decode cX6_readWind 78 = .ok (.iastore, 1) := dq_79 (by decide +kernel)
theorem dX6_readWind_79 : decode cX6_readWind 79 = .ok (.aload_n 0, 1) := dq_42 (by decide +kernel)
theorem dX6_readWind_8 : decode cX6_readWind 8 = .ok (.aload_n 0, 1) := dq_42 (by decide +kernel)
theorem dX6_readWind_80 : decode cX6_readWind 80 = .ok (.getfield 18, 3) := dq_180 (b1 := 0) (b2 := 18) (by decide +kernel) (by decide)
theorem dX6_readWind_83 : decode cX6_readWind 83 = .ok (.dup, 1) := dq_89 (by decide +kernel)
theorem dX6_readWind_84 : decode cX6_readWind 84 = .ok (.getfield 75, 3) := dq_180 (b1 := 0) (b2 := 75) (by decide +kernel) (by decide)
theorem dX6_readWind_87 : decode cX6_readWind 87 = .ok (.iconst 1, 1) := dq_4 (by decide +kernel)
theorem dX6_readWind_88 : decode cX6_readWind 88 = .ok (.iadd, 1) := dq_96 (by decide +kernel)
theorem dX6_readWind_89 : decode cX6_readWind 89 = .ok (.putfield 75, 3) := dq_181 (b1 := 0) (b2 := 75) (by decide +kernel) (by decide)
theorem dX6_readWind_9 : decode cX6_readWind 9 = .ok (.getfield 36, 3) := dq_180 (b1 := 0) (b2 := 36) (by decide +kernel) (by decide)
theorem dX6_readWind_92 : decode cX6_readWind 92 = .ok (.return_, 1) := dq_177 (by decide +kernel)
theorem dX6_readWinds_0 : decode cX6_readWinds 0 = .ok (.aload_n 0, 1) := dq_42 (by decide +kernel)
theorem dX6_readWinds_1 : decode cX6_readWinds 1 = .ok (.invokevirtual 68, 3) := dq_182 (b1 := 0) (b2 := 68) (by decide +kernel) (by decide)
theorem dX6_readWinds_12 : decode cX6_readWinds 12 = .ok (.aload_n 0, 1) := dq_42 (by decide +kernel)
theorem dX6_readWinds_13 : decode cX6_readWinds 13 = .ok (.getfield 30, 3) := dq_180 (b1 := 0) (b2 := 30) (by decide +kernel) (by decide)
theorem dX6_readWinds_16 : decode cX6_readWinds 16 = .ok (.ifCond .ne 26, 3) := dq_154 (b1 := 0) (b2 := 26) (by decide +kernel) (by decide)
theorem dX6_readWinds_19 : decode cX6_readWinds 19 = .ok (.aload_n 0, 1) := dq_42 (by decide +kernel)
theorem dX6_readWinds_20 : decode cX6_readWinds 20 = .ok (.aload_n 0, 1) := dq_42 (by decide +kernel)
theorem dX6_readWinds_21 : decode cX6_readWinds 21 = .ok (.getfield 36, 3) := dq_180 (b1 := 0) (b2 := 36) (by decide +kernel) (by decide)
theorem dX6_readWinds_24 : decode cX6_readWinds 24 = .ok (.invokevirtual 71, 3) := dq_182 (b1 := 0) (b2 := 71) (by decide +kernel) (by decide)
theorem dX6_readWinds_27 : decode cX6_readWinds 27 = .ok (.bipush 119, 2) := dq_16 (b1 := 119) (by decide +kernel) (by decide)
theorem dX6_readWinds_29 : decode cX6_readWinds 29 = .ok (.if_icmp .ne 13, 3) := dq_160 (b1 := 0) (b2 := 13) (by decide +kernel) (by decide)
theorem dX6_readWinds_32 : decode cX6_readWinds 32 = .ok (.aload_n 0, 1) := dq_42 (by decide +kernel)
theorem dX6_readWinds_33 : decode cX6_readWinds 33 = .ok (.invokevirtual 68, 3) := dq_182 (b1 := 0) (b2 := 68) (by decide +kernel) (by decide)
theorem dX6_readWinds_36 : decode cX6_readWinds 36 = .ok (.iinc 1 1, 3) := dq_132 (b1 := 1) (b2 := 1) (by decide +kernel) (by decide) (by decide)
theorem dX6_readWinds_39 : decode cX6_readWinds 39 = .ok (.goto (-33), 3) := dq_167 (b1 := 255) (b2 := 223) (by decide +kernel) (by decide)
theorem dX6_readWinds_4 : decode cX6_readWinds 4 = .ok (.iconst 0, 1) := dq_3 (by decide +kernel)
theorem dX6_readWinds_42 : decode cX6_readWinds 42 = .ok (.return_, 1) := dq_177 (by decide +kernel)
theorem dX6_readWinds_5 : decode cX6_readWinds 5 = .ok (.istore_n 1, 1) := dq_60 (by decide +kernel)
theorem dX6_readWinds_6 : decode cX6_readWinds 6 = .ok (.iload_n 1, 1) := dq_27 (by decide +kernel)
theorem dX6_readWinds_7 : decode cX6_readWinds 7 = .ok (.bipush 6, 2) := dq_16 (b1 := 6) (by decide +kernel) (by decide)
theorem dX6_readWinds_9 : decode cX6_readWinds 9 = .ok (.if_icmp .ge 33, 3) := dq_162 (b1 := 0) (b2 := 33) (by decide +kernel) (by decide)
theorem dX6_read_0 : decode cX6_read 0 = .ok (.aload_n 0, 1) := dq_42 (by decide +kernel)
theorem dX6_read_1 : decode cX6_read 1 = .ok (.iconst 0, 1) := dq_3 (by decide +kernel)
theorem dX6_read_10 : decode cX6_read 10 = .ok (.aload_n 0, 1) := dq_42 (by decide +kernel)
theorem dX6_read_11 : decode cX6_read 11 = .ok (.iconst 0, 1) := dq_3 (by decide +kernel)
theorem dX6_read_12 : decode cX6_read 12 = .ok (.putfield 36, 3) := dq_181 (b1 := 0) (b2 := 36) (by decide +kernel) (by decide)
theorem dX6_read_15 : decode cX6_read 15 = .ok (.aload_n 0, 1) := dq_42 (by decide +kernel)
theorem dX6_read_16 : decode cX6_read 16 = .ok (.getfield 18, 3) := dq_180 (b1 := 0) (b2 := 18) (by decide +kernel) (by decide)
theorem dX6_read_19 : decode cX6_read 19 = .ok (.invokevirtual 39, 3) := dq_182 (b1 := 0) (b2 := 39) (by decide +kernel) (by decide)
theorem dX6_read_2 : decode cX6_read 2 = .ok (.putfield 30, 3) := dq_181 (b1 := 0) (b2 := 30) (by decide +kernel) (by decide)
theorem dX6_read_22 : decode cX6_read 22 = .ok (.aload_n 0, 1) := dq_42 (by decide +kernel)
theorem dX6_read_23 : decode cX6_read 23 = .ok (.invokevirtual 42, 3) := dq_182 (b1 := 0) (b2 := 42) (by decide +kernel) (by decide)
theorem dX6_read_26 : decode cX6_read 26 = .ok (.aload_n 0, 1) := dq_42 (by decide +kernel)
theorem dX6_read_27 : decode cX6_read 27 = .ok (.invokevirtual 45, 3) := dq_182 (b1 := 0) (b2 := 45) (by decide +kernel) (by decide)
theorem dX6_read_30 : decode cX6_read 30 = .ok (.aload_n 0, 1) := dq_42 (by decide +kernel)
theorem dX6_read_31 : decode cX6_read 31 = .ok (.invokevirtual 48, 3) := dq_182 (b1 := 0) (b2 := 48) (by decide +kernel) (by decide)
theorem dX6_read_34 : decode cX6_read 34 = .ok (.aload_n 0, 1) := dq_42 (by decide +kernel)
theorem dX6_read_35 : decode cX6_read 35 = .ok (.iconst 0, 1) := dq_3 (by decide +kernel)
theorem dX6_read_36 : decode cX6_read 36 = .ok (.putfield 22, 3) := dq_181 (b1 := 0) (b2 := 22) (by decide +kernel) (by decide)
theorem dX6_read_39 : decode cX6_read 39 = .ok (.aload_n 0, 1) := dq_42 (by decide +kernel)
theorem dX6_read_40 : decode cX6_read 40 = .ok (.getfield 30, 3) := dq_180 (b1 := 0) (b2 := 30) (by decide +kernel) (by decide)
theorem dX6_read_43 : decode cX6_read 43 = .ok (.ireturn, 1) := dq_172 (by decide +kernel)
theorem dX6_read_5 : decode cX6_read 5 = .ok (.aload_n 0, 1) := dq_42 (by decide +kernel)
theorem dX6_read_6 : decode cX6_read 6 = .ok (.iconst 0, 1) := dq_3 (by decide +kernel)
theorem dX6_read_7 : decode cX6_read 7 = .ok (.putfield 33, 3) := dq_181 (b1 := 0) (b2 := 33) (by decide +kernel) (by decide)
theorem mx_X6_append_7 : Cond.code yX6_isFull cX6_isFull 1 (some .boolean) ∈ wsX6_append := by unfold wsX6_append; exact List.mem_cons_of_mem _ (List.mem_append_left _ (List.mem_of_getElem? (i := 6) rfl))
theorem mx_X6_append_2 : Cond.fieldLink RX6 22 "MillTalk$Tape" "size" "I" ∈ wsX6_append := by unfold wsX6_append; exact List.mem_cons_of_mem _ (List.mem_append_left _ (List.mem_of_getElem? (i := 1) rfl))
theorem mb_X6_append_wsX60 {w : Cond} (h : w ∈ wsX60) : w ∈ wsX6_append := by unfold wsX6_append; exact List.mem_cons_of_mem _ (List.mem_append_right _ (h))
theorem ggX6_append_X6_isFull : GoodIn wsX6_append wsX6_isFull := goodIn_sub (by unfold wsX6_isFull; exact List.forall_mem_cons.mpr ⟨mx_X6_append_7, List.forall_mem_append.mpr ⟨List.forall_mem_cons.mpr ⟨mx_X6_append_2, fun _ h_ => absurd h_ List.not_mem_nil⟩, (fun _ h_ => mb_X6_append_wsX60 h_)⟩⟩) (by decide +kernel)
theorem mx_X6_append_3 : Cond.methodLink RX6 26 yX6_isFull ∈ wsX6_append := by unfold wsX6_append; exact List.mem_cons_of_mem _ (List.mem_append_left _ (List.mem_of_getElem? (i := 2) rfl))
theorem mx_X6_append_4 : Cond.instanceMethod yX6_isFull ∈ wsX6_append := by unfold wsX6_append; exact List.mem_cons_of_mem _ (List.mem_append_left _ (List.mem_of_getElem? (i := 3) rfl))
theorem mx_X6_append_5 : Cond.selects RX6 yX6_isFull yX6_isFull ∈ wsX6_append := by unfold wsX6_append; exact List.mem_cons_of_mem _ (List.mem_append_left _ (List.mem_of_getElem? (i := 4) rfl))
theorem mx_X6_append_6 : Cond.initialized RX6 ∈ wsX6_append := by unfold wsX6_append; exact List.mem_cons_of_mem _ (List.mem_append_left _ (List.mem_of_getElem? (i := 5) rfl))
theorem gX6_append_X6_isFull : GoodIn wsX6_append (wsV RX6 26 RX6 yX6_isFull wsX6_isFull) := goodIn_app (goodIn_sub (List.forall_mem_cons.mpr ⟨mx_X6_append_3, List.forall_mem_cons.mpr ⟨mx_X6_append_4, List.forall_mem_cons.mpr ⟨mx_X6_append_5, List.forall_mem_cons.mpr ⟨mx_X6_append_6, fun _ h_ => absurd h_ List.not_mem_nil⟩⟩⟩⟩) (by decide +kernel)) ggX6_append_X6_isFull
theorem mx_X6_figuresHere_6 : Cond.code yX6_byteAt cX6_byteAt 2 (some .int) ∈ wsX6_figuresHere := by unfold wsX6_figuresHere; exact List.mem_cons_of_mem _ (List.mem_append_left _ (List.mem_of_getElem? (i := 5) rfl))
theorem mx_X6_figuresHere_7 : Cond.fieldLink RX6 22 "MillTalk$Tape" "size" "I" ∈ wsX6_figuresHere := by unfold wsX6_figuresHere; exact List.mem_cons_of_mem _ (List.mem_append_left _ (List.mem_of_getElem? (i := 6) rfl))
theorem mx_X6_figuresHere_8 : Cond.fieldLink RX6 11 "MillTalk$Tape" "bytes" "[I" ∈ wsX6_figuresHere := by unfold wsX6_figuresHere; exact List.mem_cons_of_mem _ (List.mem_append_left _ (List.mem_of_getElem? (i := 7) rfl))
theorem mb_X6_figuresHere_wsX60 {w : Cond} (h : w ∈ wsX60) : w ∈ wsX6_figuresHere := by unfold wsX6_figuresHere; exact List.mem_cons_of_mem _ (List.mem_append_right _ (h))
theorem ggX6_figuresHere_X6_byteAt : GoodIn wsX6_figuresHere wsX6_byteAt := goodIn_sub (by unfold wsX6_byteAt; exact List.forall_mem_cons.mpr ⟨mx_X6_figuresHere_6, List.forall_mem_append.mpr ⟨List.forall_mem_cons.mpr ⟨mx_X6_figuresHere_7, List.forall_mem_cons.mpr ⟨mx_X6_figuresHere_8, fun _ h_ => absurd h_ List.not_mem_nil⟩⟩, (fun _ h_ => mb_X6_figuresHere_wsX60 h_)⟩⟩) (by decide +kernel)
theorem mx_X6_figuresHere_2 : Cond.methodLink RX6 71 yX6_byteAt ∈ wsX6_figuresHere := by unfold wsX6_figuresHere; exact List.mem_cons_of_mem _ (List.mem_append_left _ (List.mem_of_getElem? (i := 1) rfl))
theorem mx_X6_figuresHere_3 : Cond.instanceMethod yX6_byteAt ∈ wsX6_figuresHere := by unfold wsX6_figuresHere; exact List.mem_cons_of_mem _ (List.mem_append_left _ (List.mem_of_getElem? (i := 2) rfl))
theorem mx_X6_figuresHere_4 : Cond.selects RX6 yX6_byteAt yX6_byteAt ∈ wsX6_figuresHere := by unfold wsX6_figuresHere; exact List.mem_cons_of_mem _ (List.mem_append_left _ (List.mem_of_getElem? (i := 3) rfl))
theorem mx_X6_figuresHere_5 : Cond.initialized RX6 ∈ wsX6_figuresHere := by unfold wsX6_figuresHere; exact List.mem_cons_of_mem _ (List.mem_append_left _ (List.mem_of_getElem? (i := 4) rfl))
theorem gX6_figuresHere_X6_byteAt : GoodIn wsX6_figuresHere (wsV RX6 71 RX6 yX6_byteAt wsX6_byteAt) := goodIn_app (goodIn_sub (List.forall_mem_cons.mpr ⟨mx_X6_figuresHere_2, List.forall_mem_cons.mpr ⟨mx_X6_figuresHere_3, List.forall_mem_cons.mpr ⟨mx_X6_figuresHere_4, List.forall_mem_cons.mpr ⟨mx_X6_figuresHere_5, fun _ h_ => absurd h_ List.not_mem_nil⟩⟩⟩⟩) (by decide +kernel)) ggX6_figuresHere_X6_byteAt
theorem mx_X6_figuresHere_11 : Cond.code yX6_isFigure cX6_isFigure 1 (some .boolean) ∈ wsX6_figuresHere := by unfold wsX6_figuresHere; exact List.mem_cons_of_mem _ (List.mem_append_left _ (List.mem_of_getElem? (i := 10) rfl))
theorem ggX6_figuresHere_X6_isFigure : GoodIn wsX6_figuresHere wsX6_isFigure := goodIn_sub (by unfold wsX6_isFigure; exact List.forall_mem_cons.mpr ⟨mx_X6_figuresHere_11, fun _ h_ => absurd h_ List.not_mem_nil⟩) (by decide +kernel)
set_option maxRecDepth 20000 in
theorem gX6_figuresHere_X6_isFigure : GoodIn wsX6_figuresHere (va_wsS RX6 104 yX6_isFigure wsX6_isFigure) := goodIn_app (goodIn_of _ (by decide +kernel)) ggX6_figuresHere_X6_isFigure
theorem mx_X6_readByte_6 : Cond.code yX6_byteAt cX6_byteAt 2 (some .int) ∈ wsX6_readByte := by unfold wsX6_readByte; exact List.mem_cons_of_mem _ (List.mem_append_left _ (List.mem_of_getElem? (i := 5) rfl))
theorem mx_X6_readByte_7 : Cond.fieldLink RX6 22 "MillTalk$Tape" "size" "I" ∈ wsX6_readByte := by unfold wsX6_readByte; exact List.mem_cons_of_mem _ (List.mem_append_left _ (List.mem_of_getElem? (i := 6) rfl))
theorem mx_X6_readByte_8 : Cond.fieldLink RX6 11 "MillTalk$Tape" "bytes" "[I" ∈ wsX6_readByte := by unfold wsX6_readByte; exact List.mem_cons_of_mem _ (List.mem_append_left _ (List.mem_of_getElem? (i := 7) rfl))
theorem mb_X6_readByte_wsX60 {w : Cond} (h : w ∈ wsX60) : w ∈ wsX6_readByte := by unfold wsX6_readByte; exact List.mem_cons_of_mem _ (List.mem_append_right _ (h))
theorem ggX6_readByte_X6_byteAt : GoodIn wsX6_readByte wsX6_byteAt := goodIn_sub (by unfold wsX6_byteAt; exact List.forall_mem_cons.mpr ⟨mx_X6_readByte_6, List.forall_mem_append.mpr ⟨List.forall_mem_cons.mpr ⟨mx_X6_readByte_7, List.forall_mem_cons.mpr ⟨mx_X6_readByte_8, fun _ h_ => absurd h_ List.not_mem_nil⟩⟩, (fun _ h_ => mb_X6_readByte_wsX60 h_)⟩⟩) (by decide +kernel)
theorem mx_X6_readByte_2 : Cond.methodLink RX6 71 yX6_byteAt ∈ wsX6_readByte := by unfold wsX6_readByte; exact List.mem_cons_of_mem _ (List.mem_append_left _ (List.mem_of_getElem? (i := 1) rfl))
theorem mx_X6_readByte_3 : Cond.instanceMethod yX6_byteAt ∈ wsX6_readByte := by unfold wsX6_readByte; exact List.mem_cons_of_mem _ (List.mem_append_left _ (List.mem_of_getElem? (i := 2) rfl))
theorem mx_X6_readByte_4 : Cond.selects RX6 yX6_byteAt yX6_byteAt ∈ wsX6_readByte := by unfold wsX6_readByte; exact List.mem_cons_of_mem _ (List.mem_append_left _ (List.mem_of_getElem? (i := 3) rfl))
theorem mx_X6_readByte_5 : Cond.initialized RX6 ∈ wsX6_readByte := by unfold wsX6_readByte; exact List.mem_cons_of_mem _ (List.mem_append_left _ (List.mem_of_getElem? (i := 4) rfl))
theorem gX6_readByte_X6_byteAt : GoodIn wsX6_readByte (wsV RX6 71 RX6 yX6_byteAt wsX6_byteAt) := goodIn_app (goodIn_sub (List.forall_mem_cons.mpr ⟨mx_X6_readByte_2, List.forall_mem_cons.mpr ⟨mx_X6_readByte_3, List.forall_mem_cons.mpr ⟨mx_X6_readByte_4, List.forall_mem_cons.mpr ⟨mx_X6_readByte_5, fun _ h_ => absurd h_ List.not_mem_nil⟩⟩⟩⟩) (by decide +kernel)) ggX6_readByte_X6_byteAt
theorem mx_X6_readByte_12 : Cond.code yX6_fail cX6_fail 2 none ∈ wsX6_readByte := by unfold wsX6_readByte; exact List.mem_cons_of_mem _ (List.mem_append_left _ (List.mem_of_getElem? (i := 11) rfl))
theorem mx_X6_readByte_13 : Cond.fieldLink RX6 30 "MillTalk$Tape" "fault" "I" ∈ wsX6_readByte := by unfold wsX6_readByte; exact List.mem_cons_of_mem _ (List.mem_append_left _ (List.mem_of_getElem? (i := 12) rfl))
theorem mx_X6_readByte_1 : Cond.fieldLink RX6 36 "MillTalk$Tape" "place" "I" ∈ wsX6_readByte := by unfold wsX6_readByte; exact List.mem_cons_of_mem _ (List.mem_append_left _ (List.mem_of_getElem? (i := 0) rfl))
theorem mx_X6_readByte_14 : Cond.fieldLink RX6 33 "MillTalk$Tape" "faultPlace" "I" ∈ wsX6_readByte := by unfold wsX6_readByte; exact List.mem_cons_of_mem _ (List.mem_append_left _ (List.mem_of_getElem? (i := 13) rfl))
theorem ggX6_readByte_X6_fail : GoodIn wsX6_readByte wsX6_fail := goodIn_sub (by unfold wsX6_fail; exact List.forall_mem_cons.mpr ⟨mx_X6_readByte_12, List.forall_mem_append.mpr ⟨List.forall_mem_cons.mpr ⟨mx_X6_readByte_13, List.forall_mem_cons.mpr ⟨mx_X6_readByte_1, List.forall_mem_cons.mpr ⟨mx_X6_readByte_14, fun _ h_ => absurd h_ List.not_mem_nil⟩⟩⟩, (fun _ h_ => mb_X6_readByte_wsX60 h_)⟩⟩) (by decide +kernel)
theorem mx_X6_readByte_9 : Cond.methodLink RX6 78 yX6_fail ∈ wsX6_readByte := by unfold wsX6_readByte; exact List.mem_cons_of_mem _ (List.mem_append_left _ (List.mem_of_getElem? (i := 8) rfl))
theorem mx_X6_readByte_10 : Cond.instanceMethod yX6_fail ∈ wsX6_readByte := by unfold wsX6_readByte; exact List.mem_cons_of_mem _ (List.mem_append_left _ (List.mem_of_getElem? (i := 9) rfl))
theorem mx_X6_readByte_11 : Cond.selects RX6 yX6_fail yX6_fail ∈ wsX6_readByte := by unfold wsX6_readByte; exact List.mem_cons_of_mem _ (List.mem_append_left _ (List.mem_of_getElem? (i := 10) rfl))
theorem gX6_readByte_X6_fail : GoodIn wsX6_readByte (wsV RX6 78 RX6 yX6_fail wsX6_fail) := goodIn_app (goodIn_sub (List.forall_mem_cons.mpr ⟨mx_X6_readByte_9, List.forall_mem_cons.mpr ⟨mx_X6_readByte_10, List.forall_mem_cons.mpr ⟨mx_X6_readByte_11, List.forall_mem_cons.mpr ⟨mx_X6_readByte_5, fun _ h_ => absurd h_ List.not_mem_nil⟩⟩⟩⟩) (by decide +kernel)) ggX6_readByte_X6_fail
theorem mb_X6_readLaw_wsX6_readLaw_r1 {w : Cond} (h : w ∈ wsX6_readLaw_r1) : w ∈ wsX6_readLaw := by unfold wsX6_readLaw; exact List.mem_cons_of_mem _ (List.mem_append_left _ (List.mem_append_left _ (List.mem_append_left _ (h))))
theorem mx_X6_readLaw_9 : Cond.code yX6_readByte cX6_readByte 2 none ∈ wsX6_readLaw := mb_X6_readLaw_wsX6_readLaw_r1 (List.mem_of_getElem? (i := 8) rfl)
theorem mx_X6_readLaw_10 : Cond.fieldLink RX6 36 "MillTalk$Tape" "place" "I" ∈ wsX6_readLaw := mb_X6_readLaw_wsX6_readLaw_r1 (List.mem_of_getElem? (i := 9) rfl)
theorem mx_X6_readLaw_11 : Cond.methodLink RX6 71 yX6_byteAt ∈ wsX6_readLaw := mb_X6_readLaw_wsX6_readLaw_r1 (List.mem_of_getElem? (i := 10) rfl)
theorem mx_X6_readLaw_12 : Cond.instanceMethod yX6_byteAt ∈ wsX6_readLaw := mb_X6_readLaw_wsX6_readLaw_r1 (List.mem_of_getElem? (i := 11) rfl)
theorem mx_X6_readLaw_13 : Cond.selects RX6 yX6_byteAt yX6_byteAt ∈ wsX6_readLaw := mb_X6_readLaw_wsX6_readLaw_r1 (List.mem_of_getElem? (i := 12) rfl)
theorem mx_X6_readLaw_8 : Cond.initialized RX6 ∈ wsX6_readLaw := mb_X6_readLaw_wsX6_readLaw_r1 (List.mem_of_getElem? (i := 7) rfl)
theorem mx_X6_readLaw_14 : Cond.code yX6_byteAt cX6_byteAt 2 (some .int) ∈ wsX6_readLaw := mb_X6_readLaw_wsX6_readLaw_r1 (List.mem_of_getElem? (i := 13) rfl)
theorem mx_X6_readLaw_15 : Cond.fieldLink RX6 22 "MillTalk$Tape" "size" "I" ∈ wsX6_readLaw := mb_X6_readLaw_wsX6_readLaw_r1 (List.mem_of_getElem? (i := 14) rfl)
theorem mx_X6_readLaw_16 : Cond.fieldLink RX6 11 "MillTalk$Tape" "bytes" "[I" ∈ wsX6_readLaw := mb_X6_readLaw_wsX6_readLaw_r1 (List.mem_of_getElem? (i := 15) rfl)
theorem mx_X6_readLaw_17 : Cond.methodLink RX6 78 yX6_fail ∈ wsX6_readLaw := mb_X6_readLaw_wsX6_readLaw_r1 (List.mem_of_getElem? (i := 16) rfl)
theorem mx_X6_readLaw_18 : Cond.instanceMethod yX6_fail ∈ wsX6_readLaw := mb_X6_readLaw_wsX6_readLaw_r1 (List.mem_of_getElem? (i := 17) rfl)
theorem mx_X6_readLaw_19 : Cond.selects RX6 yX6_fail yX6_fail ∈ wsX6_readLaw := mb_X6_readLaw_wsX6_readLaw_r1 (List.mem_of_getElem? (i := 18) rfl)
theorem mx_X6_readLaw_20 : Cond.code yX6_fail cX6_fail 2 none ∈ wsX6_readLaw := mb_X6_readLaw_wsX6_readLaw_r1 (List.mem_of_getElem? (i := 19) rfl)
theorem mx_X6_readLaw_21 : Cond.fieldLink RX6 30 "MillTalk$Tape" "fault" "I" ∈ wsX6_readLaw := mb_X6_readLaw_wsX6_readLaw_r1 (List.mem_of_getElem? (i := 20) rfl)
theorem mx_X6_readLaw_22 : Cond.fieldLink RX6 33 "MillTalk$Tape" "faultPlace" "I" ∈ wsX6_readLaw := mb_X6_readLaw_wsX6_readLaw_r1 (List.mem_of_getElem? (i := 21) rfl)
theorem mb_X6_readLaw_wsX60 {w : Cond} (h : w ∈ wsX60) : w ∈ wsX6_readLaw := by unfold wsX6_readLaw; exact List.mem_cons_of_mem _ (List.mem_append_left _ (List.mem_append_right _ (h)))
theorem ggX6_readLaw_X6_readByte : GoodIn wsX6_readLaw wsX6_readByte := goodIn_sub (by unfold wsX6_readByte; exact List.forall_mem_cons.mpr ⟨mx_X6_readLaw_9, List.forall_mem_append.mpr ⟨List.forall_mem_cons.mpr ⟨mx_X6_readLaw_10, List.forall_mem_cons.mpr ⟨mx_X6_readLaw_11, List.forall_mem_cons.mpr ⟨mx_X6_readLaw_12, List.forall_mem_cons.mpr ⟨mx_X6_readLaw_13, List.forall_mem_cons.mpr ⟨mx_X6_readLaw_8, List.forall_mem_cons.mpr ⟨mx_X6_readLaw_14, List.forall_mem_cons.mpr ⟨mx_X6_readLaw_15, List.forall_mem_cons.mpr ⟨mx_X6_readLaw_16, List.forall_mem_cons.mpr ⟨mx_X6_readLaw_17, List.forall_mem_cons.mpr ⟨mx_X6_readLaw_18, List.forall_mem_cons.mpr ⟨mx_X6_readLaw_19, List.forall_mem_cons.mpr ⟨mx_X6_readLaw_20, List.forall_mem_cons.mpr ⟨mx_X6_readLaw_21, List.forall_mem_cons.mpr ⟨mx_X6_readLaw_22, fun _ h_ => absurd h_ List.not_mem_nil⟩⟩⟩⟩⟩⟩⟩⟩⟩⟩⟩⟩⟩⟩, (fun _ h_ => mb_X6_readLaw_wsX60 h_)⟩⟩) (by decide +kernel)
theorem mx_X6_readLaw_5 : Cond.methodLink RX6 51 yX6_readByte ∈ wsX6_readLaw := mb_X6_readLaw_wsX6_readLaw_r1 (List.mem_of_getElem? (i := 4) rfl)
theorem mx_X6_readLaw_6 : Cond.instanceMethod yX6_readByte ∈ wsX6_readLaw := mb_X6_readLaw_wsX6_readLaw_r1 (List.mem_of_getElem? (i := 5) rfl)
theorem mx_X6_readLaw_7 : Cond.selects RX6 yX6_readByte yX6_readByte ∈ wsX6_readLaw := mb_X6_readLaw_wsX6_readLaw_r1 (List.mem_of_getElem? (i := 6) rfl)
theorem gX6_readLaw_X6_readByte : GoodIn wsX6_readLaw (wsV RX6 51 RX6 yX6_readByte wsX6_readByte) := goodIn_app (goodIn_sub (List.forall_mem_cons.mpr ⟨mx_X6_readLaw_5, List.forall_mem_cons.mpr ⟨mx_X6_readLaw_6, List.forall_mem_cons.mpr ⟨mx_X6_readLaw_7, List.forall_mem_cons.mpr ⟨mx_X6_readLaw_8, fun _ h_ => absurd h_ List.not_mem_nil⟩⟩⟩⟩) (by decide +kernel)) ggX6_readLaw_X6_readByte
theorem mb_X6_readLaw_wsX6_readLaw_r2 {w : Cond} (h : w ∈ wsX6_readLaw_r2) : w ∈ wsX6_readLaw := by unfold wsX6_readLaw; exact List.mem_cons_of_mem _ (List.mem_append_left _ (List.mem_append_left _ (List.mem_append_right _ (h))))
theorem mx_X6_readLaw_26 : Cond.code yX6_readNumber cX6_readNumber 6 (some .int) ∈ wsX6_readLaw := mb_X6_readLaw_wsX6_readLaw_r2 (List.mem_of_getElem? (i := 1) rfl)
theorem mx_X6_readLaw_27 : Cond.methodLink RX6 100 yX6_figuresHere ∈ wsX6_readLaw := mb_X6_readLaw_wsX6_readLaw_r2 (List.mem_of_getElem? (i := 2) rfl)
theorem mx_X6_readLaw_28 : Cond.instanceMethod yX6_figuresHere ∈ wsX6_readLaw := mb_X6_readLaw_wsX6_readLaw_r2 (List.mem_of_getElem? (i := 3) rfl)
theorem mx_X6_readLaw_29 : Cond.selects RX6 yX6_figuresHere yX6_figuresHere ∈ wsX6_readLaw := mb_X6_readLaw_wsX6_readLaw_r2 (List.mem_of_getElem? (i := 4) rfl)
theorem mx_X6_readLaw_30 : Cond.code yX6_figuresHere cX6_figuresHere 2 (some .int) ∈ wsX6_readLaw := mb_X6_readLaw_wsX6_readLaw_r2 (List.mem_of_getElem? (i := 5) rfl)
theorem mx_X6_readLaw_31 : Cond.methodLink RX6 104 yX6_isFigure ∈ wsX6_readLaw := mb_X6_readLaw_wsX6_readLaw_r2 (List.mem_of_getElem? (i := 6) rfl)
theorem mx_X6_readLaw_32 : Cond.static yX6_isFigure ∈ wsX6_readLaw := mb_X6_readLaw_wsX6_readLaw_r2 (List.mem_of_getElem? (i := 7) rfl)
theorem mx_X6_readLaw_33 : Cond.code yX6_isFigure cX6_isFigure 1 (some .boolean) ∈ wsX6_readLaw := mb_X6_readLaw_wsX6_readLaw_r2 (List.mem_of_getElem? (i := 8) rfl)
theorem ggX6_readLaw_X6_readNumber : GoodIn wsX6_readLaw wsX6_readNumber := goodIn_sub (by unfold wsX6_readNumber; exact List.forall_mem_cons.mpr ⟨mx_X6_readLaw_26, List.forall_mem_append.mpr ⟨List.forall_mem_cons.mpr ⟨mx_X6_readLaw_10, List.forall_mem_cons.mpr ⟨mx_X6_readLaw_27, List.forall_mem_cons.mpr ⟨mx_X6_readLaw_28, List.forall_mem_cons.mpr ⟨mx_X6_readLaw_29, List.forall_mem_cons.mpr ⟨mx_X6_readLaw_8, List.forall_mem_cons.mpr ⟨mx_X6_readLaw_30, List.forall_mem_cons.mpr ⟨mx_X6_readLaw_11, List.forall_mem_cons.mpr ⟨mx_X6_readLaw_12, List.forall_mem_cons.mpr ⟨mx_X6_readLaw_13, List.forall_mem_cons.mpr ⟨mx_X6_readLaw_14, List.forall_mem_cons.mpr ⟨mx_X6_readLaw_15, List.forall_mem_cons.mpr ⟨mx_X6_readLaw_16, List.forall_mem_cons.mpr ⟨mx_X6_readLaw_31, List.forall_mem_cons.mpr ⟨mx_X6_readLaw_32, List.forall_mem_cons.mpr ⟨mx_X6_readLaw_33, List.forall_mem_cons.mpr ⟨mx_X6_readLaw_17, List.forall_mem_cons.mpr ⟨mx_X6_readLaw_18, List.forall_mem_cons.mpr ⟨mx_X6_readLaw_19, List.forall_mem_cons.mpr ⟨mx_X6_readLaw_20, List.forall_mem_cons.mpr ⟨mx_X6_readLaw_21, List.forall_mem_cons.mpr ⟨mx_X6_readLaw_22, fun _ h_ => absurd h_ List.not_mem_nil⟩⟩⟩⟩⟩⟩⟩⟩⟩⟩⟩⟩⟩⟩⟩⟩⟩⟩⟩⟩⟩, (fun _ h_ => mb_X6_readLaw_wsX60 h_)⟩⟩) (by decide +kernel)
theorem mx_X6_readLaw_23 : Cond.methodLink RX6 55 yX6_readNumber ∈ wsX6_readLaw := mb_X6_readLaw_wsX6_readLaw_r1 (List.mem_of_getElem? (i := 22) rfl)
theorem mx_X6_readLaw_24 : Cond.instanceMethod yX6_readNumber ∈ wsX6_readLaw := mb_X6_readLaw_wsX6_readLaw_r1 (List.mem_of_getElem? (i := 23) rfl)
theorem mx_X6_readLaw_25 : Cond.selects RX6 yX6_readNumber yX6_readNumber ∈ wsX6_readLaw := mb_X6_readLaw_wsX6_readLaw_r2 (List.mem_of_getElem? (i := 0) rfl)
theorem gX6_readLaw_X6_readNumber : GoodIn wsX6_readLaw (wsV RX6 55 RX6 yX6_readNumber wsX6_readNumber) := goodIn_app (goodIn_sub (List.forall_mem_cons.mpr ⟨mx_X6_readLaw_23, List.forall_mem_cons.mpr ⟨mx_X6_readLaw_24, List.forall_mem_cons.mpr ⟨mx_X6_readLaw_25, List.forall_mem_cons.mpr ⟨mx_X6_readLaw_8, fun _ h_ => absurd h_ List.not_mem_nil⟩⟩⟩⟩) (by decide +kernel)) ggX6_readLaw_X6_readNumber
theorem mx_X6_readNumber_10 : Cond.code yX6_byteAt cX6_byteAt 2 (some .int) ∈ wsX6_readNumber := by unfold wsX6_readNumber; exact List.mem_cons_of_mem _ (List.mem_append_left _ (List.mem_of_getElem? (i := 9) rfl))
theorem mx_X6_readNumber_11 : Cond.fieldLink RX6 22 "MillTalk$Tape" "size" "I" ∈ wsX6_readNumber := by unfold wsX6_readNumber; exact List.mem_cons_of_mem _ (List.mem_append_left _ (List.mem_of_getElem? (i := 10) rfl))
theorem mx_X6_readNumber_12 : Cond.fieldLink RX6 11 "MillTalk$Tape" "bytes" "[I" ∈ wsX6_readNumber := by unfold wsX6_readNumber; exact List.mem_cons_of_mem _ (List.mem_append_left _ (List.mem_of_getElem? (i := 11) rfl))
theorem mb_X6_readNumber_wsX60 {w : Cond} (h : w ∈ wsX60) : w ∈ wsX6_readNumber := by unfold wsX6_readNumber; exact List.mem_cons_of_mem _ (List.mem_append_right _ (h))
theorem ggX6_readNumber_X6_byteAt : GoodIn wsX6_readNumber wsX6_byteAt := goodIn_sub (by unfold wsX6_byteAt; exact List.forall_mem_cons.mpr ⟨mx_X6_readNumber_10, List.forall_mem_append.mpr ⟨List.forall_mem_cons.mpr ⟨mx_X6_readNumber_11, List.forall_mem_cons.mpr ⟨mx_X6_readNumber_12, fun _ h_ => absurd h_ List.not_mem_nil⟩⟩, (fun _ h_ => mb_X6_readNumber_wsX60 h_)⟩⟩) (by decide +kernel)
theorem mx_X6_readNumber_7 : Cond.methodLink RX6 71 yX6_byteAt ∈ wsX6_readNumber := by unfold wsX6_readNumber; exact List.mem_cons_of_mem _ (List.mem_append_left _ (List.mem_of_getElem? (i := 6) rfl))
theorem mx_X6_readNumber_8 : Cond.instanceMethod yX6_byteAt ∈ wsX6_readNumber := by unfold wsX6_readNumber; exact List.mem_cons_of_mem _ (List.mem_append_left _ (List.mem_of_getElem? (i := 7) rfl))
theorem mx_X6_readNumber_9 : Cond.selects RX6 yX6_byteAt yX6_byteAt ∈ wsX6_readNumber := by unfold wsX6_readNumber; exact List.mem_cons_of_mem _ (List.mem_append_left _ (List.mem_of_getElem? (i := 8) rfl))
theorem mx_X6_readNumber_5 : Cond.initialized RX6 ∈ wsX6_readNumber := by unfold wsX6_readNumber; exact List.mem_cons_of_mem _ (List.mem_append_left _ (List.mem_of_getElem? (i := 4) rfl))
theorem gX6_readNumber_X6_byteAt : GoodIn wsX6_readNumber (wsV RX6 71 RX6 yX6_byteAt wsX6_byteAt) := goodIn_app (goodIn_sub (List.forall_mem_cons.mpr ⟨mx_X6_readNumber_7, List.forall_mem_cons.mpr ⟨mx_X6_readNumber_8, List.forall_mem_cons.mpr ⟨mx_X6_readNumber_9, List.forall_mem_cons.mpr ⟨mx_X6_readNumber_5, fun _ h_ => absurd h_ List.not_mem_nil⟩⟩⟩⟩) (by decide +kernel)) ggX6_readNumber_X6_byteAt
theorem mx_X6_readNumber_19 : Cond.code yX6_fail cX6_fail 2 none ∈ wsX6_readNumber := by unfold wsX6_readNumber; exact List.mem_cons_of_mem _ (List.mem_append_left _ (List.mem_of_getElem? (i := 18) rfl))
theorem mx_X6_readNumber_20 : Cond.fieldLink RX6 30 "MillTalk$Tape" "fault" "I" ∈ wsX6_readNumber := by unfold wsX6_readNumber; exact List.mem_cons_of_mem _ (List.mem_append_left _ (List.mem_of_getElem? (i := 19) rfl))
theorem mx_X6_readNumber_1 : Cond.fieldLink RX6 36 "MillTalk$Tape" "place" "I" ∈ wsX6_readNumber := by unfold wsX6_readNumber; exact List.mem_cons_of_mem _ (List.mem_append_left _ (List.mem_of_getElem? (i := 0) rfl))
theorem mx_X6_readNumber_21 : Cond.fieldLink RX6 33 "MillTalk$Tape" "faultPlace" "I" ∈ wsX6_readNumber := by unfold wsX6_readNumber; exact List.mem_cons_of_mem _ (List.mem_append_left _ (List.mem_of_getElem? (i := 20) rfl))
theorem ggX6_readNumber_X6_fail : GoodIn wsX6_readNumber wsX6_fail := goodIn_sub (by unfold wsX6_fail; exact List.forall_mem_cons.mpr ⟨mx_X6_readNumber_19, List.forall_mem_append.mpr ⟨List.forall_mem_cons.mpr ⟨mx_X6_readNumber_20, List.forall_mem_cons.mpr ⟨mx_X6_readNumber_1, List.forall_mem_cons.mpr ⟨mx_X6_readNumber_21, fun _ h_ => absurd h_ List.not_mem_nil⟩⟩⟩, (fun _ h_ => mb_X6_readNumber_wsX60 h_)⟩⟩) (by decide +kernel)
theorem mx_X6_readNumber_16 : Cond.methodLink RX6 78 yX6_fail ∈ wsX6_readNumber := by unfold wsX6_readNumber; exact List.mem_cons_of_mem _ (List.mem_append_left _ (List.mem_of_getElem? (i := 15) rfl))
theorem mx_X6_readNumber_17 : Cond.instanceMethod yX6_fail ∈ wsX6_readNumber := by unfold wsX6_readNumber; exact List.mem_cons_of_mem _ (List.mem_append_left _ (List.mem_of_getElem? (i := 16) rfl))
theorem mx_X6_readNumber_18 : Cond.selects RX6 yX6_fail yX6_fail ∈ wsX6_readNumber := by unfold wsX6_readNumber; exact List.mem_cons_of_mem _ (List.mem_append_left _ (List.mem_of_getElem? (i := 17) rfl))
theorem gX6_readNumber_X6_fail : GoodIn wsX6_readNumber (wsV RX6 78 RX6 yX6_fail wsX6_fail) := goodIn_app (goodIn_sub (List.forall_mem_cons.mpr ⟨mx_X6_readNumber_16, List.forall_mem_cons.mpr ⟨mx_X6_readNumber_17, List.forall_mem_cons.mpr ⟨mx_X6_readNumber_18, List.forall_mem_cons.mpr ⟨mx_X6_readNumber_5, fun _ h_ => absurd h_ List.not_mem_nil⟩⟩⟩⟩) (by decide +kernel)) ggX6_readNumber_X6_fail
theorem mx_X6_readNumber_6 : Cond.code yX6_figuresHere cX6_figuresHere 2 (some .int) ∈ wsX6_readNumber := by unfold wsX6_readNumber; exact List.mem_cons_of_mem _ (List.mem_append_left _ (List.mem_of_getElem? (i := 5) rfl))
theorem mx_X6_readNumber_13 : Cond.methodLink RX6 104 yX6_isFigure ∈ wsX6_readNumber := by unfold wsX6_readNumber; exact List.mem_cons_of_mem _ (List.mem_append_left _ (List.mem_of_getElem? (i := 12) rfl))
theorem mx_X6_readNumber_14 : Cond.static yX6_isFigure ∈ wsX6_readNumber := by unfold wsX6_readNumber; exact List.mem_cons_of_mem _ (List.mem_append_left _ (List.mem_of_getElem? (i := 13) rfl))
theorem mx_X6_readNumber_15 : Cond.code yX6_isFigure cX6_isFigure 1 (some .boolean) ∈ wsX6_readNumber := by unfold wsX6_readNumber; exact List.mem_cons_of_mem _ (List.mem_append_left _ (List.mem_of_getElem? (i := 14) rfl))
theorem ggX6_readNumber_X6_figuresHere : GoodIn wsX6_readNumber wsX6_figuresHere := goodIn_sub (by unfold wsX6_figuresHere; exact List.forall_mem_cons.mpr ⟨mx_X6_readNumber_6, List.forall_mem_append.mpr ⟨List.forall_mem_cons.mpr ⟨mx_X6_readNumber_1, List.forall_mem_cons.mpr ⟨mx_X6_readNumber_7, List.forall_mem_cons.mpr ⟨mx_X6_readNumber_8, List.forall_mem_cons.mpr ⟨mx_X6_readNumber_9, List.forall_mem_cons.mpr ⟨mx_X6_readNumber_5, List.forall_mem_cons.mpr ⟨mx_X6_readNumber_10, List.forall_mem_cons.mpr ⟨mx_X6_readNumber_11, List.forall_mem_cons.mpr ⟨mx_X6_readNumber_12, List.forall_mem_cons.mpr ⟨mx_X6_readNumber_13, List.forall_mem_cons.mpr ⟨mx_X6_readNumber_14, List.forall_mem_cons.mpr ⟨mx_X6_readNumber_15, fun _ h_ => absurd h_ List.not_mem_nil⟩⟩⟩⟩⟩⟩⟩⟩⟩⟩⟩, (fun _ h_ => mb_X6_readNumber_wsX60 h_)⟩⟩) (by decide +kernel)
theorem mx_X6_readNumber_2 : Cond.methodLink RX6 100 yX6_figuresHere ∈ wsX6_readNumber := by unfold wsX6_readNumber; exact List.mem_cons_of_mem _ (List.mem_append_left _ (List.mem_of_getElem? (i := 1) rfl))
theorem mx_X6_readNumber_3 : Cond.instanceMethod yX6_figuresHere ∈ wsX6_readNumber := by unfold wsX6_readNumber; exact List.mem_cons_of_mem _ (List.mem_append_left _ (List.mem_of_getElem? (i := 2) rfl))
theorem mx_X6_readNumber_4 : Cond.selects RX6 yX6_figuresHere yX6_figuresHere ∈ wsX6_readNumber := by unfold wsX6_readNumber; exact List.mem_cons_of_mem _ (List.mem_append_left _ (List.mem_of_getElem? (i := 3) rfl))
theorem gX6_readNumber_X6_figuresHere : GoodIn wsX6_readNumber (wsV RX6 100 RX6 yX6_figuresHere wsX6_figuresHere) := goodIn_app (goodIn_sub (List.forall_mem_cons.mpr ⟨mx_X6_readNumber_2, List.forall_mem_cons.mpr ⟨mx_X6_readNumber_3, List.forall_mem_cons.mpr ⟨mx_X6_readNumber_4, List.forall_mem_cons.mpr ⟨mx_X6_readNumber_5, fun _ h_ => absurd h_ List.not_mem_nil⟩⟩⟩⟩) (by decide +kernel)) ggX6_readNumber_X6_figuresHere
theorem mb_X6_readSound_wsX6_readSound_r2 {w : Cond} (h : w ∈ wsX6_readSound_r2) : w ∈ wsX6_readSound := by unfold wsX6_readSound; exact List.mem_cons_of_mem _ (List.mem_append_left _ (List.mem_append_left _ (List.mem_append_right _ (h))))
theorem mx_X6_readSound_41 : Cond.code yX3_letLoose cX3_letLoose 4 none ∈ wsX6_readSound := mb_X6_readSound_wsX6_readSound_r2 (List.mem_of_getElem? (i := 16) rfl)
theorem mx_X6_readSound_42 : Cond.fieldLink RX3 18 "MillTalk$Level" "places" "[I" ∈ wsX6_readSound := mb_X6_readSound_wsX6_readSound_r2 (List.mem_of_getElem? (i := 17) rfl)
theorem mx_X6_readSound_43 : Cond.fieldLink RX3 21 "MillTalk$Level" "louds" "[I" ∈ wsX6_readSound := mb_X6_readSound_wsX6_readSound_r2 (List.mem_of_getElem? (i := 18) rfl)
theorem mx_X6_readSound_44 : Cond.fieldLink RX3 24 "MillTalk$Level" "hows" "[I" ∈ wsX6_readSound := mb_X6_readSound_wsX6_readSound_r2 (List.mem_of_getElem? (i := 19) rfl)
theorem mb_X6_readSound_wsX30 {w : Cond} (h : w ∈ wsX30) : w ∈ wsX6_readSound := by unfold wsX6_readSound; exact List.mem_cons_of_mem _ (List.mem_append_right _ (h))
theorem ggX6_readSound_X3_letLoose : GoodIn wsX6_readSound wsX3_letLoose := goodIn_sub (by unfold wsX3_letLoose; exact List.forall_mem_cons.mpr ⟨mx_X6_readSound_41, List.forall_mem_append.mpr ⟨List.forall_mem_cons.mpr ⟨mx_X6_readSound_42, List.forall_mem_cons.mpr ⟨mx_X6_readSound_43, List.forall_mem_cons.mpr ⟨mx_X6_readSound_44, fun _ h_ => absurd h_ List.not_mem_nil⟩⟩⟩, (fun _ h_ => mb_X6_readSound_wsX30 h_)⟩⟩) (by decide +kernel)
theorem mx_X6_readSound_37 : Cond.methodLink RX6 96 yX3_letLoose ∈ wsX6_readSound := mb_X6_readSound_wsX6_readSound_r2 (List.mem_of_getElem? (i := 12) rfl)
theorem mx_X6_readSound_38 : Cond.instanceMethod yX3_letLoose ∈ wsX6_readSound := mb_X6_readSound_wsX6_readSound_r2 (List.mem_of_getElem? (i := 13) rfl)
theorem mx_X6_readSound_39 : Cond.selects RX3 yX3_letLoose yX3_letLoose ∈ wsX6_readSound := mb_X6_readSound_wsX6_readSound_r2 (List.mem_of_getElem? (i := 14) rfl)
theorem mx_X6_readSound_40 : Cond.initialized RX3 ∈ wsX6_readSound := mb_X6_readSound_wsX6_readSound_r2 (List.mem_of_getElem? (i := 15) rfl)
theorem gX6_readSound_X3_letLoose : GoodIn wsX6_readSound (wsV RX6 96 RX3 yX3_letLoose wsX3_letLoose) := goodIn_app (goodIn_sub (List.forall_mem_cons.mpr ⟨mx_X6_readSound_37, List.forall_mem_cons.mpr ⟨mx_X6_readSound_38, List.forall_mem_cons.mpr ⟨mx_X6_readSound_39, List.forall_mem_cons.mpr ⟨mx_X6_readSound_40, fun _ h_ => absurd h_ List.not_mem_nil⟩⟩⟩⟩) (by decide +kernel)) ggX6_readSound_X3_letLoose
theorem mb_X6_readSound_wsX6_readSound_r1 {w : Cond} (h : w ∈ wsX6_readSound_r1) : w ∈ wsX6_readSound := by unfold wsX6_readSound; exact List.mem_cons_of_mem _ (List.mem_append_left _ (List.mem_append_left _ (List.mem_append_left _ (h))))
theorem mx_X6_readSound_11 : Cond.code yX6_byteAt cX6_byteAt 2 (some .int) ∈ wsX6_readSound := mb_X6_readSound_wsX6_readSound_r1 (List.mem_of_getElem? (i := 10) rfl)
theorem mx_X6_readSound_12 : Cond.fieldLink RX6 22 "MillTalk$Tape" "size" "I" ∈ wsX6_readSound := mb_X6_readSound_wsX6_readSound_r1 (List.mem_of_getElem? (i := 11) rfl)
theorem mx_X6_readSound_13 : Cond.fieldLink RX6 11 "MillTalk$Tape" "bytes" "[I" ∈ wsX6_readSound := mb_X6_readSound_wsX6_readSound_r1 (List.mem_of_getElem? (i := 12) rfl)
theorem mb_X6_readSound_wsX60 {w : Cond} (h : w ∈ wsX60) : w ∈ wsX6_readSound := by unfold wsX6_readSound; exact List.mem_cons_of_mem _ (List.mem_append_left _ (List.mem_append_right _ (h)))
theorem ggX6_readSound_X6_byteAt : GoodIn wsX6_readSound wsX6_byteAt := goodIn_sub (by unfold wsX6_byteAt; exact List.forall_mem_cons.mpr ⟨mx_X6_readSound_11, List.forall_mem_append.mpr ⟨List.forall_mem_cons.mpr ⟨mx_X6_readSound_12, List.forall_mem_cons.mpr ⟨mx_X6_readSound_13, fun _ h_ => absurd h_ List.not_mem_nil⟩⟩, (fun _ h_ => mb_X6_readSound_wsX60 h_)⟩⟩) (by decide +kernel)
theorem mx_X6_readSound_7 : Cond.methodLink RX6 71 yX6_byteAt ∈ wsX6_readSound := mb_X6_readSound_wsX6_readSound_r1 (List.mem_of_getElem? (i := 6) rfl)
theorem mx_X6_readSound_8 : Cond.instanceMethod yX6_byteAt ∈ wsX6_readSound := mb_X6_readSound_wsX6_readSound_r1 (List.mem_of_getElem? (i := 7) rfl)
theorem mx_X6_readSound_9 : Cond.selects RX6 yX6_byteAt yX6_byteAt ∈ wsX6_readSound := mb_X6_readSound_wsX6_readSound_r1 (List.mem_of_getElem? (i := 8) rfl)
theorem mx_X6_readSound_10 : Cond.initialized RX6 ∈ wsX6_readSound := mb_X6_readSound_wsX6_readSound_r1 (List.mem_of_getElem? (i := 9) rfl)
theorem gX6_readSound_X6_byteAt : GoodIn wsX6_readSound (wsV RX6 71 RX6 yX6_byteAt wsX6_byteAt) := goodIn_app (goodIn_sub (List.forall_mem_cons.mpr ⟨mx_X6_readSound_7, List.forall_mem_cons.mpr ⟨mx_X6_readSound_8, List.forall_mem_cons.mpr ⟨mx_X6_readSound_9, List.forall_mem_cons.mpr ⟨mx_X6_readSound_10, fun _ h_ => absurd h_ List.not_mem_nil⟩⟩⟩⟩) (by decide +kernel)) ggX6_readSound_X6_byteAt
theorem mx_X6_readSound_20 : Cond.code yX6_fail cX6_fail 2 none ∈ wsX6_readSound := mb_X6_readSound_wsX6_readSound_r1 (List.mem_of_getElem? (i := 19) rfl)
theorem mx_X6_readSound_5 : Cond.fieldLink RX6 30 "MillTalk$Tape" "fault" "I" ∈ wsX6_readSound := mb_X6_readSound_wsX6_readSound_r1 (List.mem_of_getElem? (i := 4) rfl)
theorem mx_X6_readSound_1 : Cond.fieldLink RX6 36 "MillTalk$Tape" "place" "I" ∈ wsX6_readSound := mb_X6_readSound_wsX6_readSound_r1 (List.mem_of_getElem? (i := 0) rfl)
theorem mx_X6_readSound_21 : Cond.fieldLink RX6 33 "MillTalk$Tape" "faultPlace" "I" ∈ wsX6_readSound := mb_X6_readSound_wsX6_readSound_r1 (List.mem_of_getElem? (i := 20) rfl)
theorem ggX6_readSound_X6_fail : GoodIn wsX6_readSound wsX6_fail := goodIn_sub (by unfold wsX6_fail; exact List.forall_mem_cons.mpr ⟨mx_X6_readSound_20, List.forall_mem_append.mpr ⟨List.forall_mem_cons.mpr ⟨mx_X6_readSound_5, List.forall_mem_cons.mpr ⟨mx_X6_readSound_1, List.forall_mem_cons.mpr ⟨mx_X6_readSound_21, fun _ h_ => absurd h_ List.not_mem_nil⟩⟩⟩, (fun _ h_ => mb_X6_readSound_wsX60 h_)⟩⟩) (by decide +kernel)
theorem mx_X6_readSound_17 : Cond.methodLink RX6 78 yX6_fail ∈ wsX6_readSound := mb_X6_readSound_wsX6_readSound_r1 (List.mem_of_getElem? (i := 16) rfl)
theorem mx_X6_readSound_18 : Cond.instanceMethod yX6_fail ∈ wsX6_readSound := mb_X6_readSound_wsX6_readSound_r1 (List.mem_of_getElem? (i := 17) rfl)
theorem mx_X6_readSound_19 : Cond.selects RX6 yX6_fail yX6_fail ∈ wsX6_readSound := mb_X6_readSound_wsX6_readSound_r1 (List.mem_of_getElem? (i := 18) rfl)
theorem gX6_readSound_X6_fail : GoodIn wsX6_readSound (wsV RX6 78 RX6 yX6_fail wsX6_fail) := goodIn_app (goodIn_sub (List.forall_mem_cons.mpr ⟨mx_X6_readSound_17, List.forall_mem_cons.mpr ⟨mx_X6_readSound_18, List.forall_mem_cons.mpr ⟨mx_X6_readSound_19, List.forall_mem_cons.mpr ⟨mx_X6_readSound_10, fun _ h_ => absurd h_ List.not_mem_nil⟩⟩⟩⟩) (by decide +kernel)) ggX6_readSound_X6_fail
theorem mx_X6_readSound_16 : Cond.code yX6_kindOf cX6_kindOf 1 (some .int) ∈ wsX6_readSound := mb_X6_readSound_wsX6_readSound_r1 (List.mem_of_getElem? (i := 15) rfl)
theorem ggX6_readSound_X6_kindOf : GoodIn wsX6_readSound wsX6_kindOf := goodIn_sub (by unfold wsX6_kindOf; exact List.forall_mem_cons.mpr ⟨mx_X6_readSound_16, fun _ h_ => absurd h_ List.not_mem_nil⟩) (by decide +kernel)
set_option maxRecDepth 20000 in
theorem gX6_readSound_X6_kindOf : GoodIn wsX6_readSound (va_wsS RX6 87 yX6_kindOf wsX6_kindOf) := goodIn_app (goodIn_of _ (by decide +kernel)) ggX6_readSound_X6_kindOf
theorem mx_X6_readSound_36 : Cond.code yX6_readByte cX6_readByte 2 none ∈ wsX6_readSound := mb_X6_readSound_wsX6_readSound_r2 (List.mem_of_getElem? (i := 11) rfl)
theorem ggX6_readSound_X6_readByte : GoodIn wsX6_readSound wsX6_readByte := goodIn_sub (by unfold wsX6_readByte; exact List.forall_mem_cons.mpr ⟨mx_X6_readSound_36, List.forall_mem_append.mpr ⟨List.forall_mem_cons.mpr ⟨mx_X6_readSound_1, List.forall_mem_cons.mpr ⟨mx_X6_readSound_7, List.forall_mem_cons.mpr ⟨mx_X6_readSound_8, List.forall_mem_cons.mpr ⟨mx_X6_readSound_9, List.forall_mem_cons.mpr ⟨mx_X6_readSound_10, List.forall_mem_cons.mpr ⟨mx_X6_readSound_11, List.forall_mem_cons.mpr ⟨mx_X6_readSound_12, List.forall_mem_cons.mpr ⟨mx_X6_readSound_13, List.forall_mem_cons.mpr ⟨mx_X6_readSound_17, List.forall_mem_cons.mpr ⟨mx_X6_readSound_18, List.forall_mem_cons.mpr ⟨mx_X6_readSound_19, List.forall_mem_cons.mpr ⟨mx_X6_readSound_20, List.forall_mem_cons.mpr ⟨mx_X6_readSound_5, List.forall_mem_cons.mpr ⟨mx_X6_readSound_21, fun _ h_ => absurd h_ List.not_mem_nil⟩⟩⟩⟩⟩⟩⟩⟩⟩⟩⟩⟩⟩⟩, (fun _ h_ => mb_X6_readSound_wsX60 h_)⟩⟩) (by decide +kernel)
theorem mx_X6_readSound_33 : Cond.methodLink RX6 51 yX6_readByte ∈ wsX6_readSound := mb_X6_readSound_wsX6_readSound_r2 (List.mem_of_getElem? (i := 8) rfl)
theorem mx_X6_readSound_34 : Cond.instanceMethod yX6_readByte ∈ wsX6_readSound := mb_X6_readSound_wsX6_readSound_r2 (List.mem_of_getElem? (i := 9) rfl)
theorem mx_X6_readSound_35 : Cond.selects RX6 yX6_readByte yX6_readByte ∈ wsX6_readSound := mb_X6_readSound_wsX6_readSound_r2 (List.mem_of_getElem? (i := 10) rfl)
theorem gX6_readSound_X6_readByte : GoodIn wsX6_readSound (wsV RX6 51 RX6 yX6_readByte wsX6_readByte) := goodIn_app (goodIn_sub (List.forall_mem_cons.mpr ⟨mx_X6_readSound_33, List.forall_mem_cons.mpr ⟨mx_X6_readSound_34, List.forall_mem_cons.mpr ⟨mx_X6_readSound_35, List.forall_mem_cons.mpr ⟨mx_X6_readSound_10, fun _ h_ => absurd h_ List.not_mem_nil⟩⟩⟩⟩) (by decide +kernel)) ggX6_readSound_X6_readByte
theorem mx_X6_readSound_25 : Cond.code yX6_readNumber cX6_readNumber 6 (some .int) ∈ wsX6_readSound := mb_X6_readSound_wsX6_readSound_r2 (List.mem_of_getElem? (i := 0) rfl)
theorem mx_X6_readSound_26 : Cond.methodLink RX6 100 yX6_figuresHere ∈ wsX6_readSound := mb_X6_readSound_wsX6_readSound_r2 (List.mem_of_getElem? (i := 1) rfl)
theorem mx_X6_readSound_27 : Cond.instanceMethod yX6_figuresHere ∈ wsX6_readSound := mb_X6_readSound_wsX6_readSound_r2 (List.mem_of_getElem? (i := 2) rfl)
theorem mx_X6_readSound_28 : Cond.selects RX6 yX6_figuresHere yX6_figuresHere ∈ wsX6_readSound := mb_X6_readSound_wsX6_readSound_r2 (List.mem_of_getElem? (i := 3) rfl)
theorem mx_X6_readSound_29 : Cond.code yX6_figuresHere cX6_figuresHere 2 (some .int) ∈ wsX6_readSound := mb_X6_readSound_wsX6_readSound_r2 (List.mem_of_getElem? (i := 4) rfl)
theorem mx_X6_readSound_30 : Cond.methodLink RX6 104 yX6_isFigure ∈ wsX6_readSound := mb_X6_readSound_wsX6_readSound_r2 (List.mem_of_getElem? (i := 5) rfl)
theorem mx_X6_readSound_31 : Cond.static yX6_isFigure ∈ wsX6_readSound := mb_X6_readSound_wsX6_readSound_r2 (List.mem_of_getElem? (i := 6) rfl)
theorem mx_X6_readSound_32 : Cond.code yX6_isFigure cX6_isFigure 1 (some .boolean) ∈ wsX6_readSound := mb_X6_readSound_wsX6_readSound_r2 (List.mem_of_getElem? (i := 7) rfl)
theorem ggX6_readSound_X6_readNumber : GoodIn wsX6_readSound wsX6_readNumber := goodIn_sub (by unfold wsX6_readNumber; exact List.forall_mem_cons.mpr ⟨mx_X6_readSound_25, List.forall_mem_append.mpr ⟨List.forall_mem_cons.mpr ⟨mx_X6_readSound_1, List.forall_mem_cons.mpr ⟨mx_X6_readSound_26, List.forall_mem_cons.mpr ⟨mx_X6_readSound_27, List.forall_mem_cons.mpr ⟨mx_X6_readSound_28, List.forall_mem_cons.mpr ⟨mx_X6_readSound_10, List.forall_mem_cons.mpr ⟨mx_X6_readSound_29, List.forall_mem_cons.mpr ⟨mx_X6_readSound_7, List.forall_mem_cons.mpr ⟨mx_X6_readSound_8, List.forall_mem_cons.mpr ⟨mx_X6_readSound_9, List.forall_mem_cons.mpr ⟨mx_X6_readSound_11, List.forall_mem_cons.mpr ⟨mx_X6_readSound_12, List.forall_mem_cons.mpr ⟨mx_X6_readSound_13, List.forall_mem_cons.mpr ⟨mx_X6_readSound_30, List.forall_mem_cons.mpr ⟨mx_X6_readSound_31, List.forall_mem_cons.mpr ⟨mx_X6_readSound_32, List.forall_mem_cons.mpr ⟨mx_X6_readSound_17, List.forall_mem_cons.mpr ⟨mx_X6_readSound_18, List.forall_mem_cons.mpr ⟨mx_X6_readSound_19, List.forall_mem_cons.mpr ⟨mx_X6_readSound_20, List.forall_mem_cons.mpr ⟨mx_X6_readSound_5, List.forall_mem_cons.mpr ⟨mx_X6_readSound_21, fun _ h_ => absurd h_ List.not_mem_nil⟩⟩⟩⟩⟩⟩⟩⟩⟩⟩⟩⟩⟩⟩⟩⟩⟩⟩⟩⟩⟩, (fun _ h_ => mb_X6_readSound_wsX60 h_)⟩⟩) (by decide +kernel)
theorem mx_X6_readSound_22 : Cond.methodLink RX6 55 yX6_readNumber ∈ wsX6_readSound := mb_X6_readSound_wsX6_readSound_r1 (List.mem_of_getElem? (i := 21) rfl)
theorem mx_X6_readSound_23 : Cond.instanceMethod yX6_readNumber ∈ wsX6_readSound := mb_X6_readSound_wsX6_readSound_r1 (List.mem_of_getElem? (i := 22) rfl)
theorem mx_X6_readSound_24 : Cond.selects RX6 yX6_readNumber yX6_readNumber ∈ wsX6_readSound := mb_X6_readSound_wsX6_readSound_r1 (List.mem_of_getElem? (i := 23) rfl)
theorem gX6_readSound_X6_readNumber : GoodIn wsX6_readSound (wsV RX6 55 RX6 yX6_readNumber wsX6_readNumber) := goodIn_app (goodIn_sub (List.forall_mem_cons.mpr ⟨mx_X6_readSound_22, List.forall_mem_cons.mpr ⟨mx_X6_readSound_23, List.forall_mem_cons.mpr ⟨mx_X6_readSound_24, List.forall_mem_cons.mpr ⟨mx_X6_readSound_10, fun _ h_ => absurd h_ List.not_mem_nil⟩⟩⟩⟩) (by decide +kernel)) ggX6_readSound_X6_readNumber
theorem mb_X6_readSounds_wsX6_readSounds_r1 {w : Cond} (h : w ∈ wsX6_readSounds_r1) : w ∈ wsX6_readSounds := by unfold wsX6_readSounds; exact List.mem_cons_of_mem _ (List.mem_append_left _ (List.mem_append_left _ (List.mem_append_left _ (h))))
theorem mx_X6_readSounds_15 : Cond.code yX6_byteAt cX6_byteAt 2 (some .int) ∈ wsX6_readSounds := mb_X6_readSounds_wsX6_readSounds_r1 (List.mem_of_getElem? (i := 14) rfl)
theorem mx_X6_readSounds_16 : Cond.fieldLink RX6 22 "MillTalk$Tape" "size" "I" ∈ wsX6_readSounds := mb_X6_readSounds_wsX6_readSounds_r1 (List.mem_of_getElem? (i := 15) rfl)
theorem mx_X6_readSounds_17 : Cond.fieldLink RX6 11 "MillTalk$Tape" "bytes" "[I" ∈ wsX6_readSounds := mb_X6_readSounds_wsX6_readSounds_r1 (List.mem_of_getElem? (i := 16) rfl)
theorem mb_X6_readSounds_wsX60 {w : Cond} (h : w ∈ wsX60) : w ∈ wsX6_readSounds := by unfold wsX6_readSounds; exact List.mem_cons_of_mem _ (List.mem_append_left _ (List.mem_append_right _ (h)))
theorem ggX6_readSounds_X6_byteAt : GoodIn wsX6_readSounds wsX6_byteAt := goodIn_sub (by unfold wsX6_byteAt; exact List.forall_mem_cons.mpr ⟨mx_X6_readSounds_15, List.forall_mem_append.mpr ⟨List.forall_mem_cons.mpr ⟨mx_X6_readSounds_16, List.forall_mem_cons.mpr ⟨mx_X6_readSounds_17, fun _ h_ => absurd h_ List.not_mem_nil⟩⟩, (fun _ h_ => mb_X6_readSounds_wsX60 h_)⟩⟩) (by decide +kernel)
theorem mx_X6_readSounds_12 : Cond.methodLink RX6 71 yX6_byteAt ∈ wsX6_readSounds := mb_X6_readSounds_wsX6_readSounds_r1 (List.mem_of_getElem? (i := 11) rfl)
theorem mx_X6_readSounds_13 : Cond.instanceMethod yX6_byteAt ∈ wsX6_readSounds := mb_X6_readSounds_wsX6_readSounds_r1 (List.mem_of_getElem? (i := 12) rfl)
theorem mx_X6_readSounds_14 : Cond.selects RX6 yX6_byteAt yX6_byteAt ∈ wsX6_readSounds := mb_X6_readSounds_wsX6_readSounds_r1 (List.mem_of_getElem? (i := 13) rfl)
theorem mx_X6_readSounds_6 : Cond.initialized RX6 ∈ wsX6_readSounds := mb_X6_readSounds_wsX6_readSounds_r1 (List.mem_of_getElem? (i := 5) rfl)
theorem gX6_readSounds_X6_byteAt : GoodIn wsX6_readSounds (wsV RX6 71 RX6 yX6_byteAt wsX6_byteAt) := goodIn_app (goodIn_sub (List.forall_mem_cons.mpr ⟨mx_X6_readSounds_12, List.forall_mem_cons.mpr ⟨mx_X6_readSounds_13, List.forall_mem_cons.mpr ⟨mx_X6_readSounds_14, List.forall_mem_cons.mpr ⟨mx_X6_readSounds_6, fun _ h_ => absurd h_ List.not_mem_nil⟩⟩⟩⟩) (by decide +kernel)) ggX6_readSounds_X6_byteAt
theorem mx_X6_readSounds_7 : Cond.code yX6_readSound cX6_readSound 4 none ∈ wsX6_readSounds := mb_X6_readSounds_wsX6_readSounds_r1 (List.mem_of_getElem? (i := 6) rfl)
theorem mx_X6_readSounds_2 : Cond.fieldLink RX6 36 "MillTalk$Tape" "place" "I" ∈ wsX6_readSounds := mb_X6_readSounds_wsX6_readSounds_r1 (List.mem_of_getElem? (i := 1) rfl)
theorem mx_X6_readSounds_8 : Cond.fieldLink RX6 18 "MillTalk$Tape" "told" "LMillTalk$Level;" ∈ wsX6_readSounds := mb_X6_readSounds_wsX6_readSounds_r1 (List.mem_of_getElem? (i := 7) rfl)
theorem mx_X6_readSounds_9 : Cond.fieldLink RX6 90 "MillTalk$Level" "soundCount" "I" ∈ wsX6_readSounds := mb_X6_readSounds_wsX6_readSounds_r1 (List.mem_of_getElem? (i := 8) rfl)
theorem mx_X6_readSounds_10 : Cond.fieldLink RX6 59 "MillTalk$Level" "cells" "I" ∈ wsX6_readSounds := mb_X6_readSounds_wsX6_readSounds_r1 (List.mem_of_getElem? (i := 9) rfl)
theorem mx_X6_readSounds_1 : Cond.fieldLink RX6 30 "MillTalk$Tape" "fault" "I" ∈ wsX6_readSounds := mb_X6_readSounds_wsX6_readSounds_r1 (List.mem_of_getElem? (i := 0) rfl)
theorem mx_X6_readSounds_11 : Cond.fieldLink RX6 93 "MillTalk$Level" "kinds" "[I" ∈ wsX6_readSounds := mb_X6_readSounds_wsX6_readSounds_r1 (List.mem_of_getElem? (i := 10) rfl)
theorem mx_X6_readSounds_18 : Cond.methodLink RX6 87 yX6_kindOf ∈ wsX6_readSounds := mb_X6_readSounds_wsX6_readSounds_r1 (List.mem_of_getElem? (i := 17) rfl)
theorem mx_X6_readSounds_19 : Cond.static yX6_kindOf ∈ wsX6_readSounds := mb_X6_readSounds_wsX6_readSounds_r1 (List.mem_of_getElem? (i := 18) rfl)
theorem mx_X6_readSounds_20 : Cond.code yX6_kindOf cX6_kindOf 1 (some .int) ∈ wsX6_readSounds := mb_X6_readSounds_wsX6_readSounds_r1 (List.mem_of_getElem? (i := 19) rfl)
theorem mx_X6_readSounds_21 : Cond.methodLink RX6 78 yX6_fail ∈ wsX6_readSounds := mb_X6_readSounds_wsX6_readSounds_r1 (List.mem_of_getElem? (i := 20) rfl)
theorem mx_X6_readSounds_22 : Cond.instanceMethod yX6_fail ∈ wsX6_readSounds := mb_X6_readSounds_wsX6_readSounds_r1 (List.mem_of_getElem? (i := 21) rfl)
theorem mx_X6_readSounds_23 : Cond.selects RX6 yX6_fail yX6_fail ∈ wsX6_readSounds := mb_X6_readSounds_wsX6_readSounds_r1 (List.mem_of_getElem? (i := 22) rfl)
theorem mx_X6_readSounds_24 : Cond.code yX6_fail cX6_fail 2 none ∈ wsX6_readSounds := mb_X6_readSounds_wsX6_readSounds_r1 (List.mem_of_getElem? (i := 23) rfl)
theorem mb_X6_readSounds_wsX6_readSounds_r2 {w : Cond} (h : w ∈ wsX6_readSounds_r2) : w ∈ wsX6_readSounds := by unfold wsX6_readSounds; exact List.mem_cons_of_mem _ (List.mem_append_left _ (List.mem_append_left _ (List.mem_append_right _ (h))))
theorem mx_X6_readSounds_25 : Cond.fieldLink RX6 33 "MillTalk$Tape" "faultPlace" "I" ∈ wsX6_readSounds := mb_X6_readSounds_wsX6_readSounds_r2 (List.mem_of_getElem? (i := 0) rfl)
theorem mx_X6_readSounds_26 : Cond.methodLink RX6 55 yX6_readNumber ∈ wsX6_readSounds := mb_X6_readSounds_wsX6_readSounds_r2 (List.mem_of_getElem? (i := 1) rfl)
theorem mx_X6_readSounds_27 : Cond.instanceMethod yX6_readNumber ∈ wsX6_readSounds := mb_X6_readSounds_wsX6_readSounds_r2 (List.mem_of_getElem? (i := 2) rfl)
theorem mx_X6_readSounds_28 : Cond.selects RX6 yX6_readNumber yX6_readNumber ∈ wsX6_readSounds := mb_X6_readSounds_wsX6_readSounds_r2 (List.mem_of_getElem? (i := 3) rfl)
theorem mx_X6_readSounds_29 : Cond.code yX6_readNumber cX6_readNumber 6 (some .int) ∈ wsX6_readSounds := mb_X6_readSounds_wsX6_readSounds_r2 (List.mem_of_getElem? (i := 4) rfl)
theorem mx_X6_readSounds_30 : Cond.methodLink RX6 100 yX6_figuresHere ∈ wsX6_readSounds := mb_X6_readSounds_wsX6_readSounds_r2 (List.mem_of_getElem? (i := 5) rfl)
theorem mx_X6_readSounds_31 : Cond.instanceMethod yX6_figuresHere ∈ wsX6_readSounds := mb_X6_readSounds_wsX6_readSounds_r2 (List.mem_of_getElem? (i := 6) rfl)
theorem mx_X6_readSounds_32 : Cond.selects RX6 yX6_figuresHere yX6_figuresHere ∈ wsX6_readSounds := mb_X6_readSounds_wsX6_readSounds_r2 (List.mem_of_getElem? (i := 7) rfl)
theorem mx_X6_readSounds_33 : Cond.code yX6_figuresHere cX6_figuresHere 2 (some .int) ∈ wsX6_readSounds := mb_X6_readSounds_wsX6_readSounds_r2 (List.mem_of_getElem? (i := 8) rfl)
theorem mx_X6_readSounds_34 : Cond.methodLink RX6 104 yX6_isFigure ∈ wsX6_readSounds := mb_X6_readSounds_wsX6_readSounds_r2 (List.mem_of_getElem? (i := 9) rfl)
theorem mx_X6_readSounds_35 : Cond.static yX6_isFigure ∈ wsX6_readSounds := mb_X6_readSounds_wsX6_readSounds_r2 (List.mem_of_getElem? (i := 10) rfl)
theorem mx_X6_readSounds_36 : Cond.code yX6_isFigure cX6_isFigure 1 (some .boolean) ∈ wsX6_readSounds := mb_X6_readSounds_wsX6_readSounds_r2 (List.mem_of_getElem? (i := 11) rfl)
theorem mx_X6_readSounds_37 : Cond.methodLink RX6 51 yX6_readByte ∈ wsX6_readSounds := mb_X6_readSounds_wsX6_readSounds_r2 (List.mem_of_getElem? (i := 12) rfl)
theorem mx_X6_readSounds_38 : Cond.instanceMethod yX6_readByte ∈ wsX6_readSounds := mb_X6_readSounds_wsX6_readSounds_r2 (List.mem_of_getElem? (i := 13) rfl)
theorem mx_X6_readSounds_39 : Cond.selects RX6 yX6_readByte yX6_readByte ∈ wsX6_readSounds := mb_X6_readSounds_wsX6_readSounds_r2 (List.mem_of_getElem? (i := 14) rfl)
theorem mx_X6_readSounds_40 : Cond.code yX6_readByte cX6_readByte 2 none ∈ wsX6_readSounds := mb_X6_readSounds_wsX6_readSounds_r2 (List.mem_of_getElem? (i := 15) rfl)
theorem mx_X6_readSounds_41 : Cond.methodLink RX6 96 yX3_letLoose ∈ wsX6_readSounds := mb_X6_readSounds_wsX6_readSounds_r2 (List.mem_of_getElem? (i := 16) rfl)
theorem mx_X6_readSounds_42 : Cond.instanceMethod yX3_letLoose ∈ wsX6_readSounds := mb_X6_readSounds_wsX6_readSounds_r2 (List.mem_of_getElem? (i := 17) rfl)
theorem mx_X6_readSounds_43 : Cond.selects RX3 yX3_letLoose yX3_letLoose ∈ wsX6_readSounds := mb_X6_readSounds_wsX6_readSounds_r2 (List.mem_of_getElem? (i := 18) rfl)
theorem mx_X6_readSounds_44 : Cond.initialized RX3 ∈ wsX6_readSounds := mb_X6_readSounds_wsX6_readSounds_r2 (List.mem_of_getElem? (i := 19) rfl)
theorem mx_X6_readSounds_45 : Cond.code yX3_letLoose cX3_letLoose 4 none ∈ wsX6_readSounds := mb_X6_readSounds_wsX6_readSounds_r2 (List.mem_of_getElem? (i := 20) rfl)
theorem mx_X6_readSounds_46 : Cond.fieldLink RX3 18 "MillTalk$Level" "places" "[I" ∈ wsX6_readSounds := mb_X6_readSounds_wsX6_readSounds_r2 (List.mem_of_getElem? (i := 21) rfl)
theorem mx_X6_readSounds_47 : Cond.fieldLink RX3 21 "MillTalk$Level" "louds" "[I" ∈ wsX6_readSounds := mb_X6_readSounds_wsX6_readSounds_r2 (List.mem_of_getElem? (i := 22) rfl)
theorem mx_X6_readSounds_48 : Cond.fieldLink RX3 24 "MillTalk$Level" "hows" "[I" ∈ wsX6_readSounds := mb_X6_readSounds_wsX6_readSounds_r2 (List.mem_of_getElem? (i := 23) rfl)
theorem mb_X6_readSounds_wsX30 {w : Cond} (h : w ∈ wsX30) : w ∈ wsX6_readSounds := by unfold wsX6_readSounds; exact List.mem_cons_of_mem _ (List.mem_append_right _ (h))
theorem ggX6_readSounds_X6_readSound : GoodIn wsX6_readSounds wsX6_readSound := goodIn_sub (by unfold wsX6_readSound; exact List.forall_mem_cons.mpr ⟨mx_X6_readSounds_7, List.forall_mem_append.mpr ⟨List.forall_mem_append.mpr ⟨List.forall_mem_append.mpr ⟨(by unfold wsX6_readSound_r1; exact List.forall_mem_cons.mpr ⟨mx_X6_readSounds_2, List.forall_mem_cons.mpr ⟨mx_X6_readSounds_8, List.forall_mem_cons.mpr ⟨mx_X6_readSounds_9, List.forall_mem_cons.mpr ⟨mx_X6_readSounds_10, List.forall_mem_cons.mpr ⟨mx_X6_readSounds_1, List.forall_mem_cons.mpr ⟨mx_X6_readSounds_11, List.forall_mem_cons.mpr ⟨mx_X6_readSounds_12, List.forall_mem_cons.mpr ⟨mx_X6_readSounds_13, List.forall_mem_cons.mpr ⟨mx_X6_readSounds_14, List.forall_mem_cons.mpr ⟨mx_X6_readSounds_6, List.forall_mem_cons.mpr ⟨mx_X6_readSounds_15, List.forall_mem_cons.mpr ⟨mx_X6_readSounds_16, List.forall_mem_cons.mpr ⟨mx_X6_readSounds_17, List.forall_mem_cons.mpr ⟨mx_X6_readSounds_18, List.forall_mem_cons.mpr ⟨mx_X6_readSounds_19, List.forall_mem_cons.mpr ⟨mx_X6_readSounds_20, List.forall_mem_cons.mpr ⟨mx_X6_readSounds_21, List.forall_mem_cons.mpr ⟨mx_X6_readSounds_22, List.forall_mem_cons.mpr ⟨mx_X6_readSounds_23, List.forall_mem_cons.mpr ⟨mx_X6_readSounds_24, List.forall_mem_cons.mpr ⟨mx_X6_readSounds_25, List.forall_mem_cons.mpr ⟨mx_X6_readSounds_26, List.forall_mem_cons.mpr ⟨mx_X6_readSounds_27, List.forall_mem_cons.mpr ⟨mx_X6_readSounds_28, fun _ h_ => absurd h_ List.not_mem_nil⟩⟩⟩⟩⟩⟩⟩⟩⟩⟩⟩⟩⟩⟩⟩⟩⟩⟩⟩⟩⟩⟩⟩⟩), (by unfold wsX6_readSound_r2; exact List.forall_mem_cons.mpr ⟨mx_X6_readSounds_29, List.forall_mem_cons.mpr ⟨mx_X6_readSounds_30, List.forall_mem_cons.mpr ⟨mx_X6_readSounds_31, List.forall_mem_cons.mpr ⟨mx_X6_readSounds_32, List.forall_mem_cons.mpr ⟨mx_X6_readSounds_33, List.forall_mem_cons.mpr ⟨mx_X6_readSounds_34, List.forall_mem_cons.mpr ⟨mx_X6_readSounds_35, List.forall_mem_cons.mpr ⟨mx_X6_readSounds_36, List.forall_mem_cons.mpr ⟨mx_X6_readSounds_37, List.forall_mem_cons.mpr ⟨mx_X6_readSounds_38, List.forall_mem_cons.mpr ⟨mx_X6_readSounds_39, List.forall_mem_cons.mpr ⟨mx_X6_readSounds_40, List.forall_mem_cons.mpr ⟨mx_X6_readSounds_41, List.forall_mem_cons.mpr ⟨mx_X6_readSounds_42, List.forall_mem_cons.mpr ⟨mx_X6_readSounds_43, List.forall_mem_cons.mpr ⟨mx_X6_readSounds_44, List.forall_mem_cons.mpr ⟨mx_X6_readSounds_45, List.forall_mem_cons.mpr ⟨mx_X6_readSounds_46, List.forall_mem_cons.mpr ⟨mx_X6_readSounds_47, List.forall_mem_cons.mpr ⟨mx_X6_readSounds_48, fun _ h_ => absurd h_ List.not_mem_nil⟩⟩⟩⟩⟩⟩⟩⟩⟩⟩⟩⟩⟩⟩⟩⟩⟩⟩⟩⟩)⟩, (fun _ h_ => mb_X6_readSounds_wsX60 h_)⟩, (fun _ h_ => mb_X6_readSounds_wsX30 h_)⟩⟩) (by decide +kernel)
theorem mx_X6_readSounds_3 : Cond.methodLink RX6 84 yX6_readSound ∈ wsX6_readSounds := mb_X6_readSounds_wsX6_readSounds_r1 (List.mem_of_getElem? (i := 2) rfl)
theorem mx_X6_readSounds_4 : Cond.instanceMethod yX6_readSound ∈ wsX6_readSounds := mb_X6_readSounds_wsX6_readSounds_r1 (List.mem_of_getElem? (i := 3) rfl)
theorem mx_X6_readSounds_5 : Cond.selects RX6 yX6_readSound yX6_readSound ∈ wsX6_readSounds := mb_X6_readSounds_wsX6_readSounds_r1 (List.mem_of_getElem? (i := 4) rfl)
theorem gX6_readSounds_X6_readSound : GoodIn wsX6_readSounds (wsV RX6 84 RX6 yX6_readSound wsX6_readSound) := goodIn_app (goodIn_sub (List.forall_mem_cons.mpr ⟨mx_X6_readSounds_3, List.forall_mem_cons.mpr ⟨mx_X6_readSounds_4, List.forall_mem_cons.mpr ⟨mx_X6_readSounds_5, List.forall_mem_cons.mpr ⟨mx_X6_readSounds_6, fun _ h_ => absurd h_ List.not_mem_nil⟩⟩⟩⟩) (by decide +kernel)) ggX6_readSounds_X6_readSound
theorem mb_X6_readWind_wsX6_readWind_r1 {w : Cond} (h : w ∈ wsX6_readWind_r1) : w ∈ wsX6_readWind := by unfold wsX6_readWind; exact List.mem_cons_of_mem _ (List.mem_append_left _ (List.mem_append_left _ (List.mem_append_left _ (h))))
theorem mx_X6_readWind_10 : Cond.code yX6_byteAt cX6_byteAt 2 (some .int) ∈ wsX6_readWind := mb_X6_readWind_wsX6_readWind_r1 (List.mem_of_getElem? (i := 9) rfl)
theorem mx_X6_readWind_11 : Cond.fieldLink RX6 22 "MillTalk$Tape" "size" "I" ∈ wsX6_readWind := mb_X6_readWind_wsX6_readWind_r1 (List.mem_of_getElem? (i := 10) rfl)
theorem mx_X6_readWind_12 : Cond.fieldLink RX6 11 "MillTalk$Tape" "bytes" "[I" ∈ wsX6_readWind := mb_X6_readWind_wsX6_readWind_r1 (List.mem_of_getElem? (i := 11) rfl)
theorem mb_X6_readWind_wsX60 {w : Cond} (h : w ∈ wsX60) : w ∈ wsX6_readWind := by unfold wsX6_readWind; exact List.mem_cons_of_mem _ (List.mem_append_left _ (List.mem_append_right _ (h)))
theorem ggX6_readWind_X6_byteAt : GoodIn wsX6_readWind wsX6_byteAt := goodIn_sub (by unfold wsX6_byteAt; exact List.forall_mem_cons.mpr ⟨mx_X6_readWind_10, List.forall_mem_append.mpr ⟨List.forall_mem_cons.mpr ⟨mx_X6_readWind_11, List.forall_mem_cons.mpr ⟨mx_X6_readWind_12, fun _ h_ => absurd h_ List.not_mem_nil⟩⟩, (fun _ h_ => mb_X6_readWind_wsX60 h_)⟩⟩) (by decide +kernel)
theorem mx_X6_readWind_6 : Cond.methodLink RX6 71 yX6_byteAt ∈ wsX6_readWind := mb_X6_readWind_wsX6_readWind_r1 (List.mem_of_getElem? (i := 5) rfl)
theorem mx_X6_readWind_7 : Cond.instanceMethod yX6_byteAt ∈ wsX6_readWind := mb_X6_readWind_wsX6_readWind_r1 (List.mem_of_getElem? (i := 6) rfl)
theorem mx_X6_readWind_8 : Cond.selects RX6 yX6_byteAt yX6_byteAt ∈ wsX6_readWind := mb_X6_readWind_wsX6_readWind_r1 (List.mem_of_getElem? (i := 7) rfl)
theorem mx_X6_readWind_9 : Cond.initialized RX6 ∈ wsX6_readWind := mb_X6_readWind_wsX6_readWind_r1 (List.mem_of_getElem? (i := 8) rfl)
theorem gX6_readWind_X6_byteAt : GoodIn wsX6_readWind (wsV RX6 71 RX6 yX6_byteAt wsX6_byteAt) := goodIn_app (goodIn_sub (List.forall_mem_cons.mpr ⟨mx_X6_readWind_6, List.forall_mem_cons.mpr ⟨mx_X6_readWind_7, List.forall_mem_cons.mpr ⟨mx_X6_readWind_8, List.forall_mem_cons.mpr ⟨mx_X6_readWind_9, fun _ h_ => absurd h_ List.not_mem_nil⟩⟩⟩⟩) (by decide +kernel)) ggX6_readWind_X6_byteAt
theorem mx_X6_readWind_16 : Cond.code yX6_fail cX6_fail 2 none ∈ wsX6_readWind := mb_X6_readWind_wsX6_readWind_r1 (List.mem_of_getElem? (i := 15) rfl)
theorem mx_X6_readWind_1 : Cond.fieldLink RX6 30 "MillTalk$Tape" "fault" "I" ∈ wsX6_readWind := mb_X6_readWind_wsX6_readWind_r1 (List.mem_of_getElem? (i := 0) rfl)
theorem mx_X6_readWind_2 : Cond.fieldLink RX6 36 "MillTalk$Tape" "place" "I" ∈ wsX6_readWind := mb_X6_readWind_wsX6_readWind_r1 (List.mem_of_getElem? (i := 1) rfl)
theorem mx_X6_readWind_17 : Cond.fieldLink RX6 33 "MillTalk$Tape" "faultPlace" "I" ∈ wsX6_readWind := mb_X6_readWind_wsX6_readWind_r1 (List.mem_of_getElem? (i := 16) rfl)
theorem ggX6_readWind_X6_fail : GoodIn wsX6_readWind wsX6_fail := goodIn_sub (by unfold wsX6_fail; exact List.forall_mem_cons.mpr ⟨mx_X6_readWind_16, List.forall_mem_append.mpr ⟨List.forall_mem_cons.mpr ⟨mx_X6_readWind_1, List.forall_mem_cons.mpr ⟨mx_X6_readWind_2, List.forall_mem_cons.mpr ⟨mx_X6_readWind_17, fun _ h_ => absurd h_ List.not_mem_nil⟩⟩⟩, (fun _ h_ => mb_X6_readWind_wsX60 h_)⟩⟩) (by decide +kernel)
theorem mx_X6_readWind_13 : Cond.methodLink RX6 78 yX6_fail ∈ wsX6_readWind := mb_X6_readWind_wsX6_readWind_r1 (List.mem_of_getElem? (i := 12) rfl)
theorem mx_X6_readWind_14 : Cond.instanceMethod yX6_fail ∈ wsX6_readWind := mb_X6_readWind_wsX6_readWind_r1 (List.mem_of_getElem? (i := 13) rfl)
theorem mx_X6_readWind_15 : Cond.selects RX6 yX6_fail yX6_fail ∈ wsX6_readWind := mb_X6_readWind_wsX6_readWind_r1 (List.mem_of_getElem? (i := 14) rfl)
theorem gX6_readWind_X6_fail : GoodIn wsX6_readWind (wsV RX6 78 RX6 yX6_fail wsX6_fail) := goodIn_app (goodIn_sub (List.forall_mem_cons.mpr ⟨mx_X6_readWind_13, List.forall_mem_cons.mpr ⟨mx_X6_readWind_14, List.forall_mem_cons.mpr ⟨mx_X6_readWind_15, List.forall_mem_cons.mpr ⟨mx_X6_readWind_9, fun _ h_ => absurd h_ List.not_mem_nil⟩⟩⟩⟩) (by decide +kernel)) ggX6_readWind_X6_fail
theorem mx_X6_readWind_21 : Cond.code yX6_readByte cX6_readByte 2 none ∈ wsX6_readWind := mb_X6_readWind_wsX6_readWind_r1 (List.mem_of_getElem? (i := 20) rfl)
theorem ggX6_readWind_X6_readByte : GoodIn wsX6_readWind wsX6_readByte := goodIn_sub (by unfold wsX6_readByte; exact List.forall_mem_cons.mpr ⟨mx_X6_readWind_21, List.forall_mem_append.mpr ⟨List.forall_mem_cons.mpr ⟨mx_X6_readWind_2, List.forall_mem_cons.mpr ⟨mx_X6_readWind_6, List.forall_mem_cons.mpr ⟨mx_X6_readWind_7, List.forall_mem_cons.mpr ⟨mx_X6_readWind_8, List.forall_mem_cons.mpr ⟨mx_X6_readWind_9, List.forall_mem_cons.mpr ⟨mx_X6_readWind_10, List.forall_mem_cons.mpr ⟨mx_X6_readWind_11, List.forall_mem_cons.mpr ⟨mx_X6_readWind_12, List.forall_mem_cons.mpr ⟨mx_X6_readWind_13, List.forall_mem_cons.mpr ⟨mx_X6_readWind_14, List.forall_mem_cons.mpr ⟨mx_X6_readWind_15, List.forall_mem_cons.mpr ⟨mx_X6_readWind_16, List.forall_mem_cons.mpr ⟨mx_X6_readWind_1, List.forall_mem_cons.mpr ⟨mx_X6_readWind_17, fun _ h_ => absurd h_ List.not_mem_nil⟩⟩⟩⟩⟩⟩⟩⟩⟩⟩⟩⟩⟩⟩, (fun _ h_ => mb_X6_readWind_wsX60 h_)⟩⟩) (by decide +kernel)
theorem mx_X6_readWind_18 : Cond.methodLink RX6 51 yX6_readByte ∈ wsX6_readWind := mb_X6_readWind_wsX6_readWind_r1 (List.mem_of_getElem? (i := 17) rfl)
theorem mx_X6_readWind_19 : Cond.instanceMethod yX6_readByte ∈ wsX6_readWind := mb_X6_readWind_wsX6_readWind_r1 (List.mem_of_getElem? (i := 18) rfl)
theorem mx_X6_readWind_20 : Cond.selects RX6 yX6_readByte yX6_readByte ∈ wsX6_readWind := mb_X6_readWind_wsX6_readWind_r1 (List.mem_of_getElem? (i := 19) rfl)
theorem gX6_readWind_X6_readByte : GoodIn wsX6_readWind (wsV RX6 51 RX6 yX6_readByte wsX6_readByte) := goodIn_app (goodIn_sub (List.forall_mem_cons.mpr ⟨mx_X6_readWind_18, List.forall_mem_cons.mpr ⟨mx_X6_readWind_19, List.forall_mem_cons.mpr ⟨mx_X6_readWind_20, List.forall_mem_cons.mpr ⟨mx_X6_readWind_9, fun _ h_ => absurd h_ List.not_mem_nil⟩⟩⟩⟩) (by decide +kernel)) ggX6_readWind_X6_readByte
theorem mb_X6_readWind_wsX6_readWind_r2 {w : Cond} (h : w ∈ wsX6_readWind_r2) : w ∈ wsX6_readWind := by unfold wsX6_readWind; exact List.mem_cons_of_mem _ (List.mem_append_left _ (List.mem_append_left _ (List.mem_append_right _ (h))))
theorem mx_X6_readWind_25 : Cond.code yX6_readNumber cX6_readNumber 6 (some .int) ∈ wsX6_readWind := mb_X6_readWind_wsX6_readWind_r2 (List.mem_of_getElem? (i := 0) rfl)
theorem mx_X6_readWind_26 : Cond.methodLink RX6 100 yX6_figuresHere ∈ wsX6_readWind := mb_X6_readWind_wsX6_readWind_r2 (List.mem_of_getElem? (i := 1) rfl)
theorem mx_X6_readWind_27 : Cond.instanceMethod yX6_figuresHere ∈ wsX6_readWind := mb_X6_readWind_wsX6_readWind_r2 (List.mem_of_getElem? (i := 2) rfl)
theorem mx_X6_readWind_28 : Cond.selects RX6 yX6_figuresHere yX6_figuresHere ∈ wsX6_readWind := mb_X6_readWind_wsX6_readWind_r2 (List.mem_of_getElem? (i := 3) rfl)
theorem mx_X6_readWind_29 : Cond.code yX6_figuresHere cX6_figuresHere 2 (some .int) ∈ wsX6_readWind := mb_X6_readWind_wsX6_readWind_r2 (List.mem_of_getElem? (i := 4) rfl)
theorem mx_X6_readWind_30 : Cond.methodLink RX6 104 yX6_isFigure ∈ wsX6_readWind := mb_X6_readWind_wsX6_readWind_r2 (List.mem_of_getElem? (i := 5) rfl)
theorem mx_X6_readWind_31 : Cond.static yX6_isFigure ∈ wsX6_readWind := mb_X6_readWind_wsX6_readWind_r2 (List.mem_of_getElem? (i := 6) rfl)
theorem mx_X6_readWind_32 : Cond.code yX6_isFigure cX6_isFigure 1 (some .boolean) ∈ wsX6_readWind := mb_X6_readWind_wsX6_readWind_r2 (List.mem_of_getElem? (i := 7) rfl)
theorem ggX6_readWind_X6_readNumber : GoodIn wsX6_readWind wsX6_readNumber := goodIn_sub (by unfold wsX6_readNumber; exact List.forall_mem_cons.mpr ⟨mx_X6_readWind_25, List.forall_mem_append.mpr ⟨List.forall_mem_cons.mpr ⟨mx_X6_readWind_2, List.forall_mem_cons.mpr ⟨mx_X6_readWind_26, List.forall_mem_cons.mpr ⟨mx_X6_readWind_27, List.forall_mem_cons.mpr ⟨mx_X6_readWind_28, List.forall_mem_cons.mpr ⟨mx_X6_readWind_9, List.forall_mem_cons.mpr ⟨mx_X6_readWind_29, List.forall_mem_cons.mpr ⟨mx_X6_readWind_6, List.forall_mem_cons.mpr ⟨mx_X6_readWind_7, List.forall_mem_cons.mpr ⟨mx_X6_readWind_8, List.forall_mem_cons.mpr ⟨mx_X6_readWind_10, List.forall_mem_cons.mpr ⟨mx_X6_readWind_11, List.forall_mem_cons.mpr ⟨mx_X6_readWind_12, List.forall_mem_cons.mpr ⟨mx_X6_readWind_30, List.forall_mem_cons.mpr ⟨mx_X6_readWind_31, List.forall_mem_cons.mpr ⟨mx_X6_readWind_32, List.forall_mem_cons.mpr ⟨mx_X6_readWind_13, List.forall_mem_cons.mpr ⟨mx_X6_readWind_14, List.forall_mem_cons.mpr ⟨mx_X6_readWind_15, List.forall_mem_cons.mpr ⟨mx_X6_readWind_16, List.forall_mem_cons.mpr ⟨mx_X6_readWind_1, List.forall_mem_cons.mpr ⟨mx_X6_readWind_17, fun _ h_ => absurd h_ List.not_mem_nil⟩⟩⟩⟩⟩⟩⟩⟩⟩⟩⟩⟩⟩⟩⟩⟩⟩⟩⟩⟩⟩, (fun _ h_ => mb_X6_readWind_wsX60 h_)⟩⟩) (by decide +kernel)
theorem mx_X6_readWind_22 : Cond.methodLink RX6 55 yX6_readNumber ∈ wsX6_readWind := mb_X6_readWind_wsX6_readWind_r1 (List.mem_of_getElem? (i := 21) rfl)
theorem mx_X6_readWind_23 : Cond.instanceMethod yX6_readNumber ∈ wsX6_readWind := mb_X6_readWind_wsX6_readWind_r1 (List.mem_of_getElem? (i := 22) rfl)
theorem mx_X6_readWind_24 : Cond.selects RX6 yX6_readNumber yX6_readNumber ∈ wsX6_readWind := mb_X6_readWind_wsX6_readWind_r1 (List.mem_of_getElem? (i := 23) rfl)
theorem gX6_readWind_X6_readNumber : GoodIn wsX6_readWind (wsV RX6 55 RX6 yX6_readNumber wsX6_readNumber) := goodIn_app (goodIn_sub (List.forall_mem_cons.mpr ⟨mx_X6_readWind_22, List.forall_mem_cons.mpr ⟨mx_X6_readWind_23, List.forall_mem_cons.mpr ⟨mx_X6_readWind_24, List.forall_mem_cons.mpr ⟨mx_X6_readWind_9, fun _ h_ => absurd h_ List.not_mem_nil⟩⟩⟩⟩) (by decide +kernel)) ggX6_readWind_X6_readNumber
theorem mb_X6_readWinds_wsX6_readWinds_r1 {w : Cond} (h : w ∈ wsX6_readWinds_r1) : w ∈ wsX6_readWinds := by unfold wsX6_readWinds; exact List.mem_cons_of_mem _ (List.mem_append_left _ (List.mem_append_left _ (List.mem_append_left _ (h))))
theorem mx_X6_readWinds_14 : Cond.code yX6_byteAt cX6_byteAt 2 (some .int) ∈ wsX6_readWinds := mb_X6_readWinds_wsX6_readWinds_r1 (List.mem_of_getElem? (i := 13) rfl)
theorem mx_X6_readWinds_15 : Cond.fieldLink RX6 22 "MillTalk$Tape" "size" "I" ∈ wsX6_readWinds := mb_X6_readWinds_wsX6_readWinds_r1 (List.mem_of_getElem? (i := 14) rfl)
theorem mx_X6_readWinds_16 : Cond.fieldLink RX6 11 "MillTalk$Tape" "bytes" "[I" ∈ wsX6_readWinds := mb_X6_readWinds_wsX6_readWinds_r1 (List.mem_of_getElem? (i := 15) rfl)
theorem mb_X6_readWinds_wsX60 {w : Cond} (h : w ∈ wsX60) : w ∈ wsX6_readWinds := by unfold wsX6_readWinds; exact List.mem_cons_of_mem _ (List.mem_append_left _ (List.mem_append_right _ (h)))
theorem ggX6_readWinds_X6_byteAt : GoodIn wsX6_readWinds wsX6_byteAt := goodIn_sub (by unfold wsX6_byteAt; exact List.forall_mem_cons.mpr ⟨mx_X6_readWinds_14, List.forall_mem_append.mpr ⟨List.forall_mem_cons.mpr ⟨mx_X6_readWinds_15, List.forall_mem_cons.mpr ⟨mx_X6_readWinds_16, fun _ h_ => absurd h_ List.not_mem_nil⟩⟩, (fun _ h_ => mb_X6_readWinds_wsX60 h_)⟩⟩) (by decide +kernel)
theorem mx_X6_readWinds_11 : Cond.methodLink RX6 71 yX6_byteAt ∈ wsX6_readWinds := mb_X6_readWinds_wsX6_readWinds_r1 (List.mem_of_getElem? (i := 10) rfl)
theorem mx_X6_readWinds_12 : Cond.instanceMethod yX6_byteAt ∈ wsX6_readWinds := mb_X6_readWinds_wsX6_readWinds_r1 (List.mem_of_getElem? (i := 11) rfl)
theorem mx_X6_readWinds_13 : Cond.selects RX6 yX6_byteAt yX6_byteAt ∈ wsX6_readWinds := mb_X6_readWinds_wsX6_readWinds_r1 (List.mem_of_getElem? (i := 12) rfl)
theorem mx_X6_readWinds_6 : Cond.initialized RX6 ∈ wsX6_readWinds := mb_X6_readWinds_wsX6_readWinds_r1 (List.mem_of_getElem? (i := 5) rfl)
theorem gX6_readWinds_X6_byteAt : GoodIn wsX6_readWinds (wsV RX6 71 RX6 yX6_byteAt wsX6_byteAt) := goodIn_app (goodIn_sub (List.forall_mem_cons.mpr ⟨mx_X6_readWinds_11, List.forall_mem_cons.mpr ⟨mx_X6_readWinds_12, List.forall_mem_cons.mpr ⟨mx_X6_readWinds_13, List.forall_mem_cons.mpr ⟨mx_X6_readWinds_6, fun _ h_ => absurd h_ List.not_mem_nil⟩⟩⟩⟩) (by decide +kernel)) ggX6_readWinds_X6_byteAt
theorem mx_X6_readWinds_7 : Cond.code yX6_readWind cX6_readWind 2 none ∈ wsX6_readWinds := mb_X6_readWinds_wsX6_readWinds_r1 (List.mem_of_getElem? (i := 6) rfl)
theorem mx_X6_readWinds_1 : Cond.fieldLink RX6 30 "MillTalk$Tape" "fault" "I" ∈ wsX6_readWinds := mb_X6_readWinds_wsX6_readWinds_r1 (List.mem_of_getElem? (i := 0) rfl)
theorem mx_X6_readWinds_2 : Cond.fieldLink RX6 36 "MillTalk$Tape" "place" "I" ∈ wsX6_readWinds := mb_X6_readWinds_wsX6_readWinds_r1 (List.mem_of_getElem? (i := 1) rfl)
theorem mx_X6_readWinds_8 : Cond.fieldLink RX6 18 "MillTalk$Tape" "told" "LMillTalk$Level;" ∈ wsX6_readWinds := mb_X6_readWinds_wsX6_readWinds_r1 (List.mem_of_getElem? (i := 7) rfl)
theorem mx_X6_readWinds_9 : Cond.fieldLink RX6 75 "MillTalk$Level" "windCount" "I" ∈ wsX6_readWinds := mb_X6_readWinds_wsX6_readWinds_r1 (List.mem_of_getElem? (i := 8) rfl)
theorem mx_X6_readWinds_10 : Cond.fieldLink RX6 81 "MillTalk$Level" "winds" "[I" ∈ wsX6_readWinds := mb_X6_readWinds_wsX6_readWinds_r1 (List.mem_of_getElem? (i := 9) rfl)
theorem mx_X6_readWinds_17 : Cond.methodLink RX6 78 yX6_fail ∈ wsX6_readWinds := mb_X6_readWinds_wsX6_readWinds_r1 (List.mem_of_getElem? (i := 16) rfl)
theorem mx_X6_readWinds_18 : Cond.instanceMethod yX6_fail ∈ wsX6_readWinds := mb_X6_readWinds_wsX6_readWinds_r1 (List.mem_of_getElem? (i := 17) rfl)
theorem mx_X6_readWinds_19 : Cond.selects RX6 yX6_fail yX6_fail ∈ wsX6_readWinds := mb_X6_readWinds_wsX6_readWinds_r1 (List.mem_of_getElem? (i := 18) rfl)
theorem mx_X6_readWinds_20 : Cond.code yX6_fail cX6_fail 2 none ∈ wsX6_readWinds := mb_X6_readWinds_wsX6_readWinds_r1 (List.mem_of_getElem? (i := 19) rfl)
theorem mx_X6_readWinds_21 : Cond.fieldLink RX6 33 "MillTalk$Tape" "faultPlace" "I" ∈ wsX6_readWinds := mb_X6_readWinds_wsX6_readWinds_r1 (List.mem_of_getElem? (i := 20) rfl)
theorem mx_X6_readWinds_22 : Cond.methodLink RX6 51 yX6_readByte ∈ wsX6_readWinds := mb_X6_readWinds_wsX6_readWinds_r1 (List.mem_of_getElem? (i := 21) rfl)
theorem mx_X6_readWinds_23 : Cond.instanceMethod yX6_readByte ∈ wsX6_readWinds := mb_X6_readWinds_wsX6_readWinds_r1 (List.mem_of_getElem? (i := 22) rfl)
theorem mx_X6_readWinds_24 : Cond.selects RX6 yX6_readByte yX6_readByte ∈ wsX6_readWinds := mb_X6_readWinds_wsX6_readWinds_r1 (List.mem_of_getElem? (i := 23) rfl)
theorem mb_X6_readWinds_wsX6_readWinds_r2 {w : Cond} (h : w ∈ wsX6_readWinds_r2) : w ∈ wsX6_readWinds := by unfold wsX6_readWinds; exact List.mem_cons_of_mem _ (List.mem_append_left _ (List.mem_append_left _ (List.mem_append_right _ (h))))
theorem mx_X6_readWinds_25 : Cond.code yX6_readByte cX6_readByte 2 none ∈ wsX6_readWinds := mb_X6_readWinds_wsX6_readWinds_r2 (List.mem_of_getElem? (i := 0) rfl)
theorem mx_X6_readWinds_26 : Cond.methodLink RX6 55 yX6_readNumber ∈ wsX6_readWinds := mb_X6_readWinds_wsX6_readWinds_r2 (List.mem_of_getElem? (i := 1) rfl)
theorem mx_X6_readWinds_27 : Cond.instanceMethod yX6_readNumber ∈ wsX6_readWinds := mb_X6_readWinds_wsX6_readWinds_r2 (List.mem_of_getElem? (i := 2) rfl)
theorem mx_X6_readWinds_28 : Cond.selects RX6 yX6_readNumber yX6_readNumber ∈ wsX6_readWinds := mb_X6_readWinds_wsX6_readWinds_r2 (List.mem_of_getElem? (i := 3) rfl)
theorem mx_X6_readWinds_29 : Cond.code yX6_readNumber cX6_readNumber 6 (some .int) ∈ wsX6_readWinds := mb_X6_readWinds_wsX6_readWinds_r2 (List.mem_of_getElem? (i := 4) rfl)
theorem mx_X6_readWinds_30 : Cond.methodLink RX6 100 yX6_figuresHere ∈ wsX6_readWinds := mb_X6_readWinds_wsX6_readWinds_r2 (List.mem_of_getElem? (i := 5) rfl)
theorem mx_X6_readWinds_31 : Cond.instanceMethod yX6_figuresHere ∈ wsX6_readWinds := mb_X6_readWinds_wsX6_readWinds_r2 (List.mem_of_getElem? (i := 6) rfl)
theorem mx_X6_readWinds_32 : Cond.selects RX6 yX6_figuresHere yX6_figuresHere ∈ wsX6_readWinds := mb_X6_readWinds_wsX6_readWinds_r2 (List.mem_of_getElem? (i := 7) rfl)
theorem mx_X6_readWinds_33 : Cond.code yX6_figuresHere cX6_figuresHere 2 (some .int) ∈ wsX6_readWinds := mb_X6_readWinds_wsX6_readWinds_r2 (List.mem_of_getElem? (i := 8) rfl)
theorem mx_X6_readWinds_34 : Cond.methodLink RX6 104 yX6_isFigure ∈ wsX6_readWinds := mb_X6_readWinds_wsX6_readWinds_r2 (List.mem_of_getElem? (i := 9) rfl)
theorem mx_X6_readWinds_35 : Cond.static yX6_isFigure ∈ wsX6_readWinds := mb_X6_readWinds_wsX6_readWinds_r2 (List.mem_of_getElem? (i := 10) rfl)
theorem mx_X6_readWinds_36 : Cond.code yX6_isFigure cX6_isFigure 1 (some .boolean) ∈ wsX6_readWinds := mb_X6_readWinds_wsX6_readWinds_r2 (List.mem_of_getElem? (i := 11) rfl)
theorem mb_X6_readWinds_wsX30 {w : Cond} (h : w ∈ wsX30) : w ∈ wsX6_readWinds := by unfold wsX6_readWinds; exact List.mem_cons_of_mem _ (List.mem_append_right _ (h))
theorem ggX6_readWinds_X6_readWind : GoodIn wsX6_readWinds wsX6_readWind := goodIn_sub (by unfold wsX6_readWind; exact List.forall_mem_cons.mpr ⟨mx_X6_readWinds_7, List.forall_mem_append.mpr ⟨List.forall_mem_append.mpr ⟨List.forall_mem_append.mpr ⟨(by unfold wsX6_readWind_r1; exact List.forall_mem_cons.mpr ⟨mx_X6_readWinds_1, List.forall_mem_cons.mpr ⟨mx_X6_readWinds_2, List.forall_mem_cons.mpr ⟨mx_X6_readWinds_8, List.forall_mem_cons.mpr ⟨mx_X6_readWinds_9, List.forall_mem_cons.mpr ⟨mx_X6_readWinds_10, List.forall_mem_cons.mpr ⟨mx_X6_readWinds_11, List.forall_mem_cons.mpr ⟨mx_X6_readWinds_12, List.forall_mem_cons.mpr ⟨mx_X6_readWinds_13, List.forall_mem_cons.mpr ⟨mx_X6_readWinds_6, List.forall_mem_cons.mpr ⟨mx_X6_readWinds_14, List.forall_mem_cons.mpr ⟨mx_X6_readWinds_15, List.forall_mem_cons.mpr ⟨mx_X6_readWinds_16, List.forall_mem_cons.mpr ⟨mx_X6_readWinds_17, List.forall_mem_cons.mpr ⟨mx_X6_readWinds_18, List.forall_mem_cons.mpr ⟨mx_X6_readWinds_19, List.forall_mem_cons.mpr ⟨mx_X6_readWinds_20, List.forall_mem_cons.mpr ⟨mx_X6_readWinds_21, List.forall_mem_cons.mpr ⟨mx_X6_readWinds_22, List.forall_mem_cons.mpr ⟨mx_X6_readWinds_23, List.forall_mem_cons.mpr ⟨mx_X6_readWinds_24, List.forall_mem_cons.mpr ⟨mx_X6_readWinds_25, List.forall_mem_cons.mpr ⟨mx_X6_readWinds_26, List.forall_mem_cons.mpr ⟨mx_X6_readWinds_27, List.forall_mem_cons.mpr ⟨mx_X6_readWinds_28, fun _ h_ => absurd h_ List.not_mem_nil⟩⟩⟩⟩⟩⟩⟩⟩⟩⟩⟩⟩⟩⟩⟩⟩⟩⟩⟩⟩⟩⟩⟩⟩), (by unfold wsX6_readWind_r2; exact List.forall_mem_cons.mpr ⟨mx_X6_readWinds_29, List.forall_mem_cons.mpr ⟨mx_X6_readWinds_30, List.forall_mem_cons.mpr ⟨mx_X6_readWinds_31, List.forall_mem_cons.mpr ⟨mx_X6_readWinds_32, List.forall_mem_cons.mpr ⟨mx_X6_readWinds_33, List.forall_mem_cons.mpr ⟨mx_X6_readWinds_34, List.forall_mem_cons.mpr ⟨mx_X6_readWinds_35, List.forall_mem_cons.mpr ⟨mx_X6_readWinds_36, fun _ h_ => absurd h_ List.not_mem_nil⟩⟩⟩⟩⟩⟩⟩⟩)⟩, (fun _ h_ => mb_X6_readWinds_wsX60 h_)⟩, (fun _ h_ => mb_X6_readWinds_wsX30 h_)⟩⟩) (by decide +kernel)
theorem mx_X6_readWinds_3 : Cond.methodLink RX6 68 yX6_readWind ∈ wsX6_readWinds := mb_X6_readWinds_wsX6_readWinds_r1 (List.mem_of_getElem? (i := 2) rfl)
theorem mx_X6_readWinds_4 : Cond.instanceMethod yX6_readWind ∈ wsX6_readWinds := mb_X6_readWinds_wsX6_readWinds_r1 (List.mem_of_getElem? (i := 3) rfl)
theorem mx_X6_readWinds_5 : Cond.selects RX6 yX6_readWind yX6_readWind ∈ wsX6_readWinds := mb_X6_readWinds_wsX6_readWinds_r1 (List.mem_of_getElem? (i := 4) rfl)
theorem gX6_readWinds_X6_readWind : GoodIn wsX6_readWinds (wsV RX6 68 RX6 yX6_readWind wsX6_readWind) := goodIn_app (goodIn_sub (List.forall_mem_cons.mpr ⟨mx_X6_readWinds_3, List.forall_mem_cons.mpr ⟨mx_X6_readWinds_4, List.forall_mem_cons.mpr ⟨mx_X6_readWinds_5, List.forall_mem_cons.mpr ⟨mx_X6_readWinds_6, fun _ h_ => absurd h_ List.not_mem_nil⟩⟩⟩⟩) (by decide +kernel)) ggX6_readWinds_X6_readWind
theorem mb_X6_read_wsX6_read_r1 {w : Cond} (h : w ∈ wsX6_read_r1) : w ∈ wsX6_read := by unfold wsX6_read; exact List.mem_cons_of_mem _ (List.mem_append_left _ (List.mem_append_left _ (List.mem_append_left _ (h))))
theorem mx_X6_read_10 : Cond.code yX3_begin cX3_begin 1 none ∈ wsX6_read := mb_X6_read_wsX6_read_r1 (List.mem_of_getElem? (i := 9) rfl)
theorem mx_X6_read_11 : Cond.fieldLink RX3 27 "MillTalk$Level" "cells" "I" ∈ wsX6_read := mb_X6_read_wsX6_read_r1 (List.mem_of_getElem? (i := 10) rfl)
theorem mx_X6_read_12 : Cond.fieldLink RX3 31 "MillTalk$Level" "mill" "I" ∈ wsX6_read := mb_X6_read_wsX6_read_r1 (List.mem_of_getElem? (i := 11) rfl)
theorem mx_X6_read_13 : Cond.fieldLink RX3 34 "MillTalk$Level" "reach" "I" ∈ wsX6_read := mb_X6_read_wsX6_read_r1 (List.mem_of_getElem? (i := 12) rfl)
theorem mx_X6_read_14 : Cond.fieldLink RX3 37 "MillTalk$Level" "cap" "I" ∈ wsX6_read := mb_X6_read_wsX6_read_r1 (List.mem_of_getElem? (i := 13) rfl)
theorem mx_X6_read_15 : Cond.fieldLink RX3 40 "MillTalk$Level" "hour" "I" ∈ wsX6_read := mb_X6_read_wsX6_read_r1 (List.mem_of_getElem? (i := 14) rfl)
theorem mx_X6_read_16 : Cond.fieldLink RX3 43 "MillTalk$Level" "meal" "I" ∈ wsX6_read := mb_X6_read_wsX6_read_r1 (List.mem_of_getElem? (i := 15) rfl)
theorem mx_X6_read_17 : Cond.fieldLink RX3 46 "MillTalk$Level" "windCount" "I" ∈ wsX6_read := mb_X6_read_wsX6_read_r1 (List.mem_of_getElem? (i := 16) rfl)
theorem mx_X6_read_18 : Cond.fieldLink RX3 49 "MillTalk$Level" "soundCount" "I" ∈ wsX6_read := mb_X6_read_wsX6_read_r1 (List.mem_of_getElem? (i := 17) rfl)
theorem mb_X6_read_wsX30 {w : Cond} (h : w ∈ wsX30) : w ∈ wsX6_read := by unfold wsX6_read; exact List.mem_cons_of_mem _ (List.mem_append_right _ (h))
theorem ggX6_read_X3_begin : GoodIn wsX6_read wsX3_begin := goodIn_sub (by unfold wsX3_begin; exact List.forall_mem_cons.mpr ⟨mx_X6_read_10, List.forall_mem_append.mpr ⟨List.forall_mem_cons.mpr ⟨mx_X6_read_11, List.forall_mem_cons.mpr ⟨mx_X6_read_12, List.forall_mem_cons.mpr ⟨mx_X6_read_13, List.forall_mem_cons.mpr ⟨mx_X6_read_14, List.forall_mem_cons.mpr ⟨mx_X6_read_15, List.forall_mem_cons.mpr ⟨mx_X6_read_16, List.forall_mem_cons.mpr ⟨mx_X6_read_17, List.forall_mem_cons.mpr ⟨mx_X6_read_18, fun _ h_ => absurd h_ List.not_mem_nil⟩⟩⟩⟩⟩⟩⟩⟩, (fun _ h_ => mb_X6_read_wsX30 h_)⟩⟩) (by decide +kernel)
theorem mx_X6_read_6 : Cond.methodLink RX6 39 yX3_begin ∈ wsX6_read := mb_X6_read_wsX6_read_r1 (List.mem_of_getElem? (i := 5) rfl)
theorem mx_X6_read_7 : Cond.instanceMethod yX3_begin ∈ wsX6_read := mb_X6_read_wsX6_read_r1 (List.mem_of_getElem? (i := 6) rfl)
theorem mx_X6_read_8 : Cond.selects RX3 yX3_begin yX3_begin ∈ wsX6_read := mb_X6_read_wsX6_read_r1 (List.mem_of_getElem? (i := 7) rfl)
theorem mx_X6_read_9 : Cond.initialized RX3 ∈ wsX6_read := mb_X6_read_wsX6_read_r1 (List.mem_of_getElem? (i := 8) rfl)
theorem gX6_read_X3_begin : GoodIn wsX6_read (wsV RX6 39 RX3 yX3_begin wsX3_begin) := goodIn_app (goodIn_sub (List.forall_mem_cons.mpr ⟨mx_X6_read_6, List.forall_mem_cons.mpr ⟨mx_X6_read_7, List.forall_mem_cons.mpr ⟨mx_X6_read_8, List.forall_mem_cons.mpr ⟨mx_X6_read_9, fun _ h_ => absurd h_ List.not_mem_nil⟩⟩⟩⟩) (by decide +kernel)) ggX6_read_X3_begin
theorem mx_X6_read_23 : Cond.code yX6_readLaw cX6_readLaw 1 none ∈ wsX6_read := mb_X6_read_wsX6_read_r1 (List.mem_of_getElem? (i := 22) rfl)
theorem mx_X6_read_4 : Cond.fieldLink RX6 18 "MillTalk$Tape" "told" "LMillTalk$Level;" ∈ wsX6_read := mb_X6_read_wsX6_read_r1 (List.mem_of_getElem? (i := 3) rfl)
theorem mx_X6_read_24 : Cond.fieldLink RX6 59 "MillTalk$Level" "cells" "I" ∈ wsX6_read := mb_X6_read_wsX6_read_r1 (List.mem_of_getElem? (i := 23) rfl)
theorem mb_X6_read_wsX6_read_r2 {w : Cond} (h : w ∈ wsX6_read_r2) : w ∈ wsX6_read := by unfold wsX6_read; exact List.mem_cons_of_mem _ (List.mem_append_left _ (List.mem_append_left _ (List.mem_append_right _ (List.mem_append_left _ (h)))))
theorem mx_X6_read_25 : Cond.fieldLink RX6 62 "MillTalk$Level" "mill" "I" ∈ wsX6_read := mb_X6_read_wsX6_read_r2 (List.mem_of_getElem? (i := 0) rfl)
theorem mx_X6_read_26 : Cond.fieldLink RX6 65 "MillTalk$Level" "reach" "I" ∈ wsX6_read := mb_X6_read_wsX6_read_r2 (List.mem_of_getElem? (i := 1) rfl)
theorem mx_X6_read_27 : Cond.methodLink RX6 51 yX6_readByte ∈ wsX6_read := mb_X6_read_wsX6_read_r2 (List.mem_of_getElem? (i := 2) rfl)
theorem mx_X6_read_28 : Cond.instanceMethod yX6_readByte ∈ wsX6_read := mb_X6_read_wsX6_read_r2 (List.mem_of_getElem? (i := 3) rfl)
theorem mx_X6_read_29 : Cond.selects RX6 yX6_readByte yX6_readByte ∈ wsX6_read := mb_X6_read_wsX6_read_r2 (List.mem_of_getElem? (i := 4) rfl)
theorem mx_X6_read_22 : Cond.initialized RX6 ∈ wsX6_read := mb_X6_read_wsX6_read_r1 (List.mem_of_getElem? (i := 21) rfl)
theorem mx_X6_read_30 : Cond.code yX6_readByte cX6_readByte 2 none ∈ wsX6_read := mb_X6_read_wsX6_read_r2 (List.mem_of_getElem? (i := 5) rfl)
theorem mx_X6_read_3 : Cond.fieldLink RX6 36 "MillTalk$Tape" "place" "I" ∈ wsX6_read := mb_X6_read_wsX6_read_r1 (List.mem_of_getElem? (i := 2) rfl)
theorem mx_X6_read_31 : Cond.methodLink RX6 71 yX6_byteAt ∈ wsX6_read := mb_X6_read_wsX6_read_r2 (List.mem_of_getElem? (i := 6) rfl)
theorem mx_X6_read_32 : Cond.instanceMethod yX6_byteAt ∈ wsX6_read := mb_X6_read_wsX6_read_r2 (List.mem_of_getElem? (i := 7) rfl)
theorem mx_X6_read_33 : Cond.selects RX6 yX6_byteAt yX6_byteAt ∈ wsX6_read := mb_X6_read_wsX6_read_r2 (List.mem_of_getElem? (i := 8) rfl)
theorem mx_X6_read_34 : Cond.code yX6_byteAt cX6_byteAt 2 (some .int) ∈ wsX6_read := mb_X6_read_wsX6_read_r2 (List.mem_of_getElem? (i := 9) rfl)
theorem mx_X6_read_5 : Cond.fieldLink RX6 22 "MillTalk$Tape" "size" "I" ∈ wsX6_read := mb_X6_read_wsX6_read_r1 (List.mem_of_getElem? (i := 4) rfl)
theorem mx_X6_read_35 : Cond.fieldLink RX6 11 "MillTalk$Tape" "bytes" "[I" ∈ wsX6_read := mb_X6_read_wsX6_read_r2 (List.mem_of_getElem? (i := 10) rfl)
theorem mx_X6_read_36 : Cond.methodLink RX6 78 yX6_fail ∈ wsX6_read := mb_X6_read_wsX6_read_r2 (List.mem_of_getElem? (i := 11) rfl)
theorem mx_X6_read_37 : Cond.instanceMethod yX6_fail ∈ wsX6_read := mb_X6_read_wsX6_read_r2 (List.mem_of_getElem? (i := 12) rfl)
theorem mx_X6_read_38 : Cond.selects RX6 yX6_fail yX6_fail ∈ wsX6_read := mb_X6_read_wsX6_read_r2 (List.mem_of_getElem? (i := 13) rfl)
theorem mx_X6_read_39 : Cond.code yX6_fail cX6_fail 2 none ∈ wsX6_read := mb_X6_read_wsX6_read_r2 (List.mem_of_getElem? (i := 14) rfl)
theorem mx_X6_read_1 : Cond.fieldLink RX6 30 "MillTalk$Tape" "fault" "I" ∈ wsX6_read := mb_X6_read_wsX6_read_r1 (List.mem_of_getElem? (i := 0) rfl)
theorem mx_X6_read_2 : Cond.fieldLink RX6 33 "MillTalk$Tape" "faultPlace" "I" ∈ wsX6_read := mb_X6_read_wsX6_read_r1 (List.mem_of_getElem? (i := 1) rfl)
theorem mx_X6_read_40 : Cond.methodLink RX6 55 yX6_readNumber ∈ wsX6_read := mb_X6_read_wsX6_read_r2 (List.mem_of_getElem? (i := 15) rfl)
theorem mx_X6_read_41 : Cond.instanceMethod yX6_readNumber ∈ wsX6_read := mb_X6_read_wsX6_read_r2 (List.mem_of_getElem? (i := 16) rfl)
theorem mx_X6_read_42 : Cond.selects RX6 yX6_readNumber yX6_readNumber ∈ wsX6_read := mb_X6_read_wsX6_read_r2 (List.mem_of_getElem? (i := 17) rfl)
theorem mx_X6_read_43 : Cond.code yX6_readNumber cX6_readNumber 6 (some .int) ∈ wsX6_read := mb_X6_read_wsX6_read_r2 (List.mem_of_getElem? (i := 18) rfl)
theorem mx_X6_read_44 : Cond.methodLink RX6 100 yX6_figuresHere ∈ wsX6_read := mb_X6_read_wsX6_read_r2 (List.mem_of_getElem? (i := 19) rfl)
theorem mx_X6_read_45 : Cond.instanceMethod yX6_figuresHere ∈ wsX6_read := mb_X6_read_wsX6_read_r2 (List.mem_of_getElem? (i := 20) rfl)
theorem mx_X6_read_46 : Cond.selects RX6 yX6_figuresHere yX6_figuresHere ∈ wsX6_read := mb_X6_read_wsX6_read_r2 (List.mem_of_getElem? (i := 21) rfl)
theorem mx_X6_read_47 : Cond.code yX6_figuresHere cX6_figuresHere 2 (some .int) ∈ wsX6_read := mb_X6_read_wsX6_read_r2 (List.mem_of_getElem? (i := 22) rfl)
theorem mx_X6_read_48 : Cond.methodLink RX6 104 yX6_isFigure ∈ wsX6_read := mb_X6_read_wsX6_read_r2 (List.mem_of_getElem? (i := 23) rfl)
theorem mb_X6_read_wsX6_read_r3 {w : Cond} (h : w ∈ wsX6_read_r3) : w ∈ wsX6_read := by unfold wsX6_read; exact List.mem_cons_of_mem _ (List.mem_append_left _ (List.mem_append_left _ (List.mem_append_right _ (List.mem_append_right _ (List.mem_append_left _ (h))))))
theorem mx_X6_read_49 : Cond.static yX6_isFigure ∈ wsX6_read := mb_X6_read_wsX6_read_r3 (List.mem_of_getElem? (i := 0) rfl)
theorem mx_X6_read_50 : Cond.code yX6_isFigure cX6_isFigure 1 (some .boolean) ∈ wsX6_read := mb_X6_read_wsX6_read_r3 (List.mem_of_getElem? (i := 1) rfl)
theorem mb_X6_read_wsX60 {w : Cond} (h : w ∈ wsX60) : w ∈ wsX6_read := by unfold wsX6_read; exact List.mem_cons_of_mem _ (List.mem_append_left _ (List.mem_append_right _ (h)))
theorem ggX6_read_X6_readLaw : GoodIn wsX6_read wsX6_readLaw := goodIn_sub (by unfold wsX6_readLaw; exact List.forall_mem_cons.mpr ⟨mx_X6_read_23, List.forall_mem_append.mpr ⟨List.forall_mem_append.mpr ⟨List.forall_mem_append.mpr ⟨(by unfold wsX6_readLaw_r1; exact List.forall_mem_cons.mpr ⟨mx_X6_read_4, List.forall_mem_cons.mpr ⟨mx_X6_read_24, List.forall_mem_cons.mpr ⟨mx_X6_read_25, List.forall_mem_cons.mpr ⟨mx_X6_read_26, List.forall_mem_cons.mpr ⟨mx_X6_read_27, List.forall_mem_cons.mpr ⟨mx_X6_read_28, List.forall_mem_cons.mpr ⟨mx_X6_read_29, List.forall_mem_cons.mpr ⟨mx_X6_read_22, List.forall_mem_cons.mpr ⟨mx_X6_read_30, List.forall_mem_cons.mpr ⟨mx_X6_read_3, List.forall_mem_cons.mpr ⟨mx_X6_read_31, List.forall_mem_cons.mpr ⟨mx_X6_read_32, List.forall_mem_cons.mpr ⟨mx_X6_read_33, List.forall_mem_cons.mpr ⟨mx_X6_read_34, List.forall_mem_cons.mpr ⟨mx_X6_read_5, List.forall_mem_cons.mpr ⟨mx_X6_read_35, List.forall_mem_cons.mpr ⟨mx_X6_read_36, List.forall_mem_cons.mpr ⟨mx_X6_read_37, List.forall_mem_cons.mpr ⟨mx_X6_read_38, List.forall_mem_cons.mpr ⟨mx_X6_read_39, List.forall_mem_cons.mpr ⟨mx_X6_read_1, List.forall_mem_cons.mpr ⟨mx_X6_read_2, List.forall_mem_cons.mpr ⟨mx_X6_read_40, List.forall_mem_cons.mpr ⟨mx_X6_read_41, fun _ h_ => absurd h_ List.not_mem_nil⟩⟩⟩⟩⟩⟩⟩⟩⟩⟩⟩⟩⟩⟩⟩⟩⟩⟩⟩⟩⟩⟩⟩⟩), (by unfold wsX6_readLaw_r2; exact List.forall_mem_cons.mpr ⟨mx_X6_read_42, List.forall_mem_cons.mpr ⟨mx_X6_read_43, List.forall_mem_cons.mpr ⟨mx_X6_read_44, List.forall_mem_cons.mpr ⟨mx_X6_read_45, List.forall_mem_cons.mpr ⟨mx_X6_read_46, List.forall_mem_cons.mpr ⟨mx_X6_read_47, List.forall_mem_cons.mpr ⟨mx_X6_read_48, List.forall_mem_cons.mpr ⟨mx_X6_read_49, List.forall_mem_cons.mpr ⟨mx_X6_read_50, fun _ h_ => absurd h_ List.not_mem_nil⟩⟩⟩⟩⟩⟩⟩⟩⟩)⟩, (fun _ h_ => mb_X6_read_wsX60 h_)⟩, (fun _ h_ => mb_X6_read_wsX30 h_)⟩⟩) (by decide +kernel)
theorem mx_X6_read_19 : Cond.methodLink RX6 42 yX6_readLaw ∈ wsX6_read := mb_X6_read_wsX6_read_r1 (List.mem_of_getElem? (i := 18) rfl)
theorem mx_X6_read_20 : Cond.instanceMethod yX6_readLaw ∈ wsX6_read := mb_X6_read_wsX6_read_r1 (List.mem_of_getElem? (i := 19) rfl)
theorem mx_X6_read_21 : Cond.selects RX6 yX6_readLaw yX6_readLaw ∈ wsX6_read := mb_X6_read_wsX6_read_r1 (List.mem_of_getElem? (i := 20) rfl)
theorem gX6_read_X6_readLaw : GoodIn wsX6_read (wsV RX6 42 RX6 yX6_readLaw wsX6_readLaw) := goodIn_app (goodIn_sub (List.forall_mem_cons.mpr ⟨mx_X6_read_19, List.forall_mem_cons.mpr ⟨mx_X6_read_20, List.forall_mem_cons.mpr ⟨mx_X6_read_21, List.forall_mem_cons.mpr ⟨mx_X6_read_22, fun _ h_ => absurd h_ List.not_mem_nil⟩⟩⟩⟩) (by decide +kernel)) ggX6_read_X6_readLaw
theorem mx_X6_read_64 : Cond.code yX6_readSounds cX6_readSounds 2 none ∈ wsX6_read := mb_X6_read_wsX6_read_r3 (List.mem_of_getElem? (i := 15) rfl)
theorem mx_X6_read_65 : Cond.methodLink RX6 84 yX6_readSound ∈ wsX6_read := mb_X6_read_wsX6_read_r3 (List.mem_of_getElem? (i := 16) rfl)
theorem mx_X6_read_66 : Cond.instanceMethod yX6_readSound ∈ wsX6_read := mb_X6_read_wsX6_read_r3 (List.mem_of_getElem? (i := 17) rfl)
theorem mx_X6_read_67 : Cond.selects RX6 yX6_readSound yX6_readSound ∈ wsX6_read := mb_X6_read_wsX6_read_r3 (List.mem_of_getElem? (i := 18) rfl)
theorem mx_X6_read_68 : Cond.code yX6_readSound cX6_readSound 4 none ∈ wsX6_read := mb_X6_read_wsX6_read_r3 (List.mem_of_getElem? (i := 19) rfl)
theorem mx_X6_read_69 : Cond.fieldLink RX6 90 "MillTalk$Level" "soundCount" "I" ∈ wsX6_read := mb_X6_read_wsX6_read_r3 (List.mem_of_getElem? (i := 20) rfl)
theorem mx_X6_read_70 : Cond.fieldLink RX6 93 "MillTalk$Level" "kinds" "[I" ∈ wsX6_read := mb_X6_read_wsX6_read_r3 (List.mem_of_getElem? (i := 21) rfl)
theorem mx_X6_read_71 : Cond.methodLink RX6 87 yX6_kindOf ∈ wsX6_read := mb_X6_read_wsX6_read_r3 (List.mem_of_getElem? (i := 22) rfl)
theorem mx_X6_read_72 : Cond.static yX6_kindOf ∈ wsX6_read := mb_X6_read_wsX6_read_r3 (List.mem_of_getElem? (i := 23) rfl)
theorem mb_X6_read_wsX6_read_r4 {w : Cond} (h : w ∈ wsX6_read_r4) : w ∈ wsX6_read := by unfold wsX6_read; exact List.mem_cons_of_mem _ (List.mem_append_left _ (List.mem_append_left _ (List.mem_append_right _ (List.mem_append_right _ (List.mem_append_right _ (h))))))
theorem mx_X6_read_73 : Cond.code yX6_kindOf cX6_kindOf 1 (some .int) ∈ wsX6_read := mb_X6_read_wsX6_read_r4 (List.mem_of_getElem? (i := 0) rfl)
theorem mx_X6_read_74 : Cond.methodLink RX6 96 yX3_letLoose ∈ wsX6_read := mb_X6_read_wsX6_read_r4 (List.mem_of_getElem? (i := 1) rfl)
theorem mx_X6_read_75 : Cond.instanceMethod yX3_letLoose ∈ wsX6_read := mb_X6_read_wsX6_read_r4 (List.mem_of_getElem? (i := 2) rfl)
theorem mx_X6_read_76 : Cond.selects RX3 yX3_letLoose yX3_letLoose ∈ wsX6_read := mb_X6_read_wsX6_read_r4 (List.mem_of_getElem? (i := 3) rfl)
theorem mx_X6_read_77 : Cond.code yX3_letLoose cX3_letLoose 4 none ∈ wsX6_read := mb_X6_read_wsX6_read_r4 (List.mem_of_getElem? (i := 4) rfl)
theorem mx_X6_read_78 : Cond.fieldLink RX3 18 "MillTalk$Level" "places" "[I" ∈ wsX6_read := mb_X6_read_wsX6_read_r4 (List.mem_of_getElem? (i := 5) rfl)
theorem mx_X6_read_79 : Cond.fieldLink RX3 21 "MillTalk$Level" "louds" "[I" ∈ wsX6_read := mb_X6_read_wsX6_read_r4 (List.mem_of_getElem? (i := 6) rfl)
theorem mx_X6_read_80 : Cond.fieldLink RX3 24 "MillTalk$Level" "hows" "[I" ∈ wsX6_read := mb_X6_read_wsX6_read_r4 (List.mem_of_getElem? (i := 7) rfl)
theorem ggX6_read_X6_readSounds : GoodIn wsX6_read wsX6_readSounds := goodIn_sub (by unfold wsX6_readSounds; exact List.forall_mem_cons.mpr ⟨mx_X6_read_64, List.forall_mem_append.mpr ⟨List.forall_mem_append.mpr ⟨List.forall_mem_append.mpr ⟨(by unfold wsX6_readSounds_r1; exact List.forall_mem_cons.mpr ⟨mx_X6_read_1, List.forall_mem_cons.mpr ⟨mx_X6_read_3, List.forall_mem_cons.mpr ⟨mx_X6_read_65, List.forall_mem_cons.mpr ⟨mx_X6_read_66, List.forall_mem_cons.mpr ⟨mx_X6_read_67, List.forall_mem_cons.mpr ⟨mx_X6_read_22, List.forall_mem_cons.mpr ⟨mx_X6_read_68, List.forall_mem_cons.mpr ⟨mx_X6_read_4, List.forall_mem_cons.mpr ⟨mx_X6_read_69, List.forall_mem_cons.mpr ⟨mx_X6_read_24, List.forall_mem_cons.mpr ⟨mx_X6_read_70, List.forall_mem_cons.mpr ⟨mx_X6_read_31, List.forall_mem_cons.mpr ⟨mx_X6_read_32, List.forall_mem_cons.mpr ⟨mx_X6_read_33, List.forall_mem_cons.mpr ⟨mx_X6_read_34, List.forall_mem_cons.mpr ⟨mx_X6_read_5, List.forall_mem_cons.mpr ⟨mx_X6_read_35, List.forall_mem_cons.mpr ⟨mx_X6_read_71, List.forall_mem_cons.mpr ⟨mx_X6_read_72, List.forall_mem_cons.mpr ⟨mx_X6_read_73, List.forall_mem_cons.mpr ⟨mx_X6_read_36, List.forall_mem_cons.mpr ⟨mx_X6_read_37, List.forall_mem_cons.mpr ⟨mx_X6_read_38, List.forall_mem_cons.mpr ⟨mx_X6_read_39, fun _ h_ => absurd h_ List.not_mem_nil⟩⟩⟩⟩⟩⟩⟩⟩⟩⟩⟩⟩⟩⟩⟩⟩⟩⟩⟩⟩⟩⟩⟩⟩), (by unfold wsX6_readSounds_r2; exact List.forall_mem_cons.mpr ⟨mx_X6_read_2, List.forall_mem_cons.mpr ⟨mx_X6_read_40, List.forall_mem_cons.mpr ⟨mx_X6_read_41, List.forall_mem_cons.mpr ⟨mx_X6_read_42, List.forall_mem_cons.mpr ⟨mx_X6_read_43, List.forall_mem_cons.mpr ⟨mx_X6_read_44, List.forall_mem_cons.mpr ⟨mx_X6_read_45, List.forall_mem_cons.mpr ⟨mx_X6_read_46, List.forall_mem_cons.mpr ⟨mx_X6_read_47, List.forall_mem_cons.mpr ⟨mx_X6_read_48, List.forall_mem_cons.mpr ⟨mx_X6_read_49, List.forall_mem_cons.mpr ⟨mx_X6_read_50, List.forall_mem_cons.mpr ⟨mx_X6_read_27, List.forall_mem_cons.mpr ⟨mx_X6_read_28, List.forall_mem_cons.mpr ⟨mx_X6_read_29, List.forall_mem_cons.mpr ⟨mx_X6_read_30, List.forall_mem_cons.mpr ⟨mx_X6_read_74, List.forall_mem_cons.mpr ⟨mx_X6_read_75, List.forall_mem_cons.mpr ⟨mx_X6_read_76, List.forall_mem_cons.mpr ⟨mx_X6_read_9, List.forall_mem_cons.mpr ⟨mx_X6_read_77, List.forall_mem_cons.mpr ⟨mx_X6_read_78, List.forall_mem_cons.mpr ⟨mx_X6_read_79, List.forall_mem_cons.mpr ⟨mx_X6_read_80, fun _ h_ => absurd h_ List.not_mem_nil⟩⟩⟩⟩⟩⟩⟩⟩⟩⟩⟩⟩⟩⟩⟩⟩⟩⟩⟩⟩⟩⟩⟩⟩)⟩, (fun _ h_ => mb_X6_read_wsX60 h_)⟩, (fun _ h_ => mb_X6_read_wsX30 h_)⟩⟩) (by decide +kernel)
theorem mx_X6_read_61 : Cond.methodLink RX6 48 yX6_readSounds ∈ wsX6_read := mb_X6_read_wsX6_read_r3 (List.mem_of_getElem? (i := 12) rfl)
theorem mx_X6_read_62 : Cond.instanceMethod yX6_readSounds ∈ wsX6_read := mb_X6_read_wsX6_read_r3 (List.mem_of_getElem? (i := 13) rfl)
theorem mx_X6_read_63 : Cond.selects RX6 yX6_readSounds yX6_readSounds ∈ wsX6_read := mb_X6_read_wsX6_read_r3 (List.mem_of_getElem? (i := 14) rfl)
theorem gX6_read_X6_readSounds : GoodIn wsX6_read (wsV RX6 48 RX6 yX6_readSounds wsX6_readSounds) := goodIn_app (goodIn_sub (List.forall_mem_cons.mpr ⟨mx_X6_read_61, List.forall_mem_cons.mpr ⟨mx_X6_read_62, List.forall_mem_cons.mpr ⟨mx_X6_read_63, List.forall_mem_cons.mpr ⟨mx_X6_read_22, fun _ h_ => absurd h_ List.not_mem_nil⟩⟩⟩⟩) (by decide +kernel)) ggX6_read_X6_readSounds
theorem mx_X6_read_54 : Cond.code yX6_readWinds cX6_readWinds 2 none ∈ wsX6_read := mb_X6_read_wsX6_read_r3 (List.mem_of_getElem? (i := 5) rfl)
theorem mx_X6_read_55 : Cond.methodLink RX6 68 yX6_readWind ∈ wsX6_read := mb_X6_read_wsX6_read_r3 (List.mem_of_getElem? (i := 6) rfl)
theorem mx_X6_read_56 : Cond.instanceMethod yX6_readWind ∈ wsX6_read := mb_X6_read_wsX6_read_r3 (List.mem_of_getElem? (i := 7) rfl)
theorem mx_X6_read_57 : Cond.selects RX6 yX6_readWind yX6_readWind ∈ wsX6_read := mb_X6_read_wsX6_read_r3 (List.mem_of_getElem? (i := 8) rfl)
theorem mx_X6_read_58 : Cond.code yX6_readWind cX6_readWind 2 none ∈ wsX6_read := mb_X6_read_wsX6_read_r3 (List.mem_of_getElem? (i := 9) rfl)
theorem mx_X6_read_59 : Cond.fieldLink RX6 75 "MillTalk$Level" "windCount" "I" ∈ wsX6_read := mb_X6_read_wsX6_read_r3 (List.mem_of_getElem? (i := 10) rfl)
theorem mx_X6_read_60 : Cond.fieldLink RX6 81 "MillTalk$Level" "winds" "[I" ∈ wsX6_read := mb_X6_read_wsX6_read_r3 (List.mem_of_getElem? (i := 11) rfl)
theorem ggX6_read_X6_readWinds : GoodIn wsX6_read wsX6_readWinds := goodIn_sub (by unfold wsX6_readWinds; exact List.forall_mem_cons.mpr ⟨mx_X6_read_54, List.forall_mem_append.mpr ⟨List.forall_mem_append.mpr ⟨List.forall_mem_append.mpr ⟨(by unfold wsX6_readWinds_r1; exact List.forall_mem_cons.mpr ⟨mx_X6_read_1, List.forall_mem_cons.mpr ⟨mx_X6_read_3, List.forall_mem_cons.mpr ⟨mx_X6_read_55, List.forall_mem_cons.mpr ⟨mx_X6_read_56, List.forall_mem_cons.mpr ⟨mx_X6_read_57, List.forall_mem_cons.mpr ⟨mx_X6_read_22, List.forall_mem_cons.mpr ⟨mx_X6_read_58, List.forall_mem_cons.mpr ⟨mx_X6_read_4, List.forall_mem_cons.mpr ⟨mx_X6_read_59, List.forall_mem_cons.mpr ⟨mx_X6_read_60, List.forall_mem_cons.mpr ⟨mx_X6_read_31, List.forall_mem_cons.mpr ⟨mx_X6_read_32, List.forall_mem_cons.mpr ⟨mx_X6_read_33, List.forall_mem_cons.mpr ⟨mx_X6_read_34, List.forall_mem_cons.mpr ⟨mx_X6_read_5, List.forall_mem_cons.mpr ⟨mx_X6_read_35, List.forall_mem_cons.mpr ⟨mx_X6_read_36, List.forall_mem_cons.mpr ⟨mx_X6_read_37, List.forall_mem_cons.mpr ⟨mx_X6_read_38, List.forall_mem_cons.mpr ⟨mx_X6_read_39, List.forall_mem_cons.mpr ⟨mx_X6_read_2, List.forall_mem_cons.mpr ⟨mx_X6_read_27, List.forall_mem_cons.mpr ⟨mx_X6_read_28, List.forall_mem_cons.mpr ⟨mx_X6_read_29, fun _ h_ => absurd h_ List.not_mem_nil⟩⟩⟩⟩⟩⟩⟩⟩⟩⟩⟩⟩⟩⟩⟩⟩⟩⟩⟩⟩⟩⟩⟩⟩), (by unfold wsX6_readWinds_r2; exact List.forall_mem_cons.mpr ⟨mx_X6_read_30, List.forall_mem_cons.mpr ⟨mx_X6_read_40, List.forall_mem_cons.mpr ⟨mx_X6_read_41, List.forall_mem_cons.mpr ⟨mx_X6_read_42, List.forall_mem_cons.mpr ⟨mx_X6_read_43, List.forall_mem_cons.mpr ⟨mx_X6_read_44, List.forall_mem_cons.mpr ⟨mx_X6_read_45, List.forall_mem_cons.mpr ⟨mx_X6_read_46, List.forall_mem_cons.mpr ⟨mx_X6_read_47, List.forall_mem_cons.mpr ⟨mx_X6_read_48, List.forall_mem_cons.mpr ⟨mx_X6_read_49, List.forall_mem_cons.mpr ⟨mx_X6_read_50, fun _ h_ => absurd h_ List.not_mem_nil⟩⟩⟩⟩⟩⟩⟩⟩⟩⟩⟩⟩)⟩, (fun _ h_ => mb_X6_read_wsX60 h_)⟩, (fun _ h_ => mb_X6_read_wsX30 h_)⟩⟩) (by decide +kernel)
theorem mx_X6_read_51 : Cond.methodLink RX6 45 yX6_readWinds ∈ wsX6_read := mb_X6_read_wsX6_read_r3 (List.mem_of_getElem? (i := 2) rfl)
theorem mx_X6_read_52 : Cond.instanceMethod yX6_readWinds ∈ wsX6_read := mb_X6_read_wsX6_read_r3 (List.mem_of_getElem? (i := 3) rfl)
theorem mx_X6_read_53 : Cond.selects RX6 yX6_readWinds yX6_readWinds ∈ wsX6_read := mb_X6_read_wsX6_read_r3 (List.mem_of_getElem? (i := 4) rfl)
theorem gX6_read_X6_readWinds : GoodIn wsX6_read (wsV RX6 45 RX6 yX6_readWinds wsX6_readWinds) := goodIn_app (goodIn_sub (List.forall_mem_cons.mpr ⟨mx_X6_read_51, List.forall_mem_cons.mpr ⟨mx_X6_read_52, List.forall_mem_cons.mpr ⟨mx_X6_read_53, List.forall_mem_cons.mpr ⟨mx_X6_read_22, fun _ h_ => absurd h_ List.not_mem_nil⟩⟩⟩⟩) (by decide +kernel)) ggX6_read_X6_readWinds
theorem i_X6_append_X6 : ∀ w ∈ u_ws RX6 TX6 6, w ∈ wsX6_append := fun _ h_ => mb_X6_append_wsX60 h_
theorem mb_X6_byteAt_wsX60 {w : Cond} (h : w ∈ wsX60) : w ∈ wsX6_byteAt := by unfold wsX6_byteAt; exact List.mem_cons_of_mem _ (List.mem_append_right _ (h))
theorem i_X6_byteAt_X6 : ∀ w ∈ u_ws RX6 TX6 6, w ∈ wsX6_byteAt := fun _ h_ => mb_X6_byteAt_wsX60 h_
theorem mb_X6_fail_wsX60 {w : Cond} (h : w ∈ wsX60) : w ∈ wsX6_fail := by unfold wsX6_fail; exact List.mem_cons_of_mem _ (List.mem_append_right _ (h))
theorem i_X6_fail_X6 : ∀ w ∈ u_ws RX6 TX6 6, w ∈ wsX6_fail := fun _ h_ => mb_X6_fail_wsX60 h_
theorem i_X6_figuresHere_X6 : ∀ w ∈ u_ws RX6 TX6 6, w ∈ wsX6_figuresHere := fun _ h_ => mb_X6_figuresHere_wsX60 h_
theorem mb_X6_isFull_wsX60 {w : Cond} (h : w ∈ wsX60) : w ∈ wsX6_isFull := by unfold wsX6_isFull; exact List.mem_cons_of_mem _ (List.mem_append_right _ (h))
theorem i_X6_isFull_X6 : ∀ w ∈ u_ws RX6 TX6 6, w ∈ wsX6_isFull := fun _ h_ => mb_X6_isFull_wsX60 h_
theorem i_X6_read_X6 : ∀ w ∈ u_ws RX6 TX6 6, w ∈ wsX6_read := fun _ h_ => mb_X6_read_wsX60 h_
theorem i_X6_readByte_X6 : ∀ w ∈ u_ws RX6 TX6 6, w ∈ wsX6_readByte := fun _ h_ => mb_X6_readByte_wsX60 h_
theorem mb_X6_readLaw_wsX30 {w : Cond} (h : w ∈ wsX30) : w ∈ wsX6_readLaw := by unfold wsX6_readLaw; exact List.mem_cons_of_mem _ (List.mem_append_right _ (h))
theorem i_X6_readLaw_X3 : ∀ w ∈ u_ws RX3 TX3 13, w ∈ wsX6_readLaw := fun _ h_ => mb_X6_readLaw_wsX30 h_
theorem i_X6_readLaw_X6 : ∀ w ∈ u_ws RX6 TX6 6, w ∈ wsX6_readLaw := fun _ h_ => mb_X6_readLaw_wsX60 h_
theorem i_X6_readNumber_X6 : ∀ w ∈ u_ws RX6 TX6 6, w ∈ wsX6_readNumber := fun _ h_ => mb_X6_readNumber_wsX60 h_
theorem i_X6_readSound_X3 : ∀ w ∈ u_ws RX3 TX3 13, w ∈ wsX6_readSound := fun _ h_ => mb_X6_readSound_wsX30 h_
theorem i_X6_readSound_X6 : ∀ w ∈ u_ws RX6 TX6 6, w ∈ wsX6_readSound := fun _ h_ => mb_X6_readSound_wsX60 h_
theorem i_X6_readSounds_X6 : ∀ w ∈ u_ws RX6 TX6 6, w ∈ wsX6_readSounds := fun _ h_ => mb_X6_readSounds_wsX60 h_
theorem mb_X6_readWind_wsX30 {w : Cond} (h : w ∈ wsX30) : w ∈ wsX6_readWind := by unfold wsX6_readWind; exact List.mem_cons_of_mem _ (List.mem_append_right _ (h))
theorem i_X6_readWind_X3 : ∀ w ∈ u_ws RX3 TX3 13, w ∈ wsX6_readWind := fun _ h_ => mb_X6_readWind_wsX30 h_
theorem i_X6_readWind_X6 : ∀ w ∈ u_ws RX6 TX6 6, w ∈ wsX6_readWind := fun _ h_ => mb_X6_readWind_wsX60 h_
theorem i_X6_readWinds_X6 : ∀ w ∈ u_ws RX6 TX6 6, w ∈ wsX6_readWinds := fun _ h_ => mb_X6_readWinds_wsX60 h_
theorem mx_X6_isFull_1 : Cond.fieldLink RX6 22 "MillTalk$Tape" "size" "I" ∈ wsX6_isFull := by unfold wsX6_isFull; exact List.mem_cons_of_mem _ (List.mem_append_left _ (List.mem_of_getElem? (i := 0) rfl))
theorem mx_X6_append_1 : Cond.fieldLink RX6 11 "MillTalk$Tape" "bytes" "[I" ∈ wsX6_append := by unfold wsX6_append; exact List.mem_cons_of_mem _ (List.mem_append_left _ (List.mem_of_getElem? (i := 0) rfl))
theorem mx_X6_byteAt_1 : Cond.fieldLink RX6 22 "MillTalk$Tape" "size" "I" ∈ wsX6_byteAt := by unfold wsX6_byteAt; exact List.mem_cons_of_mem _ (List.mem_append_left _ (List.mem_of_getElem? (i := 0) rfl))
theorem mx_X6_byteAt_2 : Cond.fieldLink RX6 11 "MillTalk$Tape" "bytes" "[I" ∈ wsX6_byteAt := by unfold wsX6_byteAt; exact List.mem_cons_of_mem _ (List.mem_append_left _ (List.mem_of_getElem? (i := 1) rfl))
theorem mx_X6_figuresHere_1 : Cond.fieldLink RX6 36 "MillTalk$Tape" "place" "I" ∈ wsX6_figuresHere := by unfold wsX6_figuresHere; exact List.mem_cons_of_mem _ (List.mem_append_left _ (List.mem_of_getElem? (i := 0) rfl))
theorem mx_X6_fail_1 : Cond.fieldLink RX6 30 "MillTalk$Tape" "fault" "I" ∈ wsX6_fail := by unfold wsX6_fail; exact List.mem_cons_of_mem _ (List.mem_append_left _ (List.mem_of_getElem? (i := 0) rfl))
theorem mx_X6_fail_2 : Cond.fieldLink RX6 36 "MillTalk$Tape" "place" "I" ∈ wsX6_fail := by unfold wsX6_fail; exact List.mem_cons_of_mem _ (List.mem_append_left _ (List.mem_of_getElem? (i := 1) rfl))
theorem mx_X6_fail_3 : Cond.fieldLink RX6 33 "MillTalk$Tape" "faultPlace" "I" ∈ wsX6_fail := by unfold wsX6_fail; exact List.mem_cons_of_mem _ (List.mem_append_left _ (List.mem_of_getElem? (i := 2) rfl))
theorem mx_X6_readLaw_1 : Cond.fieldLink RX6 18 "MillTalk$Tape" "told" "LMillTalk$Level;" ∈ wsX6_readLaw := mb_X6_readLaw_wsX6_readLaw_r1 (List.mem_of_getElem? (i := 0) rfl)
theorem mx_X6_readLaw_2 : Cond.fieldLink RX6 59 "MillTalk$Level" "cells" "I" ∈ wsX6_readLaw := mb_X6_readLaw_wsX6_readLaw_r1 (List.mem_of_getElem? (i := 1) rfl)
theorem mx_X6_readLaw_3 : Cond.fieldLink RX6 62 "MillTalk$Level" "mill" "I" ∈ wsX6_readLaw := mb_X6_readLaw_wsX6_readLaw_r1 (List.mem_of_getElem? (i := 2) rfl)
theorem mx_X6_readLaw_4 : Cond.fieldLink RX6 65 "MillTalk$Level" "reach" "I" ∈ wsX6_readLaw := mb_X6_readLaw_wsX6_readLaw_r1 (List.mem_of_getElem? (i := 3) rfl)
theorem mx_X6_readWind_3 : Cond.fieldLink RX6 18 "MillTalk$Tape" "told" "LMillTalk$Level;" ∈ wsX6_readWind := mb_X6_readWind_wsX6_readWind_r1 (List.mem_of_getElem? (i := 2) rfl)
theorem mx_X6_readWind_5 : Cond.fieldLink RX6 81 "MillTalk$Level" "winds" "[I" ∈ wsX6_readWind := mb_X6_readWind_wsX6_readWind_r1 (List.mem_of_getElem? (i := 4) rfl)
theorem mx_X6_readWind_4 : Cond.fieldLink RX6 75 "MillTalk$Level" "windCount" "I" ∈ wsX6_readWind := mb_X6_readWind_wsX6_readWind_r1 (List.mem_of_getElem? (i := 3) rfl)
theorem mx_X6_readSound_2 : Cond.fieldLink RX6 18 "MillTalk$Tape" "told" "LMillTalk$Level;" ∈ wsX6_readSound := mb_X6_readSound_wsX6_readSound_r1 (List.mem_of_getElem? (i := 1) rfl)
theorem mx_X6_readSound_3 : Cond.fieldLink RX6 90 "MillTalk$Level" "soundCount" "I" ∈ wsX6_readSound := mb_X6_readSound_wsX6_readSound_r1 (List.mem_of_getElem? (i := 2) rfl)
theorem mx_X6_readSound_4 : Cond.fieldLink RX6 59 "MillTalk$Level" "cells" "I" ∈ wsX6_readSound := mb_X6_readSound_wsX6_readSound_r1 (List.mem_of_getElem? (i := 3) rfl)
theorem mx_X6_readSound_6 : Cond.fieldLink RX6 93 "MillTalk$Level" "kinds" "[I" ∈ wsX6_readSound := mb_X6_readSound_wsX6_readSound_r1 (List.mem_of_getElem? (i := 5) rfl)
