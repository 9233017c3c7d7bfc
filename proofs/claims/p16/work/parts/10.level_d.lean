/-! a level, exactly. The class: v0 cells, v1 mill, v2 reach, v3 cap, hh hour, v5 meal, ww winds, kk sounds, g1 winds, g2 kinds, g3 places, g4 louds, g5 hows. The other side: one row of 38. -/
noncomputable abbrev RF := Nat → Int32
/-- the sounds (bits) that are so -/
noncomputable def thR (h : RF) (n : Int32) : Nat → Int32
  | 0 => 0
  | i + 1 => thR h n i ||| (if h i = n then (1 : Int32) <<< (nI i &&& 31) else 0)
noncomputable def ldR (g : RF) (n : Int32) : Nat → Int32
  | 0 => 0
  | i + 1 => ldR g n i + (if n >>> (nI i &&& 31) &&& 1 = 1 then g i else 0)
noncomputable def tlX (g3 g4 g5 : RF) (i : Nat) (n : Int32) : Int32 := if n = 0 then (if g5 i = 0 then g3 i else -1000000) else if n = 1 then g5 i else g4 i
noncomputable def wdX (g1 : RF) (ww hh j : Nat) : Int32 := if ww = 0 then 2 else g1 ((hh + j) % ww)
noncomputable def dfX (k u : Int32) : Int32 := if k = 1 then u else if k = 2 then u / 2 else if k = 3 then u * 2 else if k = 4 then -u else 0
noncomputable def lbX (k l : Int32) : Int32 := if k = 4 then l - 1 else if k = 5 then (if 20 < l + 1 then 20 else l + 1) else l
noncomputable def frX (v1 v3 n : Int32) : Int32 := if v3 = 1 then n - v1 else v1 - n
noncomputable abbrev grX (v1 v2 v3 n k : Int32) : Prop := ¬ k = 2 ∧ ¬ frX v1 v3 n < 0 ∧ ¬ v2 < frX v1 v3 n
/-- meal, places, louds, hows -/
noncomputable abbrev LSt := Int32 × RF × RF × RF
noncomputable def cX (g2 : RF) (i : Nat) (n : Int32) (s : LSt) : Int32 := s.2.1 i + dfX (g2 i) (n - 2)
noncomputable def lX (g2 : RF) (i : Nat) (s : LSt) : Int32 := lbX (g2 i) (s.2.2.1 i)
noncomputable def limX (m l : Int32) : Int32 := if 999 < m + l then 999 else m + l
noncomputable abbrev loX (v0 : Int32) (g2 : RF) (i : Nat) (n : Int32) (s : LSt) : Prop := (cX g2 i n s < 0 ∨ v0 ≤ cX g2 i n s) ∨ lX g2 i s ≤ 0
/-- one sound, one hour -/
noncomputable def psX (v0 v1 v2 v3 : Int32) (g2 : RF) (i : Nat) (n : Int32) (s : LSt) : LSt :=
  if ¬ s.2.2.2 i = 0 then s
  else if loX v0 g2 i n s then (s.1, s.2.1, s.2.2.1, upd s.2.2.2 i 2)
  else if grX v1 v2 v3 (cX g2 i n s) n then (limX s.1 (lX g2 i s), upd s.2.1 i (cX g2 i n s), upd s.2.2.1 i (lX g2 i s), upd (upd s.2.2.2 i 0) i 1)
  else (s.1, upd s.2.1 i (cX g2 i n s), upd s.2.2.1 i (lX g2 i s), upd s.2.2.2 i 0)
/-- the first i sounds -/
noncomputable def paX (v0 v1 v2 v3 : Int32) (g2 : RF) (n : Int32) : Nat → LSt → LSt
  | 0, s => s
  | i + 1, s => psX v0 v1 v2 v3 g2 i n (paX v0 v1 v2 v3 g2 n i s)
/-- one sound, hours -/
noncomputable def poX (v0 v1 v2 v3 : Int32) (g1 : RF) (ww hh : Nat) (g2 : RF) (i : Nat) : Nat → LSt → LSt
  | 0, s => s
  | t + 1, s => psX v0 v1 v2 v3 g2 i (wdX g1 ww (hh + t) 0) (poX v0 v1 v2 v3 g1 ww hh g2 i t s)
/-- all, hours -/
noncomputable def pmX (v0 v1 v2 v3 : Int32) (g1 : RF) (ww hh kk : Nat) (g2 : RF) : Nat → LSt → LSt
  | 0, s => s
  | t + 1, s => paX v0 v1 v2 v3 g2 (wdX g1 ww (hh + t) 0) kk (pmX v0 v1 v2 v3 g1 ww hh kk g2 t s)
/-- the wind of this hour the other way -/
noncomputable def twX (g1 : RF) (ww hh : Nat) : RF := if ww = 0 then g1 else upd g1 (hh % ww) (4 - g1 (hh % ww))
theorem cpy6 {f g : RF} {j : Nat} (h : j < 6) : va_cpy f g (0 : Int32).toNatClampNeg (0 : Int32).toNatClampNeg (6 : Int32).toNatClampNeg j = f j := by
  have h2 := pk_cpy_in (f := f) (g := g) (sp := 0) (dp := 0) (n := 6) (j := j) (Nat.zero_le _) (by omega)
  rw [Nat.zero_add, Nat.sub_zero] at h2
  exact h2
/-! the other side's, on its row -/
noncomputable def dfM (k u : Int32) : Int32 := if k = 1 then u else if k = 2 then u / 2 else if k = 3 then 2 * u else if k = 4 then -u else 0
noncomputable def lbM (k l : Int32) : Int32 := if k = 4 then l - 1 else if k = 5 ∧ l < 20 then l + 1 else l
noncomputable abbrev iC (c n : Int32) : Prop := ¬ n < 0 ∧ ¬ c - 1 < n
noncomputable def toM (f : RF) (i : Nat) (n : Int32) : Int32 := f (20 + i) + dfM (f (14 + i)) n
noncomputable def loM (f : RF) (i : Nat) : Int32 := lbM (f (14 + i)) (f (32 + i))
noncomputable abbrev lostM (f : RF) (i : Nat) (n : Int32) : Prop := ¬ iC (f 0) (toM f i n) ∨ loM f i = 0
noncomputable def mDr (f : RF) (i : Nat) (n : Int32) : RF := if lostM f i n then upd f (26 + i) 2 else upd (upd (upd f (26 + i) 0) (20 + i) (toM f i n)) (32 + i) (loM f i)
noncomputable def ofM (f : RF) (i : Nat) : Int32 := if f 6 = 1 then f (20 + i) - f 1 else f 1 - f (20 + i)
noncomputable abbrev amM (f : RF) (i : Nat) : Prop := ¬ ofM f i < 0 ∧ ¬ f 2 < ofM f i
noncomputable def mD1 (f : RF) (i : Nat) (n : Int32) : RF := if f (26 + i) = 0 then mDr f i n else f
/-- the row, and what is ground -/
noncomputable abbrev MG := RF × Int32
noncomputable def mSt (n : Int32) (i : Nat) (s : MG) : MG := if mD1 s.1 i n (26 + i) = 0 ∧ ¬ n = 0 ∧ amM (mD1 s.1 i n) i then (upd (mD1 s.1 i n) (26 + i) 1, s.2 + mD1 s.1 i n (32 + i)) else (mD1 s.1 i n, s.2)
noncomputable def mHs (n : Int32) : Nat → MG → MG
  | 0, s => s
  | i + 1, s => mSt n i (mHs n i s)
noncomputable def mLs (s : MG) : RF := upd (upd s.1 7 (limX (s.1 7) s.2)) 5 (s.1 5 + 1)
noncomputable def mW (f : RF) : Int32 := f (8 + (f 5).toNatClampNeg % (f 3).toNatClampNeg)
/-- an hour -/
noncomputable def mH (f : RF) : RF := mLs (mHs (mW f - 2) (f 4).toNatClampNeg (f, 0))
noncomputable def mGo : Nat → RF → RF
  | 0, f => f
  | t + 1, f => mH (mGo t f)
/-! a level as a row of 38, what is not used 0 -/
noncomputable def nrm (v0 v1 v2 v3 : Int32) (hh : Nat) (v5 : Int32) (ww kk : Nat) (g1 g2 g3 g4 g5 : RF) : RF := fun j => if j = 0 then v0 else if j = 1 then v1 else if j = 2 then v2 else if j = 3 then nI ww else if j = 4 then nI kk else if j = 5 then nI hh else if j = 6 then v3 else if j = 7 then v5 else if j < 14 then (if j < 8 + ww then g1 (j - 8) else 0) else if j < 20 then (if j < 14 + kk then g2 (j - 14) else 0) else if j < 26 then (if j < 20 + kk then g3 (j - 20) else 0) else if j < 32 then (if j < 26 + kk then g5 (j - 26) else 0) else if j < 38 then (if j < 32 + kk then g4 (j - 32) else 0) else 0
noncomputable def m38 (f : Nat → Int32) : Nat → Int32 := fun j => if j < 38 then f j else 0
theorem m38_up {f : Nat → Int32} {i : Nat} {v : Int32} (hi : i < 38) : m38 (upd f i v) = upd (m38 f) i v := by
  funext j
  unfold m38 upd
  grind
theorem m38_at {f : Nat → Int32} {i : Nat} (hi : i < 38) : m38 f i = f i := if_pos hi
section NRM
variable {v0 v1 v2 v3 v5 : Int32} {hh ww kk : Nat} {g1 g2 g3 g4 g5 : RF}
theorem nr0 : nrm v0 v1 v2 v3 hh v5 ww kk g1 g2 g3 g4 g5 0 = v0 := rfl
theorem nr1 : nrm v0 v1 v2 v3 hh v5 ww kk g1 g2 g3 g4 g5 1 = v1 := rfl
theorem nr2 : nrm v0 v1 v2 v3 hh v5 ww kk g1 g2 g3 g4 g5 2 = v2 := rfl
theorem nr3 : nrm v0 v1 v2 v3 hh v5 ww kk g1 g2 g3 g4 g5 3 = nI ww := rfl
theorem nr4 : nrm v0 v1 v2 v3 hh v5 ww kk g1 g2 g3 g4 g5 4 = nI kk := rfl
theorem nr5 : nrm v0 v1 v2 v3 hh v5 ww kk g1 g2 g3 g4 g5 5 = nI hh := rfl
theorem nr6 : nrm v0 v1 v2 v3 hh v5 ww kk g1 g2 g3 g4 g5 6 = v3 := rfl
theorem nr7 : nrm v0 v1 v2 v3 hh v5 ww kk g1 g2 g3 g4 g5 7 = v5 := rfl
theorem nrg1 {i : Nat} (hi : i < ww) (hw : ww ≤ 6) : nrm v0 v1 v2 v3 hh v5 ww kk g1 g2 g3 g4 g5 (8 + i) = g1 i := by
  unfold nrm
  rw [if_neg (by omega), if_neg (by omega), if_neg (by omega), if_neg (by omega), if_neg (by omega), if_neg (by omega), if_neg (by omega), if_neg (by omega), if_pos (by omega), if_pos (by omega), Nat.add_sub_cancel_left]
theorem nrg2 {i : Nat} (hi : i < kk) (hk : kk ≤ 6) : nrm v0 v1 v2 v3 hh v5 ww kk g1 g2 g3 g4 g5 (14 + i) = g2 i := by
  unfold nrm
  rw [if_neg (by omega), if_neg (by omega), if_neg (by omega), if_neg (by omega), if_neg (by omega), if_neg (by omega), if_neg (by omega), if_neg (by omega), if_neg (by omega), if_pos (by omega), if_pos (by omega), Nat.add_sub_cancel_left]
theorem nrg3 {i : Nat} (hi : i < kk) (hk : kk ≤ 6) : nrm v0 v1 v2 v3 hh v5 ww kk g1 g2 g3 g4 g5 (20 + i) = g3 i := by
  unfold nrm
  rw [if_neg (by omega), if_neg (by omega), if_neg (by omega), if_neg (by omega), if_neg (by omega), if_neg (by omega), if_neg (by omega), if_neg (by omega), if_neg (by omega), if_neg (by omega), if_pos (by omega), if_pos (by omega), Nat.add_sub_cancel_left]
theorem nrg5 {i : Nat} (hi : i < kk) (hk : kk ≤ 6) : nrm v0 v1 v2 v3 hh v5 ww kk g1 g2 g3 g4 g5 (26 + i) = g5 i := by
  unfold nrm
  rw [if_neg (by omega), if_neg (by omega), if_neg (by omega), if_neg (by omega), if_neg (by omega), if_neg (by omega), if_neg (by omega), if_neg (by omega), if_neg (by omega), if_neg (by omega), if_neg (by omega), if_pos (by omega), if_pos (by omega), Nat.add_sub_cancel_left]
theorem nrg4 {i : Nat} (hi : i < kk) (hk : kk ≤ 6) : nrm v0 v1 v2 v3 hh v5 ww kk g1 g2 g3 g4 g5 (32 + i) = g4 i := by
  unfold nrm
  rw [if_neg (by omega), if_neg (by omega), if_neg (by omega), if_neg (by omega), if_neg (by omega), if_neg (by omega), if_neg (by omega), if_neg (by omega), if_neg (by omega), if_neg (by omega), if_neg (by omega), if_neg (by omega), if_pos (by omega), if_pos (by omega), Nat.add_sub_cancel_left]
theorem nru1 {x : Int32} : upd (nrm v0 v1 v2 v3 hh v5 ww kk g1 g2 g3 g4 g5) 1 x = nrm v0 x v2 v3 hh v5 ww kk g1 g2 g3 g4 g5 := by
  funext j
  unfold nrm upd
  grind
theorem nru2 {x : Int32} : upd (nrm v0 v1 v2 v3 hh v5 ww kk g1 g2 g3 g4 g5) 2 x = nrm v0 v1 x v3 hh v5 ww kk g1 g2 g3 g4 g5 := by
  funext j
  unfold nrm upd
  grind
theorem nru5 {n : Nat} : upd (nrm v0 v1 v2 v3 hh v5 ww kk g1 g2 g3 g4 g5) 5 (nI n) = nrm v0 v1 v2 v3 n v5 ww kk g1 g2 g3 g4 g5 := by
  funext j
  unfold nrm upd
  grind
theorem nru6 {x : Int32} : upd (nrm v0 v1 v2 v3 hh v5 ww kk g1 g2 g3 g4 g5) 6 x = nrm v0 v1 v2 x hh v5 ww kk g1 g2 g3 g4 g5 := by
  funext j
  unfold nrm upd
  grind
theorem nru7 {x : Int32} : upd (nrm v0 v1 v2 v3 hh v5 ww kk g1 g2 g3 g4 g5) 7 x = nrm v0 v1 v2 v3 hh x ww kk g1 g2 g3 g4 g5 := by
  funext j
  unfold nrm upd
  grind
theorem nr_cg {f1 f2 f3 f4 f5 : RF} {j : Nat} (e1 : ∀ i : Nat, i < ww → 8 + i = j → f1 i = g1 i) (e2 : ∀ i : Nat, i < kk → 14 + i = j → f2 i = g2 i) (e3 : ∀ i : Nat, i < kk → 20 + i = j → f3 i = g3 i) (e4 : ∀ i : Nat, i < kk → 32 + i = j → f4 i = g4 i) (e5 : ∀ i : Nat, i < kk → 26 + i = j → f5 i = g5 i) : nrm v0 v1 v2 v3 hh v5 ww kk f1 f2 f3 f4 f5 j = nrm v0 v1 v2 v3 hh v5 ww kk g1 g2 g3 g4 g5 j := by
  unfold nrm
  exact ite_congr rfl (fun _ => rfl) (fun h0 => ite_congr rfl (fun _ => rfl) (fun h1 => ite_congr rfl (fun _ => rfl) (fun h2 => ite_congr rfl (fun _ => rfl) (fun h3 => ite_congr rfl (fun _ => rfl) (fun h4 => ite_congr rfl (fun _ => rfl) (fun h5 => ite_congr rfl (fun _ => rfl) (fun h6 => ite_congr rfl (fun _ => rfl) (fun h7 => ite_congr rfl (fun a => ite_congr rfl (fun b => e1 _ (by omega) (by omega)) (fun _ => rfl)) (fun h8 => ite_congr rfl (fun a => ite_congr rfl (fun b => e2 _ (by omega) (by omega)) (fun _ => rfl)) (fun h9 => ite_congr rfl (fun a => ite_congr rfl (fun b => e3 _ (by omega) (by omega)) (fun _ => rfl)) (fun h10 => ite_congr rfl (fun a => ite_congr rfl (fun b => e5 _ (by omega) (by omega)) (fun _ => rfl)) (fun h11 => ite_congr rfl (fun a => ite_congr rfl (fun b => e4 _ (by omega) (by omega)) (fun _ => rfl)) (fun _ => rfl)))))))))))))
theorem nrug1 {i : Nat} {x : Int32} (hi : i < ww) (hw : ww ≤ 6) : upd (nrm v0 v1 v2 v3 hh v5 ww kk g1 g2 g3 g4 g5) (8 + i) x = nrm v0 v1 v2 v3 hh v5 ww kk (upd g1 i x) g2 g3 g4 g5 := by
  funext j
  by_cases e : j = 8 + i
  · subst e
    rw [pk_us, nrg1 hi hw, pk_us]
  · rw [pk_un e]
    exact nr_cg (fun z hz ez => (pk_un (by omega)).symm) (fun z hz ez => rfl) (fun z hz ez => rfl) (fun z hz ez => rfl) (fun z hz ez => rfl)
theorem nrug2 {i : Nat} {x : Int32} (hi : i < kk) (hk : kk ≤ 6) : upd (nrm v0 v1 v2 v3 hh v5 ww kk g1 g2 g3 g4 g5) (14 + i) x = nrm v0 v1 v2 v3 hh v5 ww kk g1 (upd g2 i x) g3 g4 g5 := by
  funext j
  by_cases e : j = 14 + i
  · subst e
    rw [pk_us, nrg2 hi hk, pk_us]
  · rw [pk_un e]
    exact nr_cg (fun z hz ez => rfl) (fun z hz ez => (pk_un (by omega)).symm) (fun z hz ez => rfl) (fun z hz ez => rfl) (fun z hz ez => rfl)
theorem nrug3 {i : Nat} {x : Int32} (hi : i < kk) (hk : kk ≤ 6) : upd (nrm v0 v1 v2 v3 hh v5 ww kk g1 g2 g3 g4 g5) (20 + i) x = nrm v0 v1 v2 v3 hh v5 ww kk g1 g2 (upd g3 i x) g4 g5 := by
  funext j
  by_cases e : j = 20 + i
  · subst e
    rw [pk_us, nrg3 hi hk, pk_us]
  · rw [pk_un e]
    exact nr_cg (fun z hz ez => rfl) (fun z hz ez => rfl) (fun z hz ez => (pk_un (by omega)).symm) (fun z hz ez => rfl) (fun z hz ez => rfl)
theorem nrug5 {i : Nat} {x : Int32} (hi : i < kk) (hk : kk ≤ 6) : upd (nrm v0 v1 v2 v3 hh v5 ww kk g1 g2 g3 g4 g5) (26 + i) x = nrm v0 v1 v2 v3 hh v5 ww kk g1 g2 g3 g4 (upd g5 i x) := by
  funext j
  by_cases e : j = 26 + i
  · subst e
    rw [pk_us, nrg5 hi hk, pk_us]
  · rw [pk_un e]
    exact nr_cg (fun z hz ez => rfl) (fun z hz ez => rfl) (fun z hz ez => rfl) (fun z hz ez => rfl) (fun z hz ez => (pk_un (by omega)).symm)
theorem nrug4 {i : Nat} {x : Int32} (hi : i < kk) (hk : kk ≤ 6) : upd (nrm v0 v1 v2 v3 hh v5 ww kk g1 g2 g3 g4 g5) (32 + i) x = nrm v0 v1 v2 v3 hh v5 ww kk g1 g2 g3 (upd g4 i x) g5 := by
  funext j
  by_cases e : j = 32 + i
  · subst e
    rw [pk_us, nrg4 hi hk, pk_us]
  · rw [pk_un e]
    exact nr_cg (fun z hz ez => rfl) (fun z hz ez => rfl) (fun z hz ez => rfl) (fun z hz ez => (pk_un (by omega)).symm) (fun z hz ez => rfl)
theorem nr_eq {f1 f2 f3 f4 f5 : RF} (hw : ww ≤ 6) (hk : kk ≤ 6) (e1 : ∀ j : Nat, j < 6 → f1 j = g1 j) (e2 : ∀ j : Nat, j < 6 → f2 j = g2 j) (e3 : ∀ j : Nat, j < 6 → f3 j = g3 j) (e4 : ∀ j : Nat, j < 6 → f4 j = g4 j) (e5 : ∀ j : Nat, j < 6 → f5 j = g5 j) : nrm v0 v1 v2 v3 hh v5 ww kk f1 f2 f3 f4 f5 = nrm v0 v1 v2 v3 hh v5 ww kk g1 g2 g3 g4 g5 := by
  funext j
  exact nr_cg (fun i hi _ => e1 i (by omega)) (fun i hi _ => e2 i (by omega)) (fun i hi _ => e3 i (by omega)) (fun i hi _ => e4 i (by omega)) (fun i hi _ => e5 i (by omega))
theorem nr_z : nrm 0 0 0 0 0 0 0 0 g1 g2 g3 g4 g5 = (fun _ => 0) := by
  funext j
  have f : ∀ (p q : Prop) [Decidable p] [Decidable q] (x a : Int32), (p → ¬ q) → (¬ p → a = 0) → (if p then (if q then x else 0) else a) = 0 := fun p q _ _ x a n h => by
    by_cases e : p
    · rw [if_pos e]
      exact if_neg (n e)
    · exact (if_neg e).trans (h e)
  by_cases l : j < 8
  · rcases (show j = 0 ∨ j = 1 ∨ j = 2 ∨ j = 3 ∨ j = 4 ∨ j = 5 ∨ j = 6 ∨ j = 7 by omega) with rfl | rfl | rfl | rfl | rfl | rfl | rfl | rfl <;> rfl
  · unfold nrm
    rw [if_neg (by omega), if_neg (by omega), if_neg (by omega), if_neg (by omega), if_neg (by omega), if_neg (by omega), if_neg (by omega), if_neg (by omega)]
    exact f _ _ _ _ (fun _ => by omega) (fun a => f _ _ _ _ (fun _ => by omega) (fun b => f _ _ _ _ (fun _ => by omega) (fun b2 => f _ _ _ _ (fun _ => by omega) (fun b3 => f _ _ _ _ (fun _ => by omega) (fun _ => rfl)))))
end NRM
/-! bounds of a level -/
noncomputable def okSnd (c : Nat) (r : RF) (i : Nat) : Prop := ∃ a p q l : Nat, (r (14 + i) = nI a ∧ r (20 + i) = nI p ∧ r (26 + i) = nI q ∧ r (32 + i) = nI l) ∧ 1 ≤ a ∧ a ≤ 5 ∧ p < c ∧ q ≤ 2 ∧ 1 ≤ l ∧ l ≤ 20
noncomputable def okRow (H : Nat) (r : RF) : Prop := ∃ c m re w k h ca me : Nat, (r 0 = nI c ∧ r 1 = nI m ∧ r 2 = nI re ∧ r 3 = nI w ∧ r 4 = nI k ∧ r 5 = nI h ∧ r 6 = nI ca ∧ r 7 = nI me) ∧ (5 ≤ c ∧ c ≤ 15 ∧ m < c ∧ re ≤ 4 ∧ 1 ≤ w ∧ w ≤ 6 ∧ 1 ≤ k ∧ k ≤ 6 ∧ h ≤ H ∧ ca ≤ 1 ∧ me ≤ 999) ∧ (∀ i : Nat, i < w → ∃ x : Nat, x ≤ 4 ∧ r (8 + i) = nI x) ∧ (∀ i : Nat, i < k → okSnd c r i)
theorem okRow_up {H H2 : Nat} {r : RF} (h : okRow H r) (h2 : H ≤ H2) : okRow H2 r := by
  obtain ⟨c, m, re, w, k, h_, ca, me, a, ⟨b1, b2, b3, b4, b5, b6, b7, b8, b9, b10, b11⟩, c1, c2⟩ := h
  exact ⟨c, m, re, w, k, h_, ca, me, a, ⟨b1, b2, b3, b4, b5, b6, b7, b8, by omega, b10, b11⟩, c1, c2⟩
theorem df_eq (k u : Int32) : dfX k u = dfM k u := by
  unfold dfX dfM
  rw [Int32.mul_comm u 2]
theorem n2_eq (n : Int32) : n - 2 = 0 ↔ n = 2 := by
  constructor
  · intro h
    have h2 : n - 2 + 2 = 0 + 2 := by rw [h]
    rw [Int32.sub_add_cancel] at h2
    exact h2
  · intro h
    rw [h]
    decide
theorem lb_ok {l : Nat} (k : Int32) (h1 : 1 ≤ l) (h2 : l ≤ 20) : ∃ l2 : Nat, l2 ≤ 20 ∧ lbM k (nI l) = nI l2 ∧ lbX k (nI l) = nI l2 := by
  unfold lbM lbX
  by_cases k4 : k = 4
  · rw [if_pos k4, if_pos k4]
    exact ⟨l - 1, by omega, pk_sub (b := 1) h1, pk_sub (b := 1) h1⟩
  · rw [if_neg k4, if_neg k4]
    by_cases k5 : k = 5
    · rw [if_pos k5, show nI l + 1 = nI (l + 1) from nI_add l 1]
      by_cases q : l < 20
      · have h19 : nI l < (20 : Int32) := nI_lt (b := 20) q (by decide)
        have h20 : ¬ (20 : Int32) < nI (l + 1) := nI_nlt (a := 20) (by omega) (by decide)
        rw [if_pos ⟨k5, h19⟩, if_neg h20]
        exact ⟨l + 1, by omega, rfl, rfl⟩
      · have e : l = 20 := by omega
        subst e
        exact ⟨20, Nat.le_refl _, if_neg (fun q => absurd q.2 (by decide)), if_pos (by decide)⟩
    · rw [if_neg k5, if_neg (fun q => k5 q.1)]
      exact ⟨l, h2, rfl, rfl⟩
theorem iC_eq {c : Nat} {t : Int32} (h1 : 1 ≤ c) (h2 : c ≤ 1000) : (t < 0 ∨ nI c ≤ t) ↔ ¬ iC (nI c) t := by
  have e : nI c - 1 = nI (c - 1) := pk_sub (b := 1) h1
  rw [iC, e, Int32.lt_iff_toInt_lt, Int32.lt_iff_toInt_lt, Int32.le_iff_toInt_le, nI_toInt (by omega), nI_toInt (by omega)]
  omega
theorem iC_nat {c : Nat} {t : Int32} (h1 : 1 ≤ c) (h2 : c ≤ 1000) (h : iC (nI c) t) : ∃ j : Nat, j < c ∧ t = nI j := by
  have e : nI c - 1 = nI (c - 1) := pk_sub (b := 1) h1
  have z : (0 : Int32).toInt = 0 := rfl
  rw [iC, e, Int32.lt_iff_toInt_lt, Int32.lt_iff_toInt_lt, nI_toInt (by omega), z] at h
  exact nat_of (by omega) (by omega) (by omega)
theorem limN {m a : Nat} (h : m + a < 2 ^ 30) : limX (nI m) (nI a) = nI (if 999 < m + a then 999 else m + a) := by
  unfold limX
  rw [nI_add]
  have e : (999 : Int32) < nI (m + a) ↔ 999 < m + a := nI_ltI (a := 999) (by decide) (by omega)
  by_cases q : 999 < m + a
  · rw [if_pos (e.mpr q), if_pos q]
    rfl
  · rw [if_neg (fun t => q (e.mp t)), if_neg q]
theorem lim_lim {m a b : Nat} (h1 : m ≤ 999) (h2 : a ≤ 1000) (h3 : b ≤ 1000) : limX (limX (nI m) (nI a)) (nI b) = limX (nI m) (nI (a + b)) := by
  have e1 := limN (m := m) (a := a) (by omega)
  have h4 : (if 999 < m + a then 999 else m + a) ≤ 999 := by split <;> omega
  generalize hx : (if 999 < m + a then 999 else m + a) = x at e1 h4
  rw [e1, limN (m := x) (a := b) (by omega), limN (m := m) (a := a + b) (by omega)]
  congr 1
  subst hx
  split <;> split <;> split <;> omega
theorem lim_0 {m : Nat} (h : m ≤ 999) : limX (nI m) (nI 0) = nI m := by
  rw [limN (by omega), if_neg (by omega)]
  rfl
section PASS
variable {v0 v1 v2 v3 v5 m0 n : Int32} {H hh ww kk i gg : Nat} {g1 g2 g3 g4 g5 : RF}
/-- what is known of a level in the class's own words -/
theorem okRow_X (h : okRow H (nrm v0 v1 v2 v3 hh v5 ww kk g1 g2 g3 g4 g5)) (hw6 : ww ≤ 6) (hk6 : kk ≤ 6) (hH : hh < 2 ^ 31) : ∃ c m re ca me : Nat, (v0 = nI c ∧ v1 = nI m ∧ v2 = nI re ∧ v3 = nI ca ∧ v5 = nI me) ∧ (5 ≤ c ∧ c ≤ 15 ∧ m < c ∧ re ≤ 4 ∧ 1 ≤ ww ∧ 1 ≤ kk ∧ hh ≤ H ∧ ca ≤ 1 ∧ me ≤ 999) ∧ (∀ i : Nat, i < ww → ∃ x : Nat, x ≤ 4 ∧ g1 i = nI x) ∧ (∀ i : Nat, i < kk → ∃ a p q l : Nat, (g2 i = nI a ∧ g3 i = nI p ∧ g5 i = nI q ∧ g4 i = nI l) ∧ 1 ≤ a ∧ a ≤ 5 ∧ p < c ∧ q ≤ 2 ∧ 1 ≤ l ∧ l ≤ 20) := by
  obtain ⟨c, m, re, w, k, h_, ca, me, ⟨a0, a1, a2, a3, a4, a5, a6, a7⟩, ⟨b1, b2, b3, b4, b5, b6, b7, b8, b9, b10, b11⟩, c1, c2⟩ := h
  rw [nr0] at a0
  rw [nr1] at a1
  rw [nr2] at a2
  rw [nr3] at a3
  rw [nr4] at a4
  rw [nr6] at a6
  rw [nr7] at a7
  have e3 : ww = w := (nI_eq (by omega) (by omega)).mp a3
  have e4 : kk = k := (nI_eq (by omega) (by omega)).mp a4
  subst e3 e4
  refine ⟨c, m, re, ca, me, ⟨a0, a1, a2, a6, a7⟩, ⟨b1, b2, b3, b4, b5, b7, ?_, b10, b11⟩, fun i hi => ?_, fun i hi => ?_⟩
  · rw [nr5] at a5
    by_cases q : h_ < 2 ^ 31
    · have e5 : hh = h_ := (nI_eq hH q).mp a5
      omega
    · omega
  · have h := c1 i hi
    rw [nrg1 hi hw6] at h
    exact h
  · have h := c2 i hi
    unfold okSnd at h
    rw [nrg2 hi hk6, nrg3 hi hk6, nrg4 hi hk6, nrg5 hi hk6] at h
    exact h
theorem okRow_of {c m re ca me : Nat} (e : v0 = nI c ∧ v1 = nI m ∧ v2 = nI re ∧ v3 = nI ca ∧ v5 = nI me) (b : 5 ≤ c ∧ c ≤ 15 ∧ m < c ∧ re ≤ 4 ∧ 1 ≤ ww ∧ 1 ≤ kk ∧ hh ≤ H ∧ ca ≤ 1 ∧ me ≤ 999) (hw6 : ww ≤ 6) (hk6 : kk ≤ 6) (hw : ∀ i : Nat, i < ww → ∃ x : Nat, x ≤ 4 ∧ g1 i = nI x) (hs : ∀ i : Nat, i < kk → ∃ a p q l : Nat, (g2 i = nI a ∧ g3 i = nI p ∧ g5 i = nI q ∧ g4 i = nI l) ∧ 1 ≤ a ∧ a ≤ 5 ∧ p < c ∧ q ≤ 2 ∧ 1 ≤ l ∧ l ≤ 20) : okRow H (nrm v0 v1 v2 v3 hh v5 ww kk g1 g2 g3 g4 g5) := by
  obtain ⟨e0, e1, e2, e3, e4⟩ := e
  obtain ⟨b1, b2, b3, b4, b5, b6, b7, b8, b9⟩ := b
  refine ⟨c, m, re, ww, kk, hh, ca, me, ⟨e0, e1, e2, rfl, rfl, rfl, e3, e4⟩, ⟨b1, b2, b3, b4, b5, hw6, b6, hk6, b7, b8, b9⟩, fun i hi => ?_, fun i hi => ?_⟩
  · rw [nrg1 hi hw6]
    exact hw i hi
  · unfold okSnd
    rw [nrg2 hi hk6, nrg3 hi hk6, nrg4 hi hk6, nrg5 hi hk6]
    exact hs i hi
theorem snd_up {c : Nat} {h3 h4 h5 : RF} (hs : ∀ i : Nat, i < kk → ∃ a p q l : Nat, (g2 i = nI a ∧ g3 i = nI p ∧ g5 i = nI q ∧ g4 i = nI l) ∧ 1 ≤ a ∧ a ≤ 5 ∧ p < c ∧ q ≤ 2 ∧ 1 ≤ l ∧ l ≤ 20) (o : ∀ j : Nat, j ≠ i → h3 j = g3 j ∧ h4 j = g4 j ∧ h5 j = g5 j) (n : ∃ p q l : Nat, (h3 i = nI p ∧ h5 i = nI q ∧ h4 i = nI l) ∧ p < c ∧ q ≤ 2 ∧ 1 ≤ l ∧ l ≤ 20) : ∀ i : Nat, i < kk → ∃ a p q l : Nat, (g2 i = nI a ∧ h3 i = nI p ∧ h5 i = nI q ∧ h4 i = nI l) ∧ 1 ≤ a ∧ a ≤ 5 ∧ p < c ∧ q ≤ 2 ∧ 1 ≤ l ∧ l ≤ 20 := by
  intro j hj
  obtain ⟨a, p, q, l, ⟨e1, e2, e3, e4⟩, b1, b2, b3, b4, b5, b6⟩ := hs j hj
  by_cases t : j = i
  · subst t
    obtain ⟨p2, q2, l2, ⟨f1, f2, f3⟩, f4, f5, f6, f7⟩ := n
    exact ⟨a, p2, q2, l2, ⟨e1, f1, f2, f3⟩, b1, b2, f4, f5, f6, f7⟩
  · obtain ⟨o1, o2, o3⟩ := o j t
    exact ⟨a, p, q, l, ⟨e1, o1.trans e2, o3.trans e3, o2.trans e4⟩, b1, b2, b3, b4, b5, b6⟩
/-- one sound: the one and the other -/
theorem ps_row (hi : i < kk) (hk : kk ≤ 6) (hw : ww ≤ 6) (hH : hh < 2 ^ 31) (hr : okRow H (nrm v0 v1 v2 v3 hh m0 ww kk g1 g2 g3 g4 g5)) (hv : v5 = limX m0 (nI gg)) (hg : gg ≤ 200) :
    ∃ (v5n : Int32) (g3n g4n g5n : RF) (gn : Nat), psX v0 v1 v2 v3 g2 i n (v5, g3, g4, g5) = (v5n, g3n, g4n, g5n) ∧ mSt (n - 2) i (nrm v0 v1 v2 v3 hh m0 ww kk g1 g2 g3 g4 g5, nI gg) = (nrm v0 v1 v2 v3 hh m0 ww kk g1 g2 g3n g4n g5n, nI gn) ∧ v5n = limX m0 (nI gn) ∧ gn ≤ gg + 20 ∧ okRow H (nrm v0 v1 v2 v3 hh m0 ww kk g1 g2 g3n g4n g5n) := by
  obtain ⟨c, m, re, ca, me, E, B, W, S⟩ := okRow_X hr hw hk hH
  obtain ⟨E0, E1, E2, E3, E4⟩ := id E
  obtain ⟨B1, B2, B3, B4, B5, B6, B7, B8, B9⟩ := id B
  obtain ⟨a, p, q, l, ⟨s1, s2, s3, s4⟩, t1, t2, t3, t4, t5, t6⟩ := S i hi
  have r26 : nrm v0 v1 v2 v3 hh m0 ww kk g1 g2 g3 g4 g5 (26 + i) = g5 i := nrg5 hi hk
  have r20 : nrm v0 v1 v2 v3 hh m0 ww kk g1 g2 g3 g4 g5 (20 + i) = g3 i := nrg3 hi hk
  have r14 : nrm v0 v1 v2 v3 hh m0 ww kk g1 g2 g3 g4 g5 (14 + i) = g2 i := nrg2 hi hk
  have r32 : nrm v0 v1 v2 v3 hh m0 ww kk g1 g2 g3 g4 g5 (32 + i) = g4 i := nrg4 hi hk
  by_cases h0 : g5 i = 0
  · obtain ⟨l2, L1, L2, L3⟩ := lb_ok (g2 i) t5 t6
    have eT : toM (nrm v0 v1 v2 v3 hh m0 ww kk g1 g2 g3 g4 g5) i (n - 2) = cX g2 i n (v5, g3, g4, g5) := by
      unfold toM cX
      rw [r20, r14, df_eq]
    have eL : loM (nrm v0 v1 v2 v3 hh m0 ww kk g1 g2 g3 g4 g5) i = nI l2 := by
      unfold loM
      rw [r14, r32, s4]
      exact L2
    have eX : lX g2 i (v5, g3, g4, g5) = nI l2 := by
      unfold lX
      show lbX (g2 i) (g4 i) = _
      rw [s4]
      exact L3
    have eD : mD1 (nrm v0 v1 v2 v3 hh m0 ww kk g1 g2 g3 g4 g5) i (n - 2) = mDr (nrm v0 v1 v2 v3 hh m0 ww kk g1 g2 g3 g4 g5) i (n - 2) := by
      unfold mD1
      rw [r26, if_pos h0]
    have eq0 : nI l2 ≤ 0 ↔ nI l2 = 0 := by
      rw [show (0 : Int32) = nI 0 from rfl, nI_leI (by omega) (by decide), nI_eq (by omega) (by decide)]
      omega
    have eLo : loX v0 g2 i n (v5, g3, g4, g5) ↔ lostM (nrm v0 v1 v2 v3 hh m0 ww kk g1 g2 g3 g4 g5) i (n - 2) := by
      unfold loX lostM
      rw [eX, eT, eL, nr0, E0, eq0, iC_eq (by omega) (by omega)]
    by_cases hl : loX v0 g2 i n (v5, g3, g4, g5)
    · refine ⟨v5, g3, g4, upd g5 i 2, gg, ?_, ?_, hv, by omega, ?_⟩
      · unfold psX
        rw [if_neg (fun z => z h0), if_pos hl]
      · have e : mD1 (nrm v0 v1 v2 v3 hh m0 ww kk g1 g2 g3 g4 g5) i (n - 2) = nrm v0 v1 v2 v3 hh m0 ww kk g1 g2 g3 g4 (upd g5 i 2) := by
          rw [eD]
          unfold mDr
          rw [if_pos (eLo.mp hl), nrug5 hi hk]
        unfold mSt
        rw [e, if_neg]
        rw [nrg5 hi hk, pk_us]
        exact fun z => absurd z.1 (by decide)
      · exact okRow_of E B hw hk W (snd_up S (fun j hj => ⟨rfl, rfl, pk_un hj⟩) ⟨p, 2, l, ⟨s2, pk_us, s4⟩, t3, by decide, t5, t6⟩)
    · have hn : ¬ lostM (nrm v0 v1 v2 v3 hh m0 ww kk g1 g2 g3 g4 g5) i (n - 2) := fun z => hl (eLo.mpr z)
      have hC : iC (nI c) (cX g2 i n (v5, g3, g4, g5)) := by
        refine Decidable.byContradiction (fun z => hn (Or.inl ?_))
        rw [eT, nr0, E0]
        exact z
      obtain ⟨j, j1, j2⟩ := iC_nat (by omega) (by omega) hC
      have l20 : 1 ≤ l2 := by
        rcases Nat.eq_zero_or_pos l2 with z | z
        · exact absurd (Or.inr (by rw [eL, z]; rfl)) hn
        · exact z
      have e : mD1 (nrm v0 v1 v2 v3 hh m0 ww kk g1 g2 g3 g4 g5) i (n - 2) = nrm v0 v1 v2 v3 hh m0 ww kk g1 g2 (upd g3 i (cX g2 i n (v5, g3, g4, g5))) (upd g4 i (nI l2)) (upd g5 i 0) := by
        rw [eD]
        unfold mDr
        rw [if_neg hn, eT, eL, nrug5 hi hk, nrug3 hi hk, nrug4 hi hk]
      have eO : ofM (nrm v0 v1 v2 v3 hh m0 ww kk g1 g2 (upd g3 i (cX g2 i n (v5, g3, g4, g5))) (upd g4 i (nI l2)) (upd g5 i 0)) i = frX v1 v3 (cX g2 i n (v5, g3, g4, g5)) := by
        unfold ofM frX
        rw [nr6, nr1, nrg3 hi hk, pk_us]
      have eG : grX v1 v2 v3 (cX g2 i n (v5, g3, g4, g5)) n ↔ (nrm v0 v1 v2 v3 hh m0 ww kk g1 g2 (upd g3 i (cX g2 i n (v5, g3, g4, g5))) (upd g4 i (nI l2)) (upd g5 i 0) (26 + i) = 0 ∧ ¬ n - 2 = 0 ∧ amM (nrm v0 v1 v2 v3 hh m0 ww kk g1 g2 (upd g3 i (cX g2 i n (v5, g3, g4, g5))) (upd g4 i (nI l2)) (upd g5 i 0)) i) := by
        unfold grX amM
        rw [eO, nr2, nrg5 hi hk, pk_us, n2_eq]
        exact ⟨fun z => ⟨rfl, z.1, z.2⟩, fun z => z.2⟩
      by_cases hg2 : grX v1 v2 v3 (cX g2 i n (v5, g3, g4, g5)) n
      · refine ⟨limX v5 (nI l2), upd g3 i (cX g2 i n (v5, g3, g4, g5)), upd g4 i (nI l2), upd (upd g5 i 0) i 1, gg + l2, ?_, ?_, ?_, by omega, ?_⟩
        · unfold psX
          rw [if_neg (fun z => z h0), if_neg hl, if_pos hg2, eX]
        · unfold mSt
          rw [e, if_pos (eG.mp hg2), nrug5 hi hk, nrg4 hi hk, pk_us, nI_add]
        · rw [hv, E4]
          exact lim_lim B9 (by omega) (by omega)
        · refine okRow_of E B hw hk W (snd_up S (fun z hz => ⟨pk_un hz, pk_un hz, (pk_un hz).trans (pk_un hz)⟩) ⟨j, 1, l2, ⟨pk_us.trans j2, pk_us, pk_us⟩, j1, by decide, l20, L1⟩)
      · refine ⟨v5, upd g3 i (cX g2 i n (v5, g3, g4, g5)), upd g4 i (nI l2), upd g5 i 0, gg, ?_, ?_, hv, by omega, ?_⟩
        · unfold psX
          rw [if_neg (fun z => z h0), if_neg hl, if_neg hg2, eX]
        · unfold mSt
          rw [e, if_neg (fun z => hg2 (eG.mpr z))]
        · refine okRow_of E B hw hk W (snd_up S (fun z hz => ⟨pk_un hz, pk_un hz, pk_un hz⟩) ⟨j, 0, l2, ⟨pk_us.trans j2, pk_us, pk_us⟩, j1, by decide, l20, L1⟩)
  · refine ⟨v5, g3, g4, g5, gg, ?_, ?_, hv, by omega, hr⟩
    · unfold psX
      rw [if_pos h0]
    · have e : mD1 (nrm v0 v1 v2 v3 hh m0 ww kk g1 g2 g3 g4 g5) i (n - 2) = nrm v0 v1 v2 v3 hh m0 ww kk g1 g2 g3 g4 g5 := by
        unfold mD1
        rw [r26, if_neg h0]
      unfold mSt
      rw [e, if_neg (fun z => h0 (r26.symm.trans z.1))]
theorem pa_row (hk : kk ≤ 6) (hw : ww ≤ 6) (hH : hh < 2 ^ 31) (hr : okRow H (nrm v0 v1 v2 v3 hh v5 ww kk g1 g2 g3 g4 g5)) : ∀ i : Nat, i ≤ kk →
    ∃ (v5n : Int32) (g3n g4n g5n : RF) (gn : Nat), paX v0 v1 v2 v3 g2 n i (v5, g3, g4, g5) = (v5n, g3n, g4n, g5n) ∧ mHs (n - 2) i (nrm v0 v1 v2 v3 hh v5 ww kk g1 g2 g3 g4 g5, 0) = (nrm v0 v1 v2 v3 hh v5 ww kk g1 g2 g3n g4n g5n, nI gn) ∧ v5n = limX v5 (nI gn) ∧ gn ≤ 20 * i ∧ okRow H (nrm v0 v1 v2 v3 hh v5 ww kk g1 g2 g3n g4n g5n) := by
  intro i
  induction i with
  | zero =>
    intro _
    obtain ⟨c, m, re, ca, me, E, B, -, -⟩ := okRow_X hr hw hk hH
    refine ⟨v5, g3, g4, g5, 0, rfl, rfl, ?_, Nat.le_refl _, hr⟩
    rw [E.2.2.2.2]
    exact (lim_0 B.2.2.2.2.2.2.2.2).symm
  | succ i ih =>
    intro hi
    obtain ⟨v5n, g3n, g4n, g5n, gn, e1, e2, e3, e4, e5⟩ := ih (by omega)
    obtain ⟨v5m, g3m, g4m, g5m, gm, f1, f2, f3, f4, f5⟩ := ps_row (n := n) (i := i) (gg := gn) (v5 := v5n) (by omega) hk hw hH e5 e3 (by omega)
    refine ⟨v5m, g3m, g4m, g5m, gm, ?_, ?_, f3, by omega, f5⟩
    · show psX v0 v1 v2 v3 g2 i n (paX v0 v1 v2 v3 g2 n i (v5, g3, g4, g5)) = _
      rw [e1]
      exact f1
    · show mSt (n - 2) i (mHs (n - 2) i (nrm v0 v1 v2 v3 hh v5 ww kk g1 g2 g3 g4 g5, 0)) = _
      rw [e2]
      exact f2
theorem mW_row (hw : ww ≤ 6) (hw1 : 1 ≤ ww) (hH : hh < 2 ^ 31) : mW (nrm v0 v1 v2 v3 hh v5 ww kk g1 g2 g3 g4 g5) = wdX g1 ww hh 0 := by
  unfold mW wdX
  rw [nr5, nr3, nI_clamp hH, nI_clamp (by omega), nrg1 (Nat.mod_lt _ (by omega)) hw, if_neg (by omega)]
  rfl
/-- an hour: the one and the other -/
theorem pass_row {v5n : Int32} {g3n g4n g5n : RF} (hk : kk ≤ 6) (hw : ww ≤ 6) (hH : hh < 2 ^ 31) (hr : okRow H (nrm v0 v1 v2 v3 hh v5 ww kk g1 g2 g3 g4 g5)) (e : paX v0 v1 v2 v3 g2 (wdX g1 ww hh 0) kk (v5, g3, g4, g5) = (v5n, g3n, g4n, g5n)) :
    nrm v0 v1 v2 v3 (hh + 1) v5n ww kk g1 g2 g3n g4n g5n = mH (nrm v0 v1 v2 v3 hh v5 ww kk g1 g2 g3 g4 g5) ∧ okRow (H + 1) (nrm v0 v1 v2 v3 (hh + 1) v5n ww kk g1 g2 g3n g4n g5n) := by
  obtain ⟨c, m, re, ca, me, E, B, W, S⟩ := okRow_X hr hw hk hH
  obtain ⟨v5m, g3m, g4m, g5m, gm, f1, f2, f3, f4, f5⟩ := pa_row (n := wdX g1 ww hh 0) hk hw hH hr kk (Nat.le_refl _)
  rw [e] at f1
  cases f1
  constructor
  · unfold mH mLs
    rw [mW_row hw (by omega) hH, nr4, nI_clamp (by omega), f2]
    show _ = upd (upd (nrm v0 v1 v2 v3 hh v5 ww kk g1 g2 g3n g4n g5n) 7 (limX (nrm v0 v1 v2 v3 hh v5 ww kk g1 g2 g3n g4n g5n 7) (nI gm))) 5 (nrm v0 v1 v2 v3 hh v5 ww kk g1 g2 g3n g4n g5n 5 + 1)
    rw [nr7, nr5, nru7, show nI hh + 1 = nI (hh + 1) from nI_add hh 1, nru5, ← f3]
  · obtain ⟨c2, m2, re2, ca2, me2, E2, B2, W2, S2⟩ := okRow_X f5 hw hk hH
    have hm : v5n = nI (if 999 < me2 + gm then 999 else me2 + gm) := by
      rw [f3, E2.2.2.2.2]
      exact limN (by omega)
    exact okRow_of ⟨E2.1, E2.2.1, E2.2.2.1, E2.2.2.2.1, hm⟩ ⟨B2.1, B2.2.1, B2.2.2.1, B2.2.2.2.1, B2.2.2.2.2.1, B2.2.2.2.2.2.1, by omega, B2.2.2.2.2.2.2.2.1, by split <;> omega⟩ hw hk W2 S2
end PASS
/-! acts: the levels ahead of the latest ones, the oldest first -/
noncomputable def zR : RF := fun _ => 0
noncomputable abbrev AC := Nat → RF
noncomputable def ntN (n : Nat) : Nat := if n < 24 then n + 1 else 24
theorem ntN_min {z u : Nat} (h : u = if 24 < z + 1 then 24 else z + 1) : u = ntN z := by
  rw [h]
  unfold ntN
  split <;> split <;> omega
noncomputable def ntA (r : RF) (n : Nat) (a : AC) : AC := if n < 24 then (fun k => if k = n then r else a k) else (fun k => if k < 23 then a (k + 1) else if k = 23 then r else zR)
/-- without the latest -/
noncomputable def dpA (n : Nat) (a : AC) : AC := fun k => if k + 1 < n then a k else zR
noncomputable def nrV (v : Nat → Int32) (g : Nat → RF) : RF := nrm (v 0) (v 1) (v 2) (v 3) (v 4).toNatClampNeg (v 5) (v 6).toNatClampNeg (v 7).toNatClampNeg (g 0) (g 1) (g 2) (g 3) (g 4)
theorem nrV_lev {v0 v1 v2 v3 v5 : Int32} {hh ww kk : Nat} {g1 g2 g3 g4 g5 f1 f2 f3 f4 f5 : RF} (hH : hh < 2 ^ 31) (hw : ww ≤ 6) (hk : kk ≤ 6) (e1 : ∀ j : Nat, j < 6 → f1 j = g1 j) (e2 : ∀ j : Nat, j < 6 → f2 j = g2 j) (e3 : ∀ j : Nat, j < 6 → f3 j = g3 j) (e4 : ∀ j : Nat, j < 6 → f4 j = g4 j) (e5 : ∀ j : Nat, j < 6 → f5 j = g5 j) : nrV (fun k => [v0, v1, v2, v3, nI hh, v5, nI ww, nI kk].getD k 0) (fun k => [f1, f2, f3, f4, f5].getD k (fun _ => 0)) = nrm v0 v1 v2 v3 hh v5 ww kk g1 g2 g3 g4 g5 := by
  show nrm v0 v1 v2 v3 (nI hh).toNatClampNeg v5 (nI ww).toNatClampNeg (nI kk).toNatClampNeg f1 f2 f3 f4 f5 = _
  rw [nI_clamp hH, nI_clamp (by omega), nI_clamp (by omega)]
  exact nr_eq hw hk e1 e2 e3 e4 e5
theorem nrV_out {v : Nat → Int32} {g : Nat → RF} {h w k : Nat} (e4 : v 4 = nI h) (hh : h < 2 ^ 31) (e6 : v 6 = nI w) (hw : w < 2 ^ 31) (e7 : v 7 = nI k) (hk : k < 2 ^ 31) : nrV v g = nrm (v 0) (v 1) (v 2) (v 3) h (v 5) w k (g 0) (g 1) (g 2) (g 3) (g 4) := by
  unfold nrV
  rw [e4, e6, e7, nI_clamp hh, nI_clamp hw, nI_clamp hk]
theorem nrV_same {V : Nat → Nat → Int32} {G : Nat → Nat → RF} {q i h w k : Nat} (e4 : V q 4 = nI h) (e6 : V q 6 = nI w) (e7 : V q 7 = nI k) : nrV (va_up V q (fun k_ => [V q 0, V q 1, V q 2, V q 3, nI h, V q 5, nI w, nI k].getD k_ 0) i) (va_up G q (fun k_ => [G q 0, G q 1, G q 2, G q 3, G q 4].getD k_ (fun _ => 0)) i) = nrV (V i) (G i) := by
  by_cases e : i = q
  · subst e
    rw [va_up_self, va_up_self]
    show nrm (V i 0) (V i 1) (V i 2) (V i 3) (nI h).toNatClampNeg (V i 5) (nI w).toNatClampNeg (nI k).toNatClampNeg (G i 0) (G i 1) (G i 2) (G i 3) (G i 4) = nrV (V i) (G i)
    unfold nrV
    rw [e4, e6, e7]
  · rw [va_up_ne _ _ e, va_up_ne _ _ e]
/-- the class's ring -/
noncomputable def acX (q z : Nat) (V : Nat → Nat → Int32) (G : Nat → Nat → RF) : AC := fun k => if k < z then nrV (V ((q + 24 - z + k) % 24)) (G ((q + 24 - z + k) % 24)) else zR
theorem acX_keep {q z : Nat} {V Vn : Nat → Nat → Int32} {G Gn : Nat → Nat → RF} {r : RF} (hq : q < 24) (hz : z ≤ 24) (h1 : nrV (Vn q) (Gn q) = r) (h2 : ∀ i : Nat, i < 24 → i ≠ q → nrV (Vn i) (Gn i) = nrV (V i) (G i)) : acX ((q + 1) % 24) (ntN z) Vn Gn = ntA r z (acX q z V G) := by
  funext k
  unfold acX ntA ntN
  by_cases hz2 : z < 24
  · rw [if_pos hz2, if_pos hz2]
    dsimp only
    by_cases e : k = z
    · subst e
      rw [if_pos (by omega), if_pos rfl, show ((q + 1) % 24 + 24 - (k + 1) + k) % 24 = q by omega]
      exact h1
    · rw [if_neg e]
      by_cases l : k < z
      · rw [if_pos (by omega), if_pos l, show ((q + 1) % 24 + 24 - (z + 1) + k) % 24 = (q + 24 - z + k) % 24 by omega]
        exact h2 _ (by omega) (by omega)
      · rw [if_neg (by omega), if_neg l]
  · rw [if_neg hz2, if_neg hz2]
    dsimp only
    by_cases l : k < 23
    · rw [if_pos (by omega), if_pos l, if_pos (by omega), show ((q + 1) % 24 + 24 - 24 + k) % 24 = (q + 24 - z + (k + 1)) % 24 by omega]
      exact h2 _ (by omega) (by omega)
    · rw [if_neg l]
      by_cases e : k = 23
      · subst e
        rw [if_pos (by omega), if_pos rfl, show ((q + 1) % 24 + 24 - 24 + 23) % 24 = q by omega]
        exact h1
      · rw [if_neg e, if_neg (by omega)]
theorem acX_take {q z : Nat} {V Vn : Nat → Nat → Int32} {G Gn : Nat → Nat → RF} (hq : q < 24) (hz : z ≤ 24) (h0 : 0 < z) (h2 : ∀ i : Nat, i < 24 → nrV (Vn i) (Gn i) = nrV (V i) (G i)) : acX ((q + 23) % 24) (z - 1) Vn Gn = dpA z (acX q z V G) ∧ nrV (V ((q + 23) % 24)) (G ((q + 23) % 24)) = acX q z V G (z - 1) := by
  constructor
  · funext k
    unfold acX dpA
    dsimp only
    by_cases l : k + 1 < z
    · rw [if_pos (by omega), if_pos l, if_pos (by omega), show ((q + 23) % 24 + 24 - (z - 1) + k) % 24 = (q + 24 - z + k) % 24 by omega]
      exact h2 _ (by omega)
    · rw [if_neg (by omega), if_neg l]
  · unfold acX
    rw [if_pos (by omega), show (q + 24 - z + (z - 1)) % 24 = (q + 23) % 24 by omega]
theorem acX_0 {q : Nat} {V : Nat → Nat → Int32} {G : Nat → Nat → RF} : acX q 0 V G = (fun _ => zR) := by
  funext k
  exact if_neg (Nat.not_lt_zero k)
theorem acX_same {q z : Nat} {V Vn : Nat → Nat → Int32} {G Gn : Nat → Nat → RF} (h2 : ∀ i : Nat, i < 24 → nrV (Vn i) (Gn i) = nrV (V i) (G i)) : acX q z Vn Gn = acX q z V G := by
  funext k
  unfold acX
  split
  · exact h2 _ (Nat.mod_lt _ (by decide))
  · rfl
/-- the other side's -/
noncomputable def acM (f : RF) (n : Nat) : AC := fun k => if k < n then m38 (fun j => f (38 * k + j)) else zR
theorem acM_push {f g s : RF} {n : Nat} (hn : n < 24) (e1 : ∀ j : Nat, j < 38 → g (38 * n + j) = s j) (e2 : ∀ j : Nat, j < 38 * n ∨ 38 * n + 38 ≤ j → g j = f j) : acM g (n + 1) = ntA (m38 s) n (acM f n) := by
  funext k
  unfold acM ntA
  rw [if_pos hn]
  dsimp only
  by_cases e : k = n
  · subst e
    rw [if_pos (by omega), if_pos rfl]
    funext j
    unfold m38
    split
    · rename_i h
      exact e1 j h
    · rfl
  · rw [if_neg e]
    by_cases l : k < n
    · rw [if_pos (by omega), if_pos l]
      funext j
      unfold m38
      split
      · exact e2 _ (by omega)
      · rfl
    · rw [if_neg (by omega), if_neg l]
theorem acM_shift {f g h s : RF} (e0 : (∀ j : Nat, j < 874 → h j = f (j + 38)) ∧ ∀ j : Nat, 874 ≤ j → h j = f j) (e1 : ∀ j : Nat, j < 38 → g (38 * 23 + j) = s j) (e2 : ∀ j : Nat, j < 38 * 23 ∨ 38 * 23 + 38 ≤ j → g j = h j) : acM g 24 = ntA (m38 s) 24 (acM f 24) := by
  funext k
  unfold acM ntA
  rw [if_neg (show ¬ (24 : Nat) < 24 by decide)]
  dsimp only
  by_cases l : k < 23
  · rw [if_pos (by omega), if_pos l, if_pos (by omega)]
    funext j
    unfold m38
    split
    · rename_i hj
      show g (38 * k + j) = f (38 * (k + 1) + j)
      rw [e2 _ (by omega), e0.1 _ (by omega), show 38 * k + j + 38 = 38 * (k + 1) + j by omega]
    · rfl
  · rw [if_neg l]
    by_cases e : k = 23
    · subst e
      rw [if_pos (by decide), if_pos rfl]
      funext j
      unfold m38
      split
      · rename_i h
        exact e1 j h
      · rfl
    · rw [if_neg e, if_neg (by omega)]
theorem acM_take {f : RF} {n : Nat} : acM f (n - 1) = dpA n (acM f n) := by
  funext k
  unfold acM dpA
  dsimp only
  by_cases l : k + 1 < n
  · rw [if_pos (by omega), if_pos l, if_pos (by omega)]
  · rw [if_neg (by omega), if_neg l]
theorem acM_top {f s : RF} {n : Nat} (h0 : 0 < n) (e : ∀ j : Nat, j < 38 → s j = f (38 * (n - 1) + j)) : m38 s = acM f n (n - 1) := by
  unfold acM
  rw [if_pos (by omega)]
  funext j
  unfold m38
  split
  · rename_i h
    exact e j h
  · rfl
theorem acM_0 {f : RF} : acM f 0 = (fun _ => zR) := by
  funext k
  exact if_neg (Nat.not_lt_zero k)
theorem m38_eq {f g : RF} (h : ∀ j : Nat, j < 38 → f j = g j) : m38 f = m38 g := by
  funext j
  unfold m38
  split
  · rename_i q
    exact h j q
  · rfl
theorem m38_38 (f : RF) : m38 (m38 f) = m38 f := m38_eq (fun _ h => m38_at h)
/-- images -/
noncomputable def imM (fk fq : RF) (k : Nat) : RF := if fk k = 0 then zR else m38 (fun j => fq (38 * k + j))
/-! the two sides' rows: what an hour does reads and writes below 38 -/
theorem m38_c {f : RF} {i : Nat} {v : Int32} (h : i < 38) : m38 (upd f i v) = upd (m38 f) i v := m38_up h
theorem toM_c {f : RF} {i : Nat} {n : Int32} (h : i < 6) : toM (m38 f) i n = toM f i n := by
  unfold toM
  rw [m38_at (by omega), m38_at (by omega)]
theorem loM_c {f : RF} {i : Nat} (h : i < 6) : loM (m38 f) i = loM f i := by
  unfold loM
  rw [m38_at (by omega), m38_at (by omega)]
theorem mDr_c {f : RF} {i : Nat} {n : Int32} (h : i < 6) : m38 (mDr f i n) = mDr (m38 f) i n := by
  unfold mDr lostM
  rw [toM_c h, loM_c h, m38_at (by decide)]
  split
  · exact m38_up (by omega)
  · rw [m38_up (by omega), m38_up (by omega), m38_up (by omega)]
theorem mD1_c {f : RF} {i : Nat} {n : Int32} (h : i < 6) : m38 (mD1 f i n) = mD1 (m38 f) i n := by
  unfold mD1
  rw [m38_at (by omega)]
  split
  · exact mDr_c h
  · rfl
theorem amM_c {f : RF} {i : Nat} (h : i < 6) : amM (m38 f) i ↔ amM f i := by
  unfold amM ofM
  rw [m38_at (by decide), m38_at (by omega), m38_at (by decide), m38_at (by decide)]
theorem mSt_c {n : Int32} {i : Nat} {s : MG} (h : i < 6) : (m38 (mSt n i s).1, (mSt n i s).2) = mSt n i (m38 s.1, s.2) := by
  have a1 := mD1_c (f := s.1) (n := n) h
  have a2 : mD1 (m38 s.1) i n (26 + i) = mD1 s.1 i n (26 + i) := by rw [← a1, m38_at (by omega)]
  have a3 : mD1 (m38 s.1) i n (32 + i) = mD1 s.1 i n (32 + i) := by rw [← a1, m38_at (by omega)]
  have a4 : amM (mD1 (m38 s.1) i n) i ↔ amM (mD1 s.1 i n) i := by
    rw [← a1]
    exact amM_c h
  unfold mSt
  by_cases q : mD1 s.1 i n (26 + i) = 0 ∧ ¬ n = 0 ∧ amM (mD1 s.1 i n) i
  · have q2 : mD1 (m38 s.1) i n (26 + i) = 0 ∧ ¬ n = 0 ∧ amM (mD1 (m38 s.1) i n) i := ⟨a2.trans q.1, q.2.1, a4.mpr q.2.2⟩
    rw [if_pos q, if_pos q2]
    show (m38 (upd (mD1 s.1 i n) (26 + i) 1), s.2 + mD1 s.1 i n (32 + i)) = (upd (mD1 (m38 s.1) i n) (26 + i) 1, s.2 + mD1 (m38 s.1) i n (32 + i))
    rw [m38_up (by omega), a1, a3]
  · have q2 : ¬ (mD1 (m38 s.1) i n (26 + i) = 0 ∧ ¬ n = 0 ∧ amM (mD1 (m38 s.1) i n) i) := fun z => q ⟨a2.symm.trans z.1, z.2.1, a4.mp z.2.2⟩
    rw [if_neg q, if_neg q2]
    show (m38 (mD1 s.1 i n), s.2) = (mD1 (m38 s.1) i n, s.2)
    rw [a1]
theorem mHs_c {n : Int32} {s : MG} : ∀ i : Nat, i ≤ 6 → (m38 (mHs n i s).1, (mHs n i s).2) = mHs n i (m38 s.1, s.2)
  | 0, _ => rfl
  | i + 1, h => by
    have ih := mHs_c (n := n) (s := s) i (by omega)
    show (m38 (mSt n i (mHs n i s)).1, (mSt n i (mHs n i s)).2) = mSt n i (mHs n i (m38 s.1, s.2))
    rw [mSt_c (by omega), ih]
theorem mW_c {f : RF} {w : Nat} (h3 : f 3 = nI w) (hw : w ≤ 6) (h1 : 1 ≤ w) : mW (m38 f) = mW f := by
  have h9 : (f 5).toNatClampNeg % w < w := Nat.mod_lt _ (by omega)
  have e5 : m38 f 5 = f 5 := rfl
  have e3 : m38 f 3 = f 3 := rfl
  unfold mW
  rw [e5, e3, h3, nI_clamp (by omega), m38_at (by omega)]
theorem mH_c {f : RF} {w k : Nat} (h3 : f 3 = nI w) (hw : w ≤ 6) (h1 : 1 ≤ w) (h4 : f 4 = nI k) (hk : k ≤ 6) : m38 (mH f) = mH (m38 f) := by
  have e4 : m38 f 4 = f 4 := rfl
  have h := mHs_c (n := mW f - 2) (s := (f, 0)) k hk
  unfold mH mLs
  rw [mW_c h3 hw h1, e4, h4, nI_clamp (by omega)]
  have h' : mHs (mW f - 2) k (m38 f, 0) = (m38 (mHs (mW f - 2) k (f, 0)).1, (mHs (mW f - 2) k (f, 0)).2) := h.symm
  rw [h', m38_up (by decide), m38_up (by decide)]
  show _ = upd (upd (m38 (mHs (mW f - 2) k (f, 0)).1) 7 (limX (m38 (mHs (mW f - 2) k (f, 0)).1 7) (mHs (mW f - 2) k (f, 0)).2)) 5 (m38 (mHs (mW f - 2) k (f, 0)).1 5 + 1)
  rw [m38_at (i := 7) (by decide), m38_at (i := 5) (by decide)]
theorem dX3_becomeLike_0 : decode cX3_becomeLike 0 = .ok (.aload_n 0, 1) := dq_42 (by decide +kernel)
theorem dX3_becomeLike_1 : decode cX3_becomeLike 1 = .ok (.aload_n 1, 1) := dq_43 (by decide +kernel)
theorem dX3_becomeLike_10 : decode cX3_becomeLike 10 = .ok (.getfield 31, 3) := dq_180 (b1 := 0) (b2 := 31) (by decide +kernel) (by decide)
theorem dX3_becomeLike_100 : decode cX3_becomeLike 100 = .ok (.getfield 18, 3) := dq_180 (b1 := 0) (b2 := 18) (by decide +kernel) (by decide)
theorem dX3_becomeLike_103 : decode cX3_becomeLike 103 = .ok (.iconst 0, 1) := dq_3 (by decide +kernel)
theorem dX3_becomeLike_104 : decode cX3_becomeLike 104 = .ok (.bipush 6, 2) := dq_16 (b1 := 6) (by decide +kernel) (by decide)
theorem dX3_becomeLike_106 : decode cX3_becomeLike 106 = .ok (.invokestatic 52, 3) := dq_184 (b1 := 0) (b2 := 52) (by decide +kernel) (by decide)
theorem dX3_becomeLike_109 : decode cX3_becomeLike 109 = .ok (.aload_n 1, 1) := dq_43 (by decide +kernel)
theorem dX3_becomeLike_110 : decode cX3_becomeLike 110 = .ok (.getfield 21, 3) := dq_180 (b1 := 0) (b2 := 21) (by decide +kernel) (by decide)
theorem dX3_becomeLike_113 : decode cX3_becomeLike 113 = .ok (.iconst 0, 1) := dq_3 (by decide +kernel)
theorem dX3_becomeLike_114 : decode cX3_becomeLike 114 = .ok (.aload_n 0, 1) := dq_42 (by decide +kernel)
theorem dX3_becomeLike_115 : decode cX3_becomeLike 115 = .ok (.getfield 21, 3) := dq_180 (b1 := 0) (b2 := 21) (by decide +kernel) (by decide)
theorem dX3_becomeLike_118 : decode cX3_becomeLike 118 = .ok (.iconst 0, 1) := dq_3 (by decide +kernel)
theorem dX3_becomeLike_119 : decode cX3_becomeLike 119 = .ok (.bipush 6, 2) := dq_16 (b1 := 6) (by decide +kernel) (by decide)
theorem dX3_becomeLike_121 : decode cX3_becomeLike 121 = .ok (.invokestatic 52, 3) := dq_184 (b1 := 0) (b2 := 52) (by decide +kernel) (by decide)
theorem dX3_becomeLike_124 : decode cX3_becomeLike 124 = .ok (.aload_n 1, 1) := dq_43 (by decide +kernel)
theorem dX3_becomeLike_125 : decode cX3_becomeLike 125 = .ok (.getfield 24, 3) := dq_180 (b1 := 0) (b2 := 24) (by decide +kernel) (by decide)
theorem dX3_becomeLike_128 : decode cX3_becomeLike 128 = .ok (.iconst 0, 1) := dq_3 (by decide +kernel)
theorem dX3_becomeLike_129 : decode cX3_becomeLike 129 = .ok (.aload_n 0, 1) := dq_42 (by decide +kernel)
theorem dX3_becomeLike_13 : decode cX3_becomeLike 13 = .ok (.putfield 31, 3) := dq_181 (b1 := 0) (b2 := 31) (by decide +kernel) (by decide)
theorem dX3_becomeLike_130 : decode cX3_becomeLike 130 = .ok (.getfield 24, 3) := dq_180 (b1 := 0) (b2 := 24) (by decide +kernel) (by decide)
theorem dX3_becomeLike_133 : decode cX3_becomeLike 133 = .ok (.iconst 0, 1) := dq_3 (by decide +kernel)
theorem dX3_becomeLike_134 : decode cX3_becomeLike 134 = .ok (.bipush 6, 2) := dq_16 (b1 := 6) (by decide +kernel) (by decide)
theorem dX3_becomeLike_136 : decode cX3_becomeLike 136 = .ok (.invokestatic 52, 3) := dq_184 (b1 := 0) (b2 := 52) (by decide +kernel) (by decide)
theorem dX3_becomeLike_139 : decode cX3_becomeLike 139 = .ok (.return_, 1) := dq_177 (by decide +kernel)
theorem dX3_becomeLike_16 : decode cX3_becomeLike 16 = .ok (.aload_n 0, 1) := dq_42 (by decide +kernel)
theorem dX3_becomeLike_17 : decode cX3_becomeLike 17 = .ok (.aload_n 1, 1) := dq_43 (by decide +kernel)
theorem dX3_becomeLike_18 : decode cX3_becomeLike 18 = .ok (.getfield 34, 3) := dq_180 (b1 := 0) (b2 := 34) (by decide +kernel) (by decide)
theorem dX3_becomeLike_2 : decode cX3_becomeLike 2 = .ok (.getfield 27, 3) := dq_180 (b1 := 0) (b2 := 27) (by decide +kernel) (by decide)
theorem dX3_becomeLike_21 : decode cX3_becomeLike 21 = .ok (.putfield 34, 3) := dq_181 (b1 := 0) (b2 := 34) (by decide +kernel) (by decide)
theorem dX3_becomeLike_24 : decode cX3_becomeLike 24 = .ok (.aload_n 0, 1) := dq_42 (by decide +kernel)
theorem dX3_becomeLike_25 : decode cX3_becomeLike 25 = .ok (.aload_n 1, 1) := dq_43 (by decide +kernel)
theorem dX3_becomeLike_26 : decode cX3_becomeLike 26 = .ok (.getfield 37, 3) := dq_180 (b1 := 0) (b2 := 37) (by decide +kernel) (by decide)
theorem dX3_becomeLike_29 : decode cX3_becomeLike 29 = .ok (.putfield 37, 3) := dq_181 (b1 := 0) (b2 := 37) (by decide +kernel) (by decide)
theorem dX3_becomeLike_32 : decode cX3_becomeLike 32 = .ok (.aload_n 0, 1) := dq_42 (by decide +kernel)
theorem dX3_becomeLike_33 : decode cX3_becomeLike 33 = .ok (.aload_n 1, 1) := dq_43 (by decide +kernel)
theorem dX3_becomeLike_34 : decode cX3_becomeLike 34 = .ok (.getfield 40, 3) := dq_180 (b1 := 0) (b2 := 40) (by decide +kernel) (by decide)
theorem dX3_becomeLike_37 : decode cX3_becomeLike 37 = .ok (.putfield 40, 3) := dq_181 (b1 := 0) (b2 := 40) (by decide +kernel) (by decide)
theorem dX3_becomeLike_40 : decode cX3_becomeLike 40 = .ok (.aload_n 0, 1) := dq_42 (by decide +kernel)
theorem dX3_becomeLike_41 : decode cX3_becomeLike 41 = .ok (.aload_n 1, 1) := dq_43 (by decide +kernel)
theorem dX3_becomeLike_42 : decode cX3_becomeLike 42 = .ok (.getfield 43, 3) := dq_180 (b1 := 0) (b2 := 43) (by decide +kernel) (by decide)
theorem dX3_becomeLike_45 : decode cX3_becomeLike 45 = .ok (.putfield 43, 3) := dq_181 (b1 := 0) (b2 := 43) (by decide +kernel) (by decide)
theorem dX3_becomeLike_48 : decode cX3_becomeLike 48 = .ok (.aload_n 0, 1) := dq_42 (by decide +kernel)
theorem dX3_becomeLike_49 : decode cX3_becomeLike 49 = .ok (.aload_n 1, 1) := dq_43 (by decide +kernel)
theorem dX3_becomeLike_5 : decode cX3_becomeLike 5 = .ok (.putfield 27, 3) := dq_181 (b1 := 0) (b2 := 27) (by decide +kernel) (by decide)
theorem dX3_becomeLike_50 : decode cX3_becomeLike 50 = .ok (.getfield 46, 3) := dq_180 (b1 := 0) (b2 := 46) (by decide +kernel) (by decide)
theorem dX3_becomeLike_53 : decode cX3_becomeLike 53 = .ok (.putfield 46, 3) := dq_181 (b1 := 0) (b2 := 46) (by decide +kernel) (by decide)
theorem dX3_becomeLike_56 : decode cX3_becomeLike 56 = .ok (.aload_n 0, 1) := dq_42 (by decide +kernel)
theorem dX3_becomeLike_57 : decode cX3_becomeLike 57 = .ok (.aload_n 1, 1) := dq_43 (by decide +kernel)
theorem dX3_becomeLike_58 : decode cX3_becomeLike 58 = .ok (.getfield 49, 3) := dq_180 (b1 := 0) (b2 := 49) (by decide +kernel) (by decide)
theorem dX3_becomeLike_61 : decode cX3_becomeLike 61 = .ok (.putfield 49, 3) := dq_181 (b1 := 0) (b2 := 49) (by decide +kernel) (by decide)
theorem dX3_becomeLike_64 : decode cX3_becomeLike 64 = .ok (.aload_n 1, 1) := dq_43 (by decide +kernel)
theorem dX3_becomeLike_65 : decode cX3_becomeLike 65 = .ok (.getfield 9, 3) := dq_180 (b1 := 0) (b2 := 9) (by decide +kernel) (by decide)
theorem dX3_becomeLike_68 : decode cX3_becomeLike 68 = .ok (.iconst 0, 1) := dq_3 (by decide +kernel)
theorem dX3_becomeLike_69 : decode cX3_becomeLike 69 = .ok (.aload_n 0, 1) := dq_42 (by decide +kernel)
theorem dX3_becomeLike_70 : decode cX3_becomeLike 70 = .ok (.getfield 9, 3) := dq_180 (b1 := 0) (b2 := 9) (by decide +kernel) (by decide)
theorem dX3_becomeLike_73 : decode cX3_becomeLike 73 = .ok (.iconst 0, 1) := dq_3 (by decide +kernel)
theorem dX3_becomeLike_74 : decode cX3_becomeLike 74 = .ok (.bipush 6, 2) := dq_16 (b1 := 6) (by decide +kernel) (by decide)
theorem dX3_becomeLike_76 : decode cX3_becomeLike 76 = .ok (.invokestatic 52, 3) := dq_184 (b1 := 0) (b2 := 52) (by decide +kernel) (by decide)
theorem dX3_becomeLike_79 : decode cX3_becomeLike 79 = .ok (.aload_n 1, 1) := dq_43 (by decide +kernel)
theorem dX3_becomeLike_8 : decode cX3_becomeLike 8 = .ok (.aload_n 0, 1) := dq_42 (by decide +kernel)
theorem dX3_becomeLike_80 : decode cX3_becomeLike 80 = .ok (.getfield 15, 3) := dq_180 (b1 := 0) (b2 := 15) (by decide +kernel) (by decide)
theorem dX3_becomeLike_83 : decode cX3_becomeLike 83 = .ok (.iconst 0, 1) := dq_3 (by decide +kernel)
theorem dX3_becomeLike_84 : decode cX3_becomeLike 84 = .ok (.aload_n 0, 1) := dq_42 (by decide +kernel)
theorem dX3_becomeLike_85 : decode cX3_becomeLike 85 = .ok (.getfield 15, 3) := dq_180 (b1 := 0) (b2 := 15) (by decide +kernel) (by decide)
theorem dX3_becomeLike_88 : decode cX3_becomeLike 88 = .ok (.iconst 0, 1) := dq_3 (by decide +kernel)
theorem dX3_becomeLike_89 : decode cX3_becomeLike 89 = .ok (.bipush 6, 2) := dq_16 (b1 := 6) (by decide +kernel) (by decide)
theorem dX3_becomeLike_9 : decode cX3_becomeLike 9 = .ok (.aload_n 1, 1) := dq_43 (by decide +kernel)
theorem dX3_becomeLike_91 : decode cX3_becomeLike 91 = .ok (.invokestatic 52, 3) := dq_184 (b1 := 0) (b2 := 52) (by decide +kernel) (by decide)
theorem dX3_becomeLike_94 : decode cX3_becomeLike 94 = .ok (.aload_n 1, 1) := dq_43 (by decide +kernel)
theorem dX3_becomeLike_95 : decode cX3_becomeLike 95 = .ok (.getfield 18, 3) := dq_180 (b1 := 0) (b2 := 18) (by decide +kernel) (by decide)
theorem dX3_becomeLike_98 : decode cX3_becomeLike 98 = .ok (.iconst 0, 1) := dq_3 (by decide +kernel)
theorem dX3_becomeLike_99 : decode cX3_becomeLike 99 = .ok (.aload_n 0, 1) := dq_42 (by decide +kernel)
theorem dX3_begin_0 : decode cX3_begin 0 = .ok (.aload_n 0, 1) := dq_42 (by decide +kernel)
theorem dX3_begin_1 : decode cX3_begin 1 = .ok (.iconst 0, 1) := dq_3 (by decide +kernel)
theorem dX3_begin_10 : decode cX3_begin 10 = .ok (.aload_n 0, 1) := dq_42 (by decide +kernel)
theorem dX3_begin_11 : decode cX3_begin 11 = .ok (.iconst 0, 1) := dq_3 (by decide +kernel)
theorem dX3_begin_12 : decode cX3_begin 12 = .ok (.putfield 34, 3) := dq_181 (b1 := 0) (b2 := 34) (by decide +kernel) (by decide)
theorem dX3_begin_15 : decode cX3_begin 15 = .ok (.aload_n 0, 1) := dq_42 (by decide +kernel)
theorem dX3_begin_16 : decode cX3_begin 16 = .ok (.iconst 1, 1) := dq_4 (by decide +kernel)
theorem dX3_begin_17 : decode cX3_begin 17 = .ok (.putfield 37, 3) := dq_181 (b1 := 0) (b2 := 37) (by decide +kernel) (by decide)
theorem dX3_begin_2 : decode cX3_begin 2 = .ok (.putfield 27, 3) := dq_181 (b1 := 0) (b2 := 27) (by decide +kernel) (by decide)
theorem dX3_begin_20 : decode cX3_begin 20 = .ok (.aload_n 0, 1) := dq_42 (by decide +kernel)
theorem dX3_begin_21 : decode cX3_begin 21 = .ok (.iconst 0, 1) := dq_3 (by decide +kernel)
theorem dX3_begin_22 : decode cX3_begin 22 = .ok (.putfield 40, 3) := dq_181 (b1 := 0) (b2 := 40) (by decide +kernel) (by decide)
theorem dX3_begin_25 : decode cX3_begin 25 = .ok (.aload_n 0, 1) := dq_42 (by decide +kernel)
theorem dX3_begin_26 : decode cX3_begin 26 = .ok (.iconst 0, 1) := dq_3 (by decide +kernel)
theorem dX3_begin_27 : decode cX3_begin 27 = .ok (.putfield 43, 3) := dq_181 (b1 := 0) (b2 := 43) (by decide +kernel) (by decide)
theorem dX3_begin_30 : decode cX3_begin 30 = .ok (.aload_n 0, 1) := dq_42 (by decide +kernel)
theorem dX3_begin_31 : decode cX3_begin 31 = .ok (.iconst 0, 1) := dq_3 (by decide +kernel)
theorem dX3_begin_32 : decode cX3_begin 32 = .ok (.putfield 46, 3) := dq_181 (b1 := 0) (b2 := 46) (by decide +kernel) (by decide)
theorem dX3_begin_35 : decode cX3_begin 35 = .ok (.aload_n 0, 1) := dq_42 (by decide +kernel)
theorem dX3_begin_36 : decode cX3_begin 36 = .ok (.iconst 0, 1) := dq_3 (by decide +kernel)
theorem dX3_begin_37 : decode cX3_begin 37 = .ok (.putfield 49, 3) := dq_181 (b1 := 0) (b2 := 49) (by decide +kernel) (by decide)
theorem dX3_begin_40 : decode cX3_begin 40 = .ok (.return_, 1) := dq_177 (by decide +kernel)
theorem dX3_begin_5 : decode cX3_begin 5 = .ok (.aload_n 0, 1) := dq_42 (by decide +kernel)
theorem dX3_begin_6 : decode cX3_begin 6 = .ok (.iconst 0, 1) := dq_3 (by decide +kernel)
theorem dX3_begin_7 : decode cX3_begin 7 = .ok (.putfield 31, 3) := dq_181 (b1 := 0) (b2 := 31) (by decide +kernel) (by decide)
theorem dX3_driftOf_0 : decode cX3_driftOf 0 = .ok (.iload_n 2, 1) := dq_28 (by decide +kernel)
theorem dX3_driftOf_1 : decode cX3_driftOf 1 = .ok (.iconst 2, 1) := dq_5 (by decide +kernel)
theorem dX3_driftOf_10 : decode cX3_driftOf 10 = .ok (.tableswitch 43 1 4 #[30, 32, 36, 40], 30) := by decide +kernel
theorem dX3_driftOf_2 : decode cX3_driftOf 2 = .ok (.isub, 1) := dq_100 (by decide +kernel)
theorem dX3_driftOf_3 : decode cX3_driftOf 3 = .ok (.istore_n 3, 1) := dq_62 (by decide +kernel)
theorem dX3_driftOf_4 : decode cX3_driftOf 4 = .ok (.aload_n 0, 1) := dq_42 (by decide +kernel)
theorem dX3_driftOf_40 : decode cX3_driftOf 40 = .ok (.iload_n 3, 1) := dq_29 (by decide +kernel)
theorem dX3_driftOf_41 : decode cX3_driftOf 41 = .ok (.ireturn, 1) := dq_172 (by decide +kernel)
theorem dX3_driftOf_42 : decode cX3_driftOf 42 = .ok (.iload_n 3, 1) := dq_29 (by decide +kernel)
theorem dX3_driftOf_43 : decode cX3_driftOf 43 = .ok (.iconst 2, 1) := dq_5 (by decide +kernel)
theorem dX3_driftOf_44 : decode cX3_driftOf 44 = .ok (.idiv, 1) := dq_108 (by decide +kernel)
theorem dX3_driftOf_45 : decode cX3_driftOf 45 = .ok (.ireturn, 1) := dq_172 (by decide +kernel)
theorem dX3_driftOf_46 : decode cX3_driftOf 46 = .ok (.iload_n 3, 1) := dq_29 (by decide +kernel)
theorem dX3_driftOf_47 : decode cX3_driftOf 47 = .ok (.iconst 2, 1) := dq_5 (by decide +kernel)
theorem dX3_driftOf_48 : decode cX3_driftOf 48 = .ok (.imul, 1) := dq_104 (by decide +kernel)
theorem dX3_driftOf_49 : decode cX3_driftOf 49 = .ok (.ireturn, 1) := dq_172 (by decide +kernel)
theorem dX3_driftOf_5 : decode cX3_driftOf 5 = .ok (.getfield 15, 3) := dq_180 (b1 := 0) (b2 := 15) (by decide +kernel) (by decide)
theorem dX3_driftOf_50 : decode cX3_driftOf 50 = .ok (.iload_n 3, 1) := dq_29 (by decide +kernel)
theorem dX3_driftOf_51 : decode cX3_driftOf 51 = .ok (.ineg, 1) := dq_116 (by decide +kernel)
theorem dX3_driftOf_52 : decode cX3_driftOf 52 = .ok (.ireturn, 1) := dq_172 (by decide +kernel)
theorem dX3_driftOf_53 : decode cX3_driftOf 53 = .ok (.iconst 0, 1) := dq_3 (by decide +kernel)
theorem dX3_driftOf_54 : decode cX3_driftOf 54 = .ok (.ireturn, 1) := dq_172 (by decide +kernel)
theorem dX3_driftOf_8 : decode cX3_driftOf 8 = .ok (.iload_n 1, 1) := dq_27 (by decide +kernel)
theorem dX3_driftOf_9 : decode cX3_driftOf 9 = .ok (.iaload, 1) := dq_46 (by decide +kernel)
theorem dX3_grindsAt_0 : decode cX3_grindsAt 0 = .ok (.aload_n 0, 1) := dq_42 (by decide +kernel)
theorem dX3_grindsAt_1 : decode cX3_grindsAt 1 = .ok (.getfield 37, 3) := dq_180 (b1 := 0) (b2 := 37) (by decide +kernel) (by decide)
theorem dX3_grindsAt_10 : decode cX3_grindsAt 10 = .ok (.getfield 31, 3) := dq_180 (b1 := 0) (b2 := 31) (by decide +kernel) (by decide)
theorem dX3_grindsAt_13 : decode cX3_grindsAt 13 = .ok (.isub, 1) := dq_100 (by decide +kernel)
theorem dX3_grindsAt_14 : decode cX3_grindsAt 14 = .ok (.goto 9, 3) := dq_167 (b1 := 0) (b2 := 9) (by decide +kernel) (by decide)
theorem dX3_grindsAt_17 : decode cX3_grindsAt 17 = .ok (.aload_n 0, 1) := dq_42 (by decide +kernel)
theorem dX3_grindsAt_18 : decode cX3_grindsAt 18 = .ok (.getfield 31, 3) := dq_180 (b1 := 0) (b2 := 31) (by decide +kernel) (by decide)
theorem dX3_grindsAt_21 : decode cX3_grindsAt 21 = .ok (.iload_n 1, 1) := dq_27 (by decide +kernel)
theorem dX3_grindsAt_22 : decode cX3_grindsAt 22 = .ok (.isub, 1) := dq_100 (by decide +kernel)
theorem dX3_grindsAt_23 : decode cX3_grindsAt 23 = .ok (.istore_n 3, 1) := dq_62 (by decide +kernel)
theorem dX3_grindsAt_24 : decode cX3_grindsAt 24 = .ok (.iload_n 2, 1) := dq_28 (by decide +kernel)
theorem dX3_grindsAt_25 : decode cX3_grindsAt 25 = .ok (.iconst 2, 1) := dq_5 (by decide +kernel)
theorem dX3_grindsAt_26 : decode cX3_grindsAt 26 = .ok (.if_icmp .eq 19, 3) := dq_159 (b1 := 0) (b2 := 19) (by decide +kernel) (by decide)
theorem dX3_grindsAt_29 : decode cX3_grindsAt 29 = .ok (.iload_n 3, 1) := dq_29 (by decide +kernel)
theorem dX3_grindsAt_30 : decode cX3_grindsAt 30 = .ok (.ifCond .lt 15, 3) := dq_155 (b1 := 0) (b2 := 15) (by decide +kernel) (by decide)
theorem dX3_grindsAt_33 : decode cX3_grindsAt 33 = .ok (.iload_n 3, 1) := dq_29 (by decide +kernel)
theorem dX3_grindsAt_34 : decode cX3_grindsAt 34 = .ok (.aload_n 0, 1) := dq_42 (by decide +kernel)
theorem dX3_grindsAt_35 : decode cX3_grindsAt 35 = .ok (.getfield 34, 3) := dq_180 (b1 := 0) (b2 := 34) (by decide +kernel) (by decide)
theorem dX3_grindsAt_38 : decode cX3_grindsAt 38 = .ok (.if_icmp .gt 7, 3) := dq_163 (b1 := 0) (b2 := 7) (by decide +kernel) (by decide)
theorem dX3_grindsAt_4 : decode cX3_grindsAt 4 = .ok (.iconst 1, 1) := dq_4 (by decide +kernel)
theorem dX3_grindsAt_41 : decode cX3_grindsAt 41 = .ok (.iconst 1, 1) := dq_4 (by decide +kernel)
theorem dX3_grindsAt_42 : decode cX3_grindsAt 42 = .ok (.goto 4, 3) := dq_167 (b1 := 0) (b2 := 4) (by decide +kernel) (by decide)
theorem dX3_grindsAt_45 : decode cX3_grindsAt 45 = .ok (.iconst 0, 1) := dq_3 (by decide +kernel)
theorem dX3_grindsAt_46 : decode cX3_grindsAt 46 = .ok (.ireturn, 1) := dq_172 (by decide +kernel)
theorem dX3_grindsAt_5 : decode cX3_grindsAt 5 = .ok (.if_icmp .ne 12, 3) := dq_160 (b1 := 0) (b2 := 12) (by decide +kernel) (by decide)
theorem dX3_grindsAt_8 : decode cX3_grindsAt 8 = .ok (.iload_n 1, 1) := dq_27 (by decide +kernel)
theorem dX3_grindsAt_9 : decode cX3_grindsAt 9 = .ok (.aload_n 0, 1) := dq_42 (by decide +kernel)
theorem dX3_hasCell_0 : decode cX3_hasCell 0 = .ok (.iload_n 1, 1) := dq_27 (by decide +kernel)
theorem dX3_hasCell_1 : decode cX3_hasCell 1 = .ok (.ifCond .lt 15, 3) := dq_155 (b1 := 0) (b2 := 15) (by decide +kernel) (by decide)
theorem dX3_hasCell_12 : decode cX3_hasCell 12 = .ok (.iconst 1, 1) := dq_4 (by decide +kernel)
theorem dX3_hasCell_13 : decode cX3_hasCell 13 = .ok (.goto 4, 3) := dq_167 (b1 := 0) (b2 := 4) (by decide +kernel) (by decide)
theorem dX3_hasCell_16 : decode cX3_hasCell 16 = .ok (.iconst 0, 1) := dq_3 (by decide +kernel)
theorem dX3_hasCell_17 : decode cX3_hasCell 17 = .ok (.ireturn, 1) := dq_172 (by decide +kernel)
theorem dX3_hasCell_4 : decode cX3_hasCell 4 = .ok (.iload_n 1, 1) := dq_27 (by decide +kernel)
theorem dX3_hasCell_5 : decode cX3_hasCell 5 = .ok (.aload_n 0, 1) := dq_42 (by decide +kernel)
theorem dX3_hasCell_6 : decode cX3_hasCell 6 = .ok (.getfield 27, 3) := dq_180 (b1 := 0) (b2 := 27) (by decide +kernel) (by decide)
theorem dX3_hasCell_9 : decode cX3_hasCell 9 = .ok (.if_icmp .ge 7, 3) := dq_162 (b1 := 0) (b2 := 7) (by decide +kernel) (by decide)
theorem dX3_hasSound_0 : decode cX3_hasSound 0 = .ok (.iload_n 1, 1) := dq_27 (by decide +kernel)
theorem dX3_hasSound_1 : decode cX3_hasSound 1 = .ok (.ifCond .lt 15, 3) := dq_155 (b1 := 0) (b2 := 15) (by decide +kernel) (by decide)
theorem dX3_hasSound_12 : decode cX3_hasSound 12 = .ok (.iconst 1, 1) := dq_4 (by decide +kernel)
theorem dX3_hasSound_13 : decode cX3_hasSound 13 = .ok (.goto 4, 3) := dq_167 (b1 := 0) (b2 := 4) (by decide +kernel) (by decide)
theorem dX3_hasSound_16 : decode cX3_hasSound 16 = .ok (.iconst 0, 1) := dq_3 (by decide +kernel)
theorem dX3_hasSound_17 : decode cX3_hasSound 17 = .ok (.ireturn, 1) := dq_172 (by decide +kernel)
theorem dX3_hasSound_4 : decode cX3_hasSound 4 = .ok (.iload_n 1, 1) := dq_27 (by decide +kernel)
theorem dX3_hasSound_5 : decode cX3_hasSound 5 = .ok (.aload_n 0, 1) := dq_42 (by decide +kernel)
theorem dX3_hasSound_6 : decode cX3_hasSound 6 = .ok (.getfield 49, 3) := dq_180 (b1 := 0) (b2 := 49) (by decide +kernel) (by decide)
theorem dX3_hasSound_9 : decode cX3_hasSound 9 = .ok (.if_icmp .ge 7, 3) := dq_162 (b1 := 0) (b2 := 7) (by decide +kernel) (by decide)
theorem dX3_hasWind_0 : decode cX3_hasWind 0 = .ok (.iload_n 1, 1) := dq_27 (by decide +kernel)
theorem dX3_hasWind_1 : decode cX3_hasWind 1 = .ok (.ifCond .lt 15, 3) := dq_155 (b1 := 0) (b2 := 15) (by decide +kernel) (by decide)
theorem dX3_hasWind_12 : decode cX3_hasWind 12 = .ok (.iconst 1, 1) := dq_4 (by decide +kernel)
theorem dX3_hasWind_13 : decode cX3_hasWind 13 = .ok (.goto 4, 3) := dq_167 (b1 := 0) (b2 := 4) (by decide +kernel) (by decide)
theorem dX3_hasWind_16 : decode cX3_hasWind 16 = .ok (.iconst 0, 1) := dq_3 (by decide +kernel)
theorem dX3_hasWind_17 : decode cX3_hasWind 17 = .ok (.ireturn, 1) := dq_172 (by decide +kernel)
theorem dX3_hasWind_4 : decode cX3_hasWind 4 = .ok (.iload_n 1, 1) := dq_27 (by decide +kernel)
theorem dX3_hasWind_5 : decode cX3_hasWind 5 = .ok (.aload_n 0, 1) := dq_42 (by decide +kernel)
theorem dX3_hasWind_6 : decode cX3_hasWind 6 = .ok (.getfield 46, 3) := dq_180 (b1 := 0) (b2 := 46) (by decide +kernel) (by decide)
theorem dX3_hasWind_9 : decode cX3_hasWind 9 = .ok (.if_icmp .ge 7, 3) := dq_162 (b1 := 0) (b2 := 7) (by decide +kernel) (by decide)
theorem dX3_isLoose_0 : decode cX3_isLoose 0 = .ok (.aload_n 0, 1) := dq_42 (by decide +kernel)
theorem dX3_isLoose_1 : decode cX3_isLoose 1 = .ok (.getfield 24, 3) := dq_180 (b1 := 0) (b2 := 24) (by decide +kernel) (by decide)
theorem dX3_isLoose_10 : decode cX3_isLoose 10 = .ok (.goto 4, 3) := dq_167 (b1 := 0) (b2 := 4) (by decide +kernel) (by decide)
theorem dX3_isLoose_13 : decode cX3_isLoose 13 = .ok (.iconst 0, 1) := dq_3 (by decide +kernel)
theorem dX3_isLoose_14 : decode cX3_isLoose 14 = .ok (.ireturn, 1) := dq_172 (by decide +kernel)
theorem dX3_isLoose_4 : decode cX3_isLoose 4 = .ok (.iload_n 1, 1) := dq_27 (by decide +kernel)
theorem dX3_isLoose_5 : decode cX3_isLoose 5 = .ok (.iaload, 1) := dq_46 (by decide +kernel)
theorem dX3_isLoose_6 : decode cX3_isLoose 6 = .ok (.ifCond .ne 7, 3) := dq_154 (b1 := 0) (b2 := 7) (by decide +kernel) (by decide)
theorem dX3_isLoose_9 : decode cX3_isLoose 9 = .ok (.iconst 1, 1) := dq_4 (by decide +kernel)
theorem dX3_isTold_0 : decode cX3_isTold 0 = .ok (.aload_n 0, 1) := dq_42 (by decide +kernel)
theorem dX3_isTold_1 : decode cX3_isTold 1 = .ok (.getfield 27, 3) := dq_180 (b1 := 0) (b2 := 27) (by decide +kernel) (by decide)
theorem dX3_isTold_11 : decode cX3_isTold 11 = .ok (.iconst 0, 1) := dq_3 (by decide +kernel)
theorem dX3_isTold_12 : decode cX3_isTold 12 = .ok (.ireturn, 1) := dq_172 (by decide +kernel)
theorem dX3_isTold_4 : decode cX3_isTold 4 = .ok (.ifCond .le 7, 3) := dq_158 (b1 := 0) (b2 := 7) (by decide +kernel) (by decide)
theorem dX3_isTold_7 : decode cX3_isTold 7 = .ok (.iconst 1, 1) := dq_4 (by decide +kernel)
theorem dX3_isTold_8 : decode cX3_isTold 8 = .ok (.goto 4, 3) := dq_167 (b1 := 0) (b2 := 4) (by decide +kernel) (by decide)
theorem dX3_letLoose_0 : decode cX3_letLoose 0 = .ok (.aload_n 0, 1) := dq_42 (by decide +kernel)
theorem dX3_letLoose_1 : decode cX3_letLoose 1 = .ok (.getfield 18, 3) := dq_180 (b1 := 0) (b2 := 18) (by decide +kernel) (by decide)
theorem dX3_letLoose_11 : decode cX3_letLoose 11 = .ok (.iload_n 1, 1) := dq_27 (by decide +kernel)
theorem dX3_letLoose_12 : decode cX3_letLoose 12 = .ok (.iload_n 3, 1) := dq_29 (by decide +kernel)
theorem dX3_letLoose_13 : decode cX3_letLoose 13 = .ok (.iastore, 1) := dq_79 (by decide +kernel)
theorem dX3_letLoose_14 : decode cX3_letLoose 14 = .ok (.aload_n 0, 1) := dq_42 (by decide +kernel)
theorem dX3_letLoose_15 : decode cX3_letLoose 15 = .ok (.getfield 24, 3) := dq_180 (b1 := 0) (b2 := 24) (by decide +kernel) (by decide)
theorem dX3_letLoose_18 : decode cX3_letLoose 18 = .ok (.iload_n 1, 1) := dq_27 (by decide +kernel)
theorem dX3_letLoose_19 : decode cX3_letLoose 19 = .ok (.iconst 0, 1) := dq_3 (by decide +kernel)
theorem dX3_letLoose_20 : decode cX3_letLoose 20 = .ok (.iastore, 1) := dq_79 (by decide +kernel)
theorem dX3_letLoose_21 : decode cX3_letLoose 21 = .ok (.return_, 1) := dq_177 (by decide +kernel)
theorem dX3_letLoose_4 : decode cX3_letLoose 4 = .ok (.iload_n 1, 1) := dq_27 (by decide +kernel)
theorem dX3_letLoose_5 : decode cX3_letLoose 5 = .ok (.iload_n 2, 1) := dq_28 (by decide +kernel)
theorem dX3_letLoose_6 : decode cX3_letLoose 6 = .ok (.iastore, 1) := dq_79 (by decide +kernel)
theorem dX3_letLoose_7 : decode cX3_letLoose 7 = .ok (.aload_n 0, 1) := dq_42 (by decide +kernel)
theorem dX3_letLoose_8 : decode cX3_letLoose 8 = .ok (.getfield 21, 3) := dq_180 (b1 := 0) (b2 := 21) (by decide +kernel) (by decide)
theorem dX3_loudBehindHour_0 : decode cX3_loudBehindHour 0 = .ok (.aload_n 0, 1) := dq_42 (by decide +kernel)
theorem dX3_loudBehindHour_1 : decode cX3_loudBehindHour 1 = .ok (.getfield 15, 3) := dq_180 (b1 := 0) (b2 := 15) (by decide +kernel) (by decide)
theorem dX3_loudBehindHour_32 : decode cX3_loudBehindHour 32 = .ok (.aload_n 0, 1) := dq_42 (by decide +kernel)
theorem dX3_loudBehindHour_33 : decode cX3_loudBehindHour 33 = .ok (.getfield 21, 3) := dq_180 (b1 := 0) (b2 := 21) (by decide +kernel) (by decide)
theorem dX3_loudBehindHour_36 : decode cX3_loudBehindHour 36 = .ok (.iload_n 1, 1) := dq_27 (by decide +kernel)
theorem dX3_loudBehindHour_37 : decode cX3_loudBehindHour 37 = .ok (.iaload, 1) := dq_46 (by decide +kernel)
theorem dX3_loudBehindHour_38 : decode cX3_loudBehindHour 38 = .ok (.iconst 1, 1) := dq_4 (by decide +kernel)
theorem dX3_loudBehindHour_39 : decode cX3_loudBehindHour 39 = .ok (.isub, 1) := dq_100 (by decide +kernel)
theorem dX3_loudBehindHour_4 : decode cX3_loudBehindHour 4 = .ok (.iload_n 1, 1) := dq_27 (by decide +kernel)
theorem dX3_loudBehindHour_40 : decode cX3_loudBehindHour 40 = .ok (.ireturn, 1) := dq_172 (by decide +kernel)
theorem dX3_loudBehindHour_41 : decode cX3_loudBehindHour 41 = .ok (.aload_n 0, 1) := dq_42 (by decide +kernel)
theorem dX3_loudBehindHour_42 : decode cX3_loudBehindHour 42 = .ok (.getfield 21, 3) := dq_180 (b1 := 0) (b2 := 21) (by decide +kernel) (by decide)
theorem dX3_loudBehindHour_45 : decode cX3_loudBehindHour 45 = .ok (.iload_n 1, 1) := dq_27 (by decide +kernel)
theorem dX3_loudBehindHour_46 : decode cX3_loudBehindHour 46 = .ok (.iaload, 1) := dq_46 (by decide +kernel)
theorem dX3_loudBehindHour_47 : decode cX3_loudBehindHour 47 = .ok (.iconst 1, 1) := dq_4 (by decide +kernel)
theorem dX3_loudBehindHour_48 : decode cX3_loudBehindHour 48 = .ok (.iadd, 1) := dq_96 (by decide +kernel)
theorem dX3_loudBehindHour_49 : decode cX3_loudBehindHour 49 = .ok (.bipush 20, 2) := dq_16 (b1 := 20) (by decide +kernel) (by decide)
theorem dX3_loudBehindHour_5 : decode cX3_loudBehindHour 5 = .ok (.iaload, 1) := dq_46 (by decide +kernel)
theorem dX3_loudBehindHour_51 : decode cX3_loudBehindHour 51 = .ok (.invokestatic 63, 3) := dq_184 (b1 := 0) (b2 := 63) (by decide +kernel) (by decide)
theorem dX3_loudBehindHour_54 : decode cX3_loudBehindHour 54 = .ok (.ireturn, 1) := dq_172 (by decide +kernel)
theorem dX3_loudBehindHour_55 : decode cX3_loudBehindHour 55 = .ok (.aload_n 0, 1) := dq_42 (by decide +kernel)
theorem dX3_loudBehindHour_56 : decode cX3_loudBehindHour 56 = .ok (.getfield 21, 3) := dq_180 (b1 := 0) (b2 := 21) (by decide +kernel) (by decide)
theorem dX3_loudBehindHour_59 : decode cX3_loudBehindHour 59 = .ok (.iload_n 1, 1) := dq_27 (by decide +kernel)
theorem dX3_loudBehindHour_6 : decode cX3_loudBehindHour 6 = .ok (.lookupswitch 49 #[(4, 26), (5, 35)], 26) := by decide +kernel
theorem dX3_loudBehindHour_60 : decode cX3_loudBehindHour 60 = .ok (.iaload, 1) := dq_46 (by decide +kernel)
theorem dX3_loudBehindHour_61 : decode cX3_loudBehindHour 61 = .ok (.ireturn, 1) := dq_172 (by decide +kernel)
theorem dX3_loudOf_0 : decode cX3_loudOf 0 = .ok (.iconst 0, 1) := dq_3 (by decide +kernel)
theorem dX3_loudOf_1 : decode cX3_loudOf 1 = .ok (.istore_n 2, 1) := dq_61 (by decide +kernel)
theorem dX3_loudOf_12 : decode cX3_loudOf 12 = .ok (.iload_n 2, 1) := dq_28 (by decide +kernel)
theorem dX3_loudOf_13 : decode cX3_loudOf 13 = .ok (.iload_n 1, 1) := dq_27 (by decide +kernel)
theorem dX3_loudOf_14 : decode cX3_loudOf 14 = .ok (.iload_n 3, 1) := dq_29 (by decide +kernel)
theorem dX3_loudOf_15 : decode cX3_loudOf 15 = .ok (.ishr, 1) := dq_122 (by decide +kernel)
theorem dX3_loudOf_16 : decode cX3_loudOf 16 = .ok (.iconst 1, 1) := dq_4 (by decide +kernel)
theorem dX3_loudOf_17 : decode cX3_loudOf 17 = .ok (.iand, 1) := dq_126 (by decide +kernel)
theorem dX3_loudOf_18 : decode cX3_loudOf 18 = .ok (.iconst 1, 1) := dq_4 (by decide +kernel)
theorem dX3_loudOf_19 : decode cX3_loudOf 19 = .ok (.if_icmp .ne 12, 3) := dq_160 (b1 := 0) (b2 := 12) (by decide +kernel) (by decide)
theorem dX3_loudOf_2 : decode cX3_loudOf 2 = .ok (.iconst 0, 1) := dq_3 (by decide +kernel)
theorem dX3_loudOf_22 : decode cX3_loudOf 22 = .ok (.aload_n 0, 1) := dq_42 (by decide +kernel)
theorem dX3_loudOf_23 : decode cX3_loudOf 23 = .ok (.getfield 21, 3) := dq_180 (b1 := 0) (b2 := 21) (by decide +kernel) (by decide)
theorem dX3_loudOf_26 : decode cX3_loudOf 26 = .ok (.iload_n 3, 1) := dq_29 (by decide +kernel)
theorem dX3_loudOf_27 : decode cX3_loudOf 27 = .ok (.iaload, 1) := dq_46 (by decide +kernel)
theorem dX3_loudOf_28 : decode cX3_loudOf 28 = .ok (.goto 4, 3) := dq_167 (b1 := 0) (b2 := 4) (by decide +kernel) (by decide)
theorem dX3_loudOf_3 : decode cX3_loudOf 3 = .ok (.istore_n 3, 1) := dq_62 (by decide +kernel)
theorem dX3_loudOf_31 : decode cX3_loudOf 31 = .ok (.iconst 0, 1) := dq_3 (by decide +kernel)
theorem dX3_loudOf_32 : decode cX3_loudOf 32 = .ok (.iadd, 1) := dq_96 (by decide +kernel)
theorem dX3_loudOf_33 : decode cX3_loudOf 33 = .ok (.istore_n 2, 1) := dq_61 (by decide +kernel)
theorem dX3_loudOf_34 : decode cX3_loudOf 34 = .ok (.iinc 3 1, 3) := dq_132 (b1 := 3) (b2 := 1) (by decide +kernel) (by decide) (by decide)
theorem dX3_loudOf_37 : decode cX3_loudOf 37 = .ok (.goto (-33), 3) := dq_167 (b1 := 255) (b2 := 223) (by decide +kernel) (by decide)
theorem dX3_loudOf_4 : decode cX3_loudOf 4 = .ok (.iload_n 3, 1) := dq_29 (by decide +kernel)
theorem dX3_loudOf_40 : decode cX3_loudOf 40 = .ok (.iload_n 2, 1) := dq_28 (by decide +kernel)
theorem dX3_loudOf_41 : decode cX3_loudOf 41 = .ok (.ireturn, 1) := dq_172 (by decide +kernel)
theorem dX3_loudOf_5 : decode cX3_loudOf 5 = .ok (.aload_n 0, 1) := dq_42 (by decide +kernel)
theorem dX3_loudOf_6 : decode cX3_loudOf 6 = .ok (.getfield 49, 3) := dq_180 (b1 := 0) (b2 := 49) (by decide +kernel) (by decide)
theorem dX3_loudOf_9 : decode cX3_loudOf 9 = .ok (.if_icmp .ge 31, 3) := dq_162 (b1 := 0) (b2 := 31) (by decide +kernel) (by decide)
theorem dX3_mealBehind_0 : decode cX3_mealBehind 0 = .ok (.iconst 0, 1) := dq_3 (by decide +kernel)
theorem dX3_mealBehind_1 : decode cX3_mealBehind 1 = .ok (.istore_n 2, 1) := dq_61 (by decide +kernel)
theorem dX3_mealBehind_11 : decode cX3_mealBehind 11 = .ok (.iinc 2 1, 3) := dq_132 (b1 := 2) (b2 := 1) (by decide +kernel) (by decide) (by decide)
theorem dX3_mealBehind_14 : decode cX3_mealBehind 14 = .ok (.goto (-12), 3) := dq_167 (b1 := 255) (b2 := 244) (by decide +kernel) (by decide)
theorem dX3_mealBehind_17 : decode cX3_mealBehind 17 = .ok (.aload_n 0, 1) := dq_42 (by decide +kernel)
theorem dX3_mealBehind_18 : decode cX3_mealBehind 18 = .ok (.getfield 43, 3) := dq_180 (b1 := 0) (b2 := 43) (by decide +kernel) (by decide)
theorem dX3_mealBehind_2 : decode cX3_mealBehind 2 = .ok (.iload_n 2, 1) := dq_28 (by decide +kernel)
theorem dX3_mealBehind_21 : decode cX3_mealBehind 21 = .ok (.ireturn, 1) := dq_172 (by decide +kernel)
theorem dX3_mealBehind_3 : decode cX3_mealBehind 3 = .ok (.iload_n 1, 1) := dq_27 (by decide +kernel)
theorem dX3_mealBehind_4 : decode cX3_mealBehind 4 = .ok (.if_icmp .ge 13, 3) := dq_162 (b1 := 0) (b2 := 13) (by decide +kernel) (by decide)
theorem dX3_mealBehind_7 : decode cX3_mealBehind 7 = .ok (.aload_n 0, 1) := dq_42 (by decide +kernel)
theorem dX3_mealBehind_8 : decode cX3_mealBehind 8 = .ok (.invokevirtual 94, 3) := dq_182 (b1 := 0) (b2 := 94) (by decide +kernel) (by decide)
theorem dX3_passOnly_0 : decode cX3_passOnly 0 = .ok (.iconst 0, 1) := dq_3 (by decide +kernel)
theorem dX3_passOnly_1 : decode cX3_passOnly 1 = .ok (.istore_n 3, 1) := dq_62 (by decide +kernel)
theorem dX3_passOnly_10 : decode cX3_passOnly 10 = .ok (.iconst 0, 1) := dq_3 (by decide +kernel)
theorem dX3_passOnly_11 : decode cX3_passOnly 11 = .ok (.invokevirtual 87, 3) := dq_182 (b1 := 0) (b2 := 87) (by decide +kernel) (by decide)
theorem dX3_passOnly_14 : decode cX3_passOnly 14 = .ok (.invokevirtual 90, 3) := dq_182 (b1 := 0) (b2 := 90) (by decide +kernel) (by decide)
theorem dX3_passOnly_17 : decode cX3_passOnly 17 = .ok (.aload_n 0, 1) := dq_42 (by decide +kernel)
theorem dX3_passOnly_18 : decode cX3_passOnly 18 = .ok (.dup, 1) := dq_89 (by decide +kernel)
theorem dX3_passOnly_19 : decode cX3_passOnly 19 = .ok (.getfield 40, 3) := dq_180 (b1 := 0) (b2 := 40) (by decide +kernel) (by decide)
theorem dX3_passOnly_2 : decode cX3_passOnly 2 = .ok (.iload_n 3, 1) := dq_29 (by decide +kernel)
theorem dX3_passOnly_22 : decode cX3_passOnly 22 = .ok (.iconst 1, 1) := dq_4 (by decide +kernel)
theorem dX3_passOnly_23 : decode cX3_passOnly 23 = .ok (.iadd, 1) := dq_96 (by decide +kernel)
theorem dX3_passOnly_24 : decode cX3_passOnly 24 = .ok (.putfield 40, 3) := dq_181 (b1 := 0) (b2 := 40) (by decide +kernel) (by decide)
theorem dX3_passOnly_27 : decode cX3_passOnly 27 = .ok (.iinc 3 1, 3) := dq_132 (b1 := 3) (b2 := 1) (by decide +kernel) (by decide) (by decide)
theorem dX3_passOnly_3 : decode cX3_passOnly 3 = .ok (.iload_n 2, 1) := dq_28 (by decide +kernel)
theorem dX3_passOnly_30 : decode cX3_passOnly 30 = .ok (.goto (-28), 3) := dq_167 (b1 := 255) (b2 := 228) (by decide +kernel) (by decide)
theorem dX3_passOnly_33 : decode cX3_passOnly 33 = .ok (.return_, 1) := dq_177 (by decide +kernel)
theorem dX3_passOnly_4 : decode cX3_passOnly 4 = .ok (.if_icmp .ge 29, 3) := dq_162 (b1 := 0) (b2 := 29) (by decide +kernel) (by decide)
theorem dX3_passOnly_7 : decode cX3_passOnly 7 = .ok (.aload_n 0, 1) := dq_42 (by decide +kernel)
theorem dX3_passOnly_8 : decode cX3_passOnly 8 = .ok (.iload_n 1, 1) := dq_27 (by decide +kernel)
theorem dX3_passOnly_9 : decode cX3_passOnly 9 = .ok (.aload_n 0, 1) := dq_42 (by decide +kernel)
theorem dX3_passSound_0 : decode cX3_passSound 0 = .ok (.aload_n 0, 1) := dq_42 (by decide +kernel)
theorem dX3_passSound_1 : decode cX3_passSound 1 = .ok (.iload_n 1, 1) := dq_27 (by decide +kernel)
theorem dX3_passSound_10 : decode cX3_passSound 10 = .ok (.getfield 18, 3) := dq_180 (b1 := 0) (b2 := 18) (by decide +kernel) (by decide)
theorem dX3_passSound_13 : decode cX3_passSound 13 = .ok (.iload_n 1, 1) := dq_27 (by decide +kernel)
theorem dX3_passSound_14 : decode cX3_passSound 14 = .ok (.iaload, 1) := dq_46 (by decide +kernel)
theorem dX3_passSound_15 : decode cX3_passSound 15 = .ok (.aload_n 0, 1) := dq_42 (by decide +kernel)
theorem dX3_passSound_16 : decode cX3_passSound 16 = .ok (.iload_n 1, 1) := dq_27 (by decide +kernel)
theorem dX3_passSound_17 : decode cX3_passSound 17 = .ok (.iload_n 2, 1) := dq_28 (by decide +kernel)
theorem dX3_passSound_18 : decode cX3_passSound 18 = .ok (.invokevirtual 69, 3) := dq_182 (b1 := 0) (b2 := 69) (by decide +kernel) (by decide)
theorem dX3_passSound_2 : decode cX3_passSound 2 = .ok (.invokevirtual 58, 3) := dq_182 (b1 := 0) (b2 := 58) (by decide +kernel) (by decide)
theorem dX3_passSound_21 : decode cX3_passSound 21 = .ok (.iadd, 1) := dq_96 (by decide +kernel)
theorem dX3_passSound_22 : decode cX3_passSound 22 = .ok (.istore_n 3, 1) := dq_62 (by decide +kernel)
theorem dX3_passSound_23 : decode cX3_passSound 23 = .ok (.aload_n 0, 1) := dq_42 (by decide +kernel)
theorem dX3_passSound_24 : decode cX3_passSound 24 = .ok (.iload_n 1, 1) := dq_27 (by decide +kernel)
theorem dX3_passSound_25 : decode cX3_passSound 25 = .ok (.invokevirtual 72, 3) := dq_182 (b1 := 0) (b2 := 72) (by decide +kernel) (by decide)
theorem dX3_passSound_28 : decode cX3_passSound 28 = .ok (.istore 4, 2) := dq_54 (b1 := 4) (by decide +kernel) (by decide)
theorem dX3_passSound_30 : decode cX3_passSound 30 = .ok (.aload_n 0, 1) := dq_42 (by decide +kernel)
theorem dX3_passSound_31 : decode cX3_passSound 31 = .ok (.iload_n 3, 1) := dq_29 (by decide +kernel)
theorem dX3_passSound_32 : decode cX3_passSound 32 = .ok (.invokevirtual 76, 3) := dq_182 (b1 := 0) (b2 := 76) (by decide +kernel) (by decide)
theorem dX3_passSound_35 : decode cX3_passSound 35 = .ok (.ifCond .eq 8, 3) := dq_153 (b1 := 0) (b2 := 8) (by decide +kernel) (by decide)
theorem dX3_passSound_38 : decode cX3_passSound 38 = .ok (.iload 4, 2) := dq_21 (b1 := 4) (by decide +kernel) (by decide)
theorem dX3_passSound_40 : decode cX3_passSound 40 = .ok (.ifCond .gt 11, 3) := dq_157 (b1 := 0) (b2 := 11) (by decide +kernel) (by decide)
theorem dX3_passSound_43 : decode cX3_passSound 43 = .ok (.aload_n 0, 1) := dq_42 (by decide +kernel)
theorem dX3_passSound_44 : decode cX3_passSound 44 = .ok (.getfield 24, 3) := dq_180 (b1 := 0) (b2 := 24) (by decide +kernel) (by decide)
theorem dX3_passSound_47 : decode cX3_passSound 47 = .ok (.iload_n 1, 1) := dq_27 (by decide +kernel)
theorem dX3_passSound_48 : decode cX3_passSound 48 = .ok (.iconst 2, 1) := dq_5 (by decide +kernel)
theorem dX3_passSound_49 : decode cX3_passSound 49 = .ok (.iastore, 1) := dq_79 (by decide +kernel)
theorem dX3_passSound_5 : decode cX3_passSound 5 = .ok (.ifCond .ne 4, 3) := dq_154 (b1 := 0) (b2 := 4) (by decide +kernel) (by decide)
theorem dX3_passSound_50 : decode cX3_passSound 50 = .ok (.return_, 1) := dq_177 (by decide +kernel)
theorem dX3_passSound_51 : decode cX3_passSound 51 = .ok (.aload_n 0, 1) := dq_42 (by decide +kernel)
theorem dX3_passSound_52 : decode cX3_passSound 52 = .ok (.iload_n 1, 1) := dq_27 (by decide +kernel)
theorem dX3_passSound_53 : decode cX3_passSound 53 = .ok (.iload_n 3, 1) := dq_29 (by decide +kernel)
theorem dX3_passSound_54 : decode cX3_passSound 54 = .ok (.iload 4, 2) := dq_21 (b1 := 4) (by decide +kernel) (by decide)
theorem dX3_passSound_56 : decode cX3_passSound 56 = .ok (.invokevirtual 79, 3) := dq_182 (b1 := 0) (b2 := 79) (by decide +kernel) (by decide)
theorem dX3_passSound_59 : decode cX3_passSound 59 = .ok (.aload_n 0, 1) := dq_42 (by decide +kernel)
theorem dX3_passSound_60 : decode cX3_passSound 60 = .ok (.iload_n 3, 1) := dq_29 (by decide +kernel)
theorem dX3_passSound_61 : decode cX3_passSound 61 = .ok (.iload_n 2, 1) := dq_28 (by decide +kernel)
theorem dX3_passSound_62 : decode cX3_passSound 62 = .ok (.invokevirtual 83, 3) := dq_182 (b1 := 0) (b2 := 83) (by decide +kernel) (by decide)
theorem dX3_passSound_65 : decode cX3_passSound 65 = .ok (.ifCond .eq 27, 3) := dq_153 (b1 := 0) (b2 := 27) (by decide +kernel) (by decide)
theorem dX3_passSound_68 : decode cX3_passSound 68 = .ok (.aload_n 0, 1) := dq_42 (by decide +kernel)
theorem dX3_passSound_69 : decode cX3_passSound 69 = .ok (.getfield 24, 3) := dq_180 (b1 := 0) (b2 := 24) (by decide +kernel) (by decide)
theorem dX3_passSound_72 : decode cX3_passSound 72 = .ok (.iload_n 1, 1) := dq_27 (by decide +kernel)
theorem dX3_passSound_73 : decode cX3_passSound 73 = .ok (.iconst 1, 1) := dq_4 (by decide +kernel)
theorem dX3_passSound_74 : decode cX3_passSound 74 = .ok (.iastore, 1) := dq_79 (by decide +kernel)
theorem dX3_passSound_75 : decode cX3_passSound 75 = .ok (.aload_n 0, 1) := dq_42 (by decide +kernel)
theorem dX3_passSound_76 : decode cX3_passSound 76 = .ok (.aload_n 0, 1) := dq_42 (by decide +kernel)
theorem dX3_passSound_77 : decode cX3_passSound 77 = .ok (.getfield 43, 3) := dq_180 (b1 := 0) (b2 := 43) (by decide +kernel) (by decide)
theorem dX3_passSound_8 : decode cX3_passSound 8 = .ok (.return_, 1) := dq_177 (by decide +kernel)
theorem dX3_passSound_80 : decode cX3_passSound 80 = .ok (.iload 4, 2) := dq_21 (b1 := 4) (by decide +kernel) (by decide)
theorem dX3_passSound_82 : decode cX3_passSound 82 = .ok (.iadd, 1) := dq_96 (by decide +kernel)
theorem dX3_passSound_83 : decode cX3_passSound 83 = .ok (.sipush 999, 3) := dq_17 (b1 := 3) (b2 := 231) (by decide +kernel) (by decide)
theorem dX3_passSound_86 : decode cX3_passSound 86 = .ok (.invokestatic 63, 3) := dq_184 (b1 := 0) (b2 := 63) (by decide +kernel) (by decide)
theorem dX3_passSound_89 : decode cX3_passSound 89 = .ok (.putfield 43, 3) := dq_181 (b1 := 0) (b2 := 43) (by decide +kernel) (by decide)
theorem dX3_passSound_9 : decode cX3_passSound 9 = .ok (.aload_n 0, 1) := dq_42 (by decide +kernel)
theorem dX3_passSound_92 : decode cX3_passSound 92 = .ok (.return_, 1) := dq_177 (by decide +kernel)
theorem dX3_pass_0 : decode cX3_pass 0 = .ok (.aload_n 0, 1) := dq_42 (by decide +kernel)
theorem dX3_pass_1 : decode cX3_pass 1 = .ok (.iconst 0, 1) := dq_3 (by decide +kernel)
theorem dX3_pass_10 : decode cX3_pass 10 = .ok (.getfield 49, 3) := dq_180 (b1 := 0) (b2 := 49) (by decide +kernel) (by decide)
theorem dX3_pass_13 : decode cX3_pass 13 = .ok (.if_icmp .ge 15, 3) := dq_162 (b1 := 0) (b2 := 15) (by decide +kernel) (by decide)
theorem dX3_pass_16 : decode cX3_pass 16 = .ok (.aload_n 0, 1) := dq_42 (by decide +kernel)
theorem dX3_pass_17 : decode cX3_pass 17 = .ok (.iload_n 2, 1) := dq_28 (by decide +kernel)
theorem dX3_pass_18 : decode cX3_pass 18 = .ok (.iload_n 1, 1) := dq_27 (by decide +kernel)
theorem dX3_pass_19 : decode cX3_pass 19 = .ok (.invokevirtual 90, 3) := dq_182 (b1 := 0) (b2 := 90) (by decide +kernel) (by decide)
theorem dX3_pass_2 : decode cX3_pass 2 = .ok (.invokevirtual 87, 3) := dq_182 (b1 := 0) (b2 := 87) (by decide +kernel) (by decide)
theorem dX3_pass_22 : decode cX3_pass 22 = .ok (.iinc 2 1, 3) := dq_132 (b1 := 2) (b2 := 1) (by decide +kernel) (by decide) (by decide)
theorem dX3_pass_25 : decode cX3_pass 25 = .ok (.goto (-17), 3) := dq_167 (b1 := 255) (b2 := 239) (by decide +kernel) (by decide)
theorem dX3_pass_28 : decode cX3_pass 28 = .ok (.aload_n 0, 1) := dq_42 (by decide +kernel)
theorem dX3_pass_29 : decode cX3_pass 29 = .ok (.dup, 1) := dq_89 (by decide +kernel)
theorem dX3_pass_30 : decode cX3_pass 30 = .ok (.getfield 40, 3) := dq_180 (b1 := 0) (b2 := 40) (by decide +kernel) (by decide)
theorem dX3_pass_33 : decode cX3_pass 33 = .ok (.iconst 1, 1) := dq_4 (by decide +kernel)
theorem dX3_pass_34 : decode cX3_pass 34 = .ok (.iadd, 1) := dq_96 (by decide +kernel)
theorem dX3_pass_35 : decode cX3_pass 35 = .ok (.putfield 40, 3) := dq_181 (b1 := 0) (b2 := 40) (by decide +kernel) (by decide)
theorem dX3_pass_38 : decode cX3_pass 38 = .ok (.return_, 1) := dq_177 (by decide +kernel)
theorem dX3_pass_5 : decode cX3_pass 5 = .ok (.istore_n 1, 1) := dq_60 (by decide +kernel)
theorem dX3_pass_6 : decode cX3_pass 6 = .ok (.iconst 0, 1) := dq_3 (by decide +kernel)
theorem dX3_pass_7 : decode cX3_pass 7 = .ok (.istore_n 2, 1) := dq_61 (by decide +kernel)
theorem dX3_pass_8 : decode cX3_pass 8 = .ok (.iload_n 2, 1) := dq_28 (by decide +kernel)
theorem dX3_pass_9 : decode cX3_pass 9 = .ok (.aload_n 0, 1) := dq_42 (by decide +kernel)
theorem dX3_soundsThatAre_0 : decode cX3_soundsThatAre 0 = .ok (.iconst 0, 1) := dq_3 (by decide +kernel)
theorem dX3_soundsThatAre_1 : decode cX3_soundsThatAre 1 = .ok (.istore_n 2, 1) := dq_61 (by decide +kernel)
theorem dX3_soundsThatAre_12 : decode cX3_soundsThatAre 12 = .ok (.iload_n 2, 1) := dq_28 (by decide +kernel)
theorem dX3_soundsThatAre_13 : decode cX3_soundsThatAre 13 = .ok (.aload_n 0, 1) := dq_42 (by decide +kernel)
theorem dX3_soundsThatAre_14 : decode cX3_soundsThatAre 14 = .ok (.getfield 24, 3) := dq_180 (b1 := 0) (b2 := 24) (by decide +kernel) (by decide)
theorem dX3_soundsThatAre_17 : decode cX3_soundsThatAre 17 = .ok (.iload_n 3, 1) := dq_29 (by decide +kernel)
theorem dX3_soundsThatAre_18 : decode cX3_soundsThatAre 18 = .ok (.iaload, 1) := dq_46 (by decide +kernel)
theorem dX3_soundsThatAre_19 : decode cX3_soundsThatAre 19 = .ok (.iload_n 1, 1) := dq_27 (by decide +kernel)
theorem dX3_soundsThatAre_2 : decode cX3_soundsThatAre 2 = .ok (.iconst 0, 1) := dq_3 (by decide +kernel)
theorem dX3_soundsThatAre_20 : decode cX3_soundsThatAre 20 = .ok (.if_icmp .ne 9, 3) := dq_160 (b1 := 0) (b2 := 9) (by decide +kernel) (by decide)
theorem dX3_soundsThatAre_23 : decode cX3_soundsThatAre 23 = .ok (.iconst 1, 1) := dq_4 (by decide +kernel)
theorem dX3_soundsThatAre_24 : decode cX3_soundsThatAre 24 = .ok (.iload_n 3, 1) := dq_29 (by decide +kernel)
theorem dX3_soundsThatAre_25 : decode cX3_soundsThatAre 25 = .ok (.ishl, 1) := dq_120 (by decide +kernel)
theorem dX3_soundsThatAre_26 : decode cX3_soundsThatAre 26 = .ok (.goto 4, 3) := dq_167 (b1 := 0) (b2 := 4) (by decide +kernel) (by decide)
theorem dX3_soundsThatAre_29 : decode cX3_soundsThatAre 29 = .ok (.iconst 0, 1) := dq_3 (by decide +kernel)
theorem dX3_soundsThatAre_3 : decode cX3_soundsThatAre 3 = .ok (.istore_n 3, 1) := dq_62 (by decide +kernel)
theorem dX3_soundsThatAre_30 : decode cX3_soundsThatAre 30 = .ok (.ior, 1) := dq_128 (by decide +kernel)
theorem dX3_soundsThatAre_31 : decode cX3_soundsThatAre 31 = .ok (.istore_n 2, 1) := dq_61 (by decide +kernel)
theorem dX3_soundsThatAre_32 : decode cX3_soundsThatAre 32 = .ok (.iinc 3 1, 3) := dq_132 (b1 := 3) (b2 := 1) (by decide +kernel) (by decide) (by decide)
theorem dX3_soundsThatAre_35 : decode cX3_soundsThatAre 35 = .ok (.goto (-31), 3) := dq_167 (b1 := 255) (b2 := 225) (by decide +kernel) (by decide)
theorem dX3_soundsThatAre_38 : decode cX3_soundsThatAre 38 = .ok (.iload_n 2, 1) := dq_28 (by decide +kernel)
theorem dX3_soundsThatAre_39 : decode cX3_soundsThatAre 39 = .ok (.ireturn, 1) := dq_172 (by decide +kernel)
theorem dX3_soundsThatAre_4 : decode cX3_soundsThatAre 4 = .ok (.iload_n 3, 1) := dq_29 (by decide +kernel)
theorem dX3_soundsThatAre_5 : decode cX3_soundsThatAre 5 = .ok (.aload_n 0, 1) := dq_42 (by decide +kernel)
theorem dX3_soundsThatAre_6 : decode cX3_soundsThatAre 6 = .ok (.getfield 49, 3) := dq_180 (b1 := 0) (b2 := 49) (by decide +kernel) (by decide)
theorem dX3_soundsThatAre_9 : decode cX3_soundsThatAre 9 = .ok (.if_icmp .ge 29, 3) := dq_162 (b1 := 0) (b2 := 29) (by decide +kernel) (by decide)
theorem dX3_tellOf_0 : decode cX3_tellOf 0 = .ok (.iload_n 2, 1) := dq_28 (by decide +kernel)
theorem dX3_tellOf_1 : decode cX3_tellOf 1 = .ok (.ifCond .ne 23, 3) := dq_154 (b1 := 0) (b2 := 23) (by decide +kernel) (by decide)
theorem dX3_tellOf_12 : decode cX3_tellOf 12 = .ok (.aload_n 0, 1) := dq_42 (by decide +kernel)
theorem dX3_tellOf_13 : decode cX3_tellOf 13 = .ok (.getfield 18, 3) := dq_180 (b1 := 0) (b2 := 18) (by decide +kernel) (by decide)
theorem dX3_tellOf_16 : decode cX3_tellOf 16 = .ok (.iload_n 1, 1) := dq_27 (by decide +kernel)
theorem dX3_tellOf_17 : decode cX3_tellOf 17 = .ok (.iaload, 1) := dq_46 (by decide +kernel)
theorem dX3_tellOf_18 : decode cX3_tellOf 18 = .ok (.goto 5, 3) := dq_167 (b1 := 0) (b2 := 5) (by decide +kernel) (by decide)
theorem dX3_tellOf_21 : decode cX3_tellOf 21 = .ok (.ldc 62, 2) := dq_18 (b1 := 62) (by decide +kernel) (by decide)
theorem dX3_tellOf_23 : decode cX3_tellOf 23 = .ok (.ireturn, 1) := dq_172 (by decide +kernel)
theorem dX3_tellOf_24 : decode cX3_tellOf 24 = .ok (.iload_n 2, 1) := dq_28 (by decide +kernel)
theorem dX3_tellOf_25 : decode cX3_tellOf 25 = .ok (.iconst 1, 1) := dq_4 (by decide +kernel)
theorem dX3_tellOf_26 : decode cX3_tellOf 26 = .ok (.if_icmp .ne 12, 3) := dq_160 (b1 := 0) (b2 := 12) (by decide +kernel) (by decide)
theorem dX3_tellOf_29 : decode cX3_tellOf 29 = .ok (.aload_n 0, 1) := dq_42 (by decide +kernel)
theorem dX3_tellOf_30 : decode cX3_tellOf 30 = .ok (.getfield 24, 3) := dq_180 (b1 := 0) (b2 := 24) (by decide +kernel) (by decide)
theorem dX3_tellOf_33 : decode cX3_tellOf 33 = .ok (.iload_n 1, 1) := dq_27 (by decide +kernel)
theorem dX3_tellOf_34 : decode cX3_tellOf 34 = .ok (.iaload, 1) := dq_46 (by decide +kernel)
theorem dX3_tellOf_35 : decode cX3_tellOf 35 = .ok (.goto 9, 3) := dq_167 (b1 := 0) (b2 := 9) (by decide +kernel) (by decide)
theorem dX3_tellOf_38 : decode cX3_tellOf 38 = .ok (.aload_n 0, 1) := dq_42 (by decide +kernel)
theorem dX3_tellOf_39 : decode cX3_tellOf 39 = .ok (.getfield 21, 3) := dq_180 (b1 := 0) (b2 := 21) (by decide +kernel) (by decide)
theorem dX3_tellOf_4 : decode cX3_tellOf 4 = .ok (.aload_n 0, 1) := dq_42 (by decide +kernel)
theorem dX3_tellOf_42 : decode cX3_tellOf 42 = .ok (.iload_n 1, 1) := dq_27 (by decide +kernel)
theorem dX3_tellOf_43 : decode cX3_tellOf 43 = .ok (.iaload, 1) := dq_46 (by decide +kernel)
theorem dX3_tellOf_44 : decode cX3_tellOf 44 = .ok (.ireturn, 1) := dq_172 (by decide +kernel)
theorem dX3_tellOf_5 : decode cX3_tellOf 5 = .ok (.iload_n 1, 1) := dq_27 (by decide +kernel)
theorem dX3_tellOf_6 : decode cX3_tellOf 6 = .ok (.invokevirtual 58, 3) := dq_182 (b1 := 0) (b2 := 58) (by decide +kernel) (by decide)
theorem dX3_tellOf_9 : decode cX3_tellOf 9 = .ok (.ifCond .eq 12, 3) := dq_153 (b1 := 0) (b2 := 12) (by decide +kernel) (by decide)
theorem dX3_turnCap_0 : decode cX3_turnCap 0 = .ok (.aload_n 0, 1) := dq_42 (by decide +kernel)
theorem dX3_turnCap_1 : decode cX3_turnCap 1 = .ok (.iconst 1, 1) := dq_4 (by decide +kernel)
theorem dX3_turnCap_10 : decode cX3_turnCap 10 = .ok (.return_, 1) := dq_177 (by decide +kernel)
theorem dX3_turnCap_2 : decode cX3_turnCap 2 = .ok (.aload_n 0, 1) := dq_42 (by decide +kernel)
theorem dX3_turnCap_3 : decode cX3_turnCap 3 = .ok (.getfield 37, 3) := dq_180 (b1 := 0) (b2 := 37) (by decide +kernel) (by decide)
theorem dX3_turnCap_6 : decode cX3_turnCap 6 = .ok (.isub, 1) := dq_100 (by decide +kernel)
theorem dX3_turnCap_7 : decode cX3_turnCap 7 = .ok (.putfield 37, 3) := dq_181 (b1 := 0) (b2 := 37) (by decide +kernel) (by decide)
theorem dX3_turnWind_0 : decode cX3_turnWind 0 = .ok (.aload_n 0, 1) := dq_42 (by decide +kernel)
theorem dX3_turnWind_1 : decode cX3_turnWind 1 = .ok (.getfield 46, 3) := dq_180 (b1 := 0) (b2 := 46) (by decide +kernel) (by decide)
theorem dX3_turnWind_11 : decode cX3_turnWind 11 = .ok (.aload_n 0, 1) := dq_42 (by decide +kernel)
theorem dX3_turnWind_12 : decode cX3_turnWind 12 = .ok (.getfield 46, 3) := dq_180 (b1 := 0) (b2 := 46) (by decide +kernel) (by decide)
theorem dX3_turnWind_15 : decode cX3_turnWind 15 = .ok (.irem, 1) := dq_112 (by decide +kernel)
theorem dX3_turnWind_16 : decode cX3_turnWind 16 = .ok (.istore_n 1, 1) := dq_60 (by decide +kernel)
theorem dX3_turnWind_17 : decode cX3_turnWind 17 = .ok (.aload_n 0, 1) := dq_42 (by decide +kernel)
theorem dX3_turnWind_18 : decode cX3_turnWind 18 = .ok (.getfield 9, 3) := dq_180 (b1 := 0) (b2 := 9) (by decide +kernel) (by decide)
theorem dX3_turnWind_21 : decode cX3_turnWind 21 = .ok (.iload_n 1, 1) := dq_27 (by decide +kernel)
theorem dX3_turnWind_22 : decode cX3_turnWind 22 = .ok (.iconst 4, 1) := dq_7 (by decide +kernel)
theorem dX3_turnWind_23 : decode cX3_turnWind 23 = .ok (.aload_n 0, 1) := dq_42 (by decide +kernel)
theorem dX3_turnWind_24 : decode cX3_turnWind 24 = .ok (.getfield 9, 3) := dq_180 (b1 := 0) (b2 := 9) (by decide +kernel) (by decide)
theorem dX3_turnWind_27 : decode cX3_turnWind 27 = .ok (.iload_n 1, 1) := dq_27 (by decide +kernel)
theorem dX3_turnWind_28 : decode cX3_turnWind 28 = .ok (.iaload, 1) := dq_46 (by decide +kernel)
theorem dX3_turnWind_29 : decode cX3_turnWind 29 = .ok (.isub, 1) := dq_100 (by decide +kernel)
theorem dX3_turnWind_30 : decode cX3_turnWind 30 = .ok (.iastore, 1) := dq_79 (by decide +kernel)
theorem dX3_turnWind_31 : decode cX3_turnWind 31 = .ok (.return_, 1) := dq_177 (by decide +kernel)
theorem dX3_turnWind_4 : decode cX3_turnWind 4 = .ok (.ifCond .le 27, 3) := dq_158 (b1 := 0) (b2 := 27) (by decide +kernel) (by decide)
theorem dX3_turnWind_7 : decode cX3_turnWind 7 = .ok (.aload_n 0, 1) := dq_42 (by decide +kernel)
theorem dX3_turnWind_8 : decode cX3_turnWind 8 = .ok (.getfield 40, 3) := dq_180 (b1 := 0) (b2 := 40) (by decide +kernel) (by decide)
theorem dX3_windOn_0 : decode cX3_windOn 0 = .ok (.aload_n 0, 1) := dq_42 (by decide +kernel)
theorem dX3_windOn_1 : decode cX3_windOn 1 = .ok (.getfield 46, 3) := dq_180 (b1 := 0) (b2 := 46) (by decide +kernel) (by decide)
theorem dX3_windOn_11 : decode cX3_windOn 11 = .ok (.aload_n 0, 1) := dq_42 (by decide +kernel)
theorem dX3_windOn_12 : decode cX3_windOn 12 = .ok (.getfield 9, 3) := dq_180 (b1 := 0) (b2 := 9) (by decide +kernel) (by decide)
theorem dX3_windOn_15 : decode cX3_windOn 15 = .ok (.aload_n 0, 1) := dq_42 (by decide +kernel)
theorem dX3_windOn_16 : decode cX3_windOn 16 = .ok (.getfield 40, 3) := dq_180 (b1 := 0) (b2 := 40) (by decide +kernel) (by decide)
theorem dX3_windOn_19 : decode cX3_windOn 19 = .ok (.iload_n 1, 1) := dq_27 (by decide +kernel)
theorem dX3_windOn_20 : decode cX3_windOn 20 = .ok (.iadd, 1) := dq_96 (by decide +kernel)
theorem dX3_windOn_21 : decode cX3_windOn 21 = .ok (.aload_n 0, 1) := dq_42 (by decide +kernel)
theorem dX3_windOn_22 : decode cX3_windOn 22 = .ok (.getfield 46, 3) := dq_180 (b1 := 0) (b2 := 46) (by decide +kernel) (by decide)
theorem dX3_windOn_25 : decode cX3_windOn 25 = .ok (.irem, 1) := dq_112 (by decide +kernel)
theorem dX3_windOn_26 : decode cX3_windOn 26 = .ok (.iaload, 1) := dq_46 (by decide +kernel)
theorem dX3_windOn_27 : decode cX3_windOn 27 = .ok (.ireturn, 1) := dq_172 (by decide +kernel)
theorem dX3_windOn_4 : decode cX3_windOn 4 = .ok (.ifCond .gt 7, 3) := dq_157 (b1 := 0) (b2 := 7) (by decide +kernel) (by decide)
theorem dX3_windOn_7 : decode cX3_windOn 7 = .ok (.iconst 2, 1) := dq_5 (by decide +kernel)
theorem dX3_windOn_8 : decode cX3_windOn 8 = .ok (.goto 19, 3) := dq_167 (b1 := 0) (b2 := 19) (by decide +kernel) (by decide)
theorem mb_X3_mealBehind_wsX3_mealBehind_r1 {w : Cond} (h : w ∈ wsX3_mealBehind_r1) : w ∈ wsX3_mealBehind := by unfold wsX3_mealBehind; exact List.mem_cons_of_mem _ (List.mem_append_left _ (List.mem_append_left _ (h)))
theorem mx_X3_mealBehind_6 : Cond.code yX3_pass cX3_pass 3 none ∈ wsX3_mealBehind := mb_X3_mealBehind_wsX3_mealBehind_r1 (List.mem_of_getElem? (i := 5) rfl)
theorem mx_X3_mealBehind_7 : Cond.fieldLink RX3 49 "MillTalk$Level" "soundCount" "I" ∈ wsX3_mealBehind := mb_X3_mealBehind_wsX3_mealBehind_r1 (List.mem_of_getElem? (i := 6) rfl)
theorem mx_X3_mealBehind_8 : Cond.fieldLink RX3 40 "MillTalk$Level" "hour" "I" ∈ wsX3_mealBehind := mb_X3_mealBehind_wsX3_mealBehind_r1 (List.mem_of_getElem? (i := 7) rfl)
theorem mx_X3_mealBehind_9 : Cond.methodLink RX3 87 yX3_windOn ∈ wsX3_mealBehind := mb_X3_mealBehind_wsX3_mealBehind_r1 (List.mem_of_getElem? (i := 8) rfl)
theorem mx_X3_mealBehind_10 : Cond.instanceMethod yX3_windOn ∈ wsX3_mealBehind := mb_X3_mealBehind_wsX3_mealBehind_r1 (List.mem_of_getElem? (i := 9) rfl)
theorem mx_X3_mealBehind_11 : Cond.selects RX3 yX3_windOn yX3_windOn ∈ wsX3_mealBehind := mb_X3_mealBehind_wsX3_mealBehind_r1 (List.mem_of_getElem? (i := 10) rfl)
theorem mx_X3_mealBehind_5 : Cond.initialized RX3 ∈ wsX3_mealBehind := mb_X3_mealBehind_wsX3_mealBehind_r1 (List.mem_of_getElem? (i := 4) rfl)
theorem mx_X3_mealBehind_12 : Cond.code yX3_windOn cX3_windOn 2 (some .int) ∈ wsX3_mealBehind := mb_X3_mealBehind_wsX3_mealBehind_r1 (List.mem_of_getElem? (i := 11) rfl)
theorem mx_X3_mealBehind_13 : Cond.fieldLink RX3 46 "MillTalk$Level" "windCount" "I" ∈ wsX3_mealBehind := mb_X3_mealBehind_wsX3_mealBehind_r1 (List.mem_of_getElem? (i := 12) rfl)
theorem mx_X3_mealBehind_14 : Cond.fieldLink RX3 9 "MillTalk$Level" "winds" "[I" ∈ wsX3_mealBehind := mb_X3_mealBehind_wsX3_mealBehind_r1 (List.mem_of_getElem? (i := 13) rfl)
theorem mx_X3_mealBehind_15 : Cond.methodLink RX3 90 yX3_passSound ∈ wsX3_mealBehind := mb_X3_mealBehind_wsX3_mealBehind_r1 (List.mem_of_getElem? (i := 14) rfl)
theorem mx_X3_mealBehind_16 : Cond.instanceMethod yX3_passSound ∈ wsX3_mealBehind := mb_X3_mealBehind_wsX3_mealBehind_r1 (List.mem_of_getElem? (i := 15) rfl)
theorem mx_X3_mealBehind_17 : Cond.selects RX3 yX3_passSound yX3_passSound ∈ wsX3_mealBehind := mb_X3_mealBehind_wsX3_mealBehind_r1 (List.mem_of_getElem? (i := 16) rfl)
theorem mx_X3_mealBehind_18 : Cond.code yX3_passSound cX3_passSound 5 none ∈ wsX3_mealBehind := mb_X3_mealBehind_wsX3_mealBehind_r1 (List.mem_of_getElem? (i := 17) rfl)
theorem mx_X3_mealBehind_19 : Cond.fieldLink RX3 18 "MillTalk$Level" "places" "[I" ∈ wsX3_mealBehind := mb_X3_mealBehind_wsX3_mealBehind_r1 (List.mem_of_getElem? (i := 18) rfl)
theorem mx_X3_mealBehind_20 : Cond.fieldLink RX3 24 "MillTalk$Level" "hows" "[I" ∈ wsX3_mealBehind := mb_X3_mealBehind_wsX3_mealBehind_r1 (List.mem_of_getElem? (i := 19) rfl)
theorem mx_X3_mealBehind_1 : Cond.fieldLink RX3 43 "MillTalk$Level" "meal" "I" ∈ wsX3_mealBehind := mb_X3_mealBehind_wsX3_mealBehind_r1 (List.mem_of_getElem? (i := 0) rfl)
theorem mx_X3_mealBehind_21 : Cond.methodLink RX3 63 Lib.Math.min.name ∈ wsX3_mealBehind := mb_X3_mealBehind_wsX3_mealBehind_r1 (List.mem_of_getElem? (i := 20) rfl)
theorem mx_X3_mealBehind_22 : Cond.static Lib.Math.min.name ∈ wsX3_mealBehind := mb_X3_mealBehind_wsX3_mealBehind_r1 (List.mem_of_getElem? (i := 21) rfl)
theorem mx_X3_mealBehind_23 : Cond.initialized "java/lang/Math" ∈ wsX3_mealBehind := mb_X3_mealBehind_wsX3_mealBehind_r1 (List.mem_of_getElem? (i := 22) rfl)
theorem mx_X3_mealBehind_24 : Cond.code Lib.Math.min.name Lib.Math.min.code 2 (some .int) ∈ wsX3_mealBehind := mb_X3_mealBehind_wsX3_mealBehind_r1 (List.mem_of_getElem? (i := 23) rfl)
theorem mb_X3_mealBehind_wsX3_mealBehind_r2 {w : Cond} (h : w ∈ wsX3_mealBehind_r2) : w ∈ wsX3_mealBehind := by unfold wsX3_mealBehind; exact List.mem_cons_of_mem _ (List.mem_append_left _ (List.mem_append_right _ (List.mem_append_left _ (h))))
theorem mx_X3_mealBehind_25 : Cond.methodLink RX3 58 yX3_isLoose ∈ wsX3_mealBehind := mb_X3_mealBehind_wsX3_mealBehind_r2 (List.mem_of_getElem? (i := 0) rfl)
theorem mx_X3_mealBehind_26 : Cond.instanceMethod yX3_isLoose ∈ wsX3_mealBehind := mb_X3_mealBehind_wsX3_mealBehind_r2 (List.mem_of_getElem? (i := 1) rfl)
theorem mx_X3_mealBehind_27 : Cond.selects RX3 yX3_isLoose yX3_isLoose ∈ wsX3_mealBehind := mb_X3_mealBehind_wsX3_mealBehind_r2 (List.mem_of_getElem? (i := 2) rfl)
theorem mx_X3_mealBehind_28 : Cond.code yX3_isLoose cX3_isLoose 2 (some .boolean) ∈ wsX3_mealBehind := mb_X3_mealBehind_wsX3_mealBehind_r2 (List.mem_of_getElem? (i := 3) rfl)
theorem mx_X3_mealBehind_29 : Cond.methodLink RX3 69 yX3_driftOf ∈ wsX3_mealBehind := mb_X3_mealBehind_wsX3_mealBehind_r2 (List.mem_of_getElem? (i := 4) rfl)
theorem mx_X3_mealBehind_30 : Cond.instanceMethod yX3_driftOf ∈ wsX3_mealBehind := mb_X3_mealBehind_wsX3_mealBehind_r2 (List.mem_of_getElem? (i := 5) rfl)
theorem mx_X3_mealBehind_31 : Cond.selects RX3 yX3_driftOf yX3_driftOf ∈ wsX3_mealBehind := mb_X3_mealBehind_wsX3_mealBehind_r2 (List.mem_of_getElem? (i := 6) rfl)
theorem mx_X3_mealBehind_32 : Cond.code yX3_driftOf cX3_driftOf 4 (some .int) ∈ wsX3_mealBehind := mb_X3_mealBehind_wsX3_mealBehind_r2 (List.mem_of_getElem? (i := 7) rfl)
theorem mx_X3_mealBehind_33 : Cond.fieldLink RX3 15 "MillTalk$Level" "kinds" "[I" ∈ wsX3_mealBehind := mb_X3_mealBehind_wsX3_mealBehind_r2 (List.mem_of_getElem? (i := 8) rfl)
theorem mx_X3_mealBehind_34 : Cond.methodLink RX3 72 yX3_loudBehindHour ∈ wsX3_mealBehind := mb_X3_mealBehind_wsX3_mealBehind_r2 (List.mem_of_getElem? (i := 9) rfl)
theorem mx_X3_mealBehind_35 : Cond.instanceMethod yX3_loudBehindHour ∈ wsX3_mealBehind := mb_X3_mealBehind_wsX3_mealBehind_r2 (List.mem_of_getElem? (i := 10) rfl)
theorem mx_X3_mealBehind_36 : Cond.selects RX3 yX3_loudBehindHour yX3_loudBehindHour ∈ wsX3_mealBehind := mb_X3_mealBehind_wsX3_mealBehind_r2 (List.mem_of_getElem? (i := 11) rfl)
theorem mx_X3_mealBehind_37 : Cond.code yX3_loudBehindHour cX3_loudBehindHour 2 (some .int) ∈ wsX3_mealBehind := mb_X3_mealBehind_wsX3_mealBehind_r2 (List.mem_of_getElem? (i := 12) rfl)
theorem mx_X3_mealBehind_38 : Cond.fieldLink RX3 21 "MillTalk$Level" "louds" "[I" ∈ wsX3_mealBehind := mb_X3_mealBehind_wsX3_mealBehind_r2 (List.mem_of_getElem? (i := 13) rfl)
theorem mx_X3_mealBehind_39 : Cond.methodLink RX3 76 yX3_hasCell ∈ wsX3_mealBehind := mb_X3_mealBehind_wsX3_mealBehind_r2 (List.mem_of_getElem? (i := 14) rfl)
theorem mx_X3_mealBehind_40 : Cond.instanceMethod yX3_hasCell ∈ wsX3_mealBehind := mb_X3_mealBehind_wsX3_mealBehind_r2 (List.mem_of_getElem? (i := 15) rfl)
theorem mx_X3_mealBehind_41 : Cond.selects RX3 yX3_hasCell yX3_hasCell ∈ wsX3_mealBehind := mb_X3_mealBehind_wsX3_mealBehind_r2 (List.mem_of_getElem? (i := 16) rfl)
theorem mx_X3_mealBehind_42 : Cond.code yX3_hasCell cX3_hasCell 2 (some .boolean) ∈ wsX3_mealBehind := mb_X3_mealBehind_wsX3_mealBehind_r2 (List.mem_of_getElem? (i := 17) rfl)
theorem mx_X3_mealBehind_43 : Cond.fieldLink RX3 27 "MillTalk$Level" "cells" "I" ∈ wsX3_mealBehind := mb_X3_mealBehind_wsX3_mealBehind_r2 (List.mem_of_getElem? (i := 18) rfl)
theorem mx_X3_mealBehind_44 : Cond.methodLink RX3 79 yX3_letLoose ∈ wsX3_mealBehind := mb_X3_mealBehind_wsX3_mealBehind_r2 (List.mem_of_getElem? (i := 19) rfl)
theorem mx_X3_mealBehind_45 : Cond.instanceMethod yX3_letLoose ∈ wsX3_mealBehind := mb_X3_mealBehind_wsX3_mealBehind_r2 (List.mem_of_getElem? (i := 20) rfl)
theorem mx_X3_mealBehind_46 : Cond.selects RX3 yX3_letLoose yX3_letLoose ∈ wsX3_mealBehind := mb_X3_mealBehind_wsX3_mealBehind_r2 (List.mem_of_getElem? (i := 21) rfl)
theorem mx_X3_mealBehind_47 : Cond.code yX3_letLoose cX3_letLoose 4 none ∈ wsX3_mealBehind := mb_X3_mealBehind_wsX3_mealBehind_r2 (List.mem_of_getElem? (i := 22) rfl)
theorem mx_X3_mealBehind_48 : Cond.methodLink RX3 83 yX3_grindsAt ∈ wsX3_mealBehind := mb_X3_mealBehind_wsX3_mealBehind_r2 (List.mem_of_getElem? (i := 23) rfl)
theorem mb_X3_mealBehind_wsX3_mealBehind_r3 {w : Cond} (h : w ∈ wsX3_mealBehind_r3) : w ∈ wsX3_mealBehind := by unfold wsX3_mealBehind; exact List.mem_cons_of_mem _ (List.mem_append_left _ (List.mem_append_right _ (List.mem_append_right _ (h))))
theorem mx_X3_mealBehind_49 : Cond.instanceMethod yX3_grindsAt ∈ wsX3_mealBehind := mb_X3_mealBehind_wsX3_mealBehind_r3 (List.mem_of_getElem? (i := 0) rfl)
theorem mx_X3_mealBehind_50 : Cond.selects RX3 yX3_grindsAt yX3_grindsAt ∈ wsX3_mealBehind := mb_X3_mealBehind_wsX3_mealBehind_r3 (List.mem_of_getElem? (i := 1) rfl)
theorem mx_X3_mealBehind_51 : Cond.code yX3_grindsAt cX3_grindsAt 4 (some .boolean) ∈ wsX3_mealBehind := mb_X3_mealBehind_wsX3_mealBehind_r3 (List.mem_of_getElem? (i := 2) rfl)
theorem mx_X3_mealBehind_52 : Cond.fieldLink RX3 37 "MillTalk$Level" "cap" "I" ∈ wsX3_mealBehind := mb_X3_mealBehind_wsX3_mealBehind_r3 (List.mem_of_getElem? (i := 3) rfl)
theorem mx_X3_mealBehind_53 : Cond.fieldLink RX3 31 "MillTalk$Level" "mill" "I" ∈ wsX3_mealBehind := mb_X3_mealBehind_wsX3_mealBehind_r3 (List.mem_of_getElem? (i := 4) rfl)
theorem mx_X3_mealBehind_54 : Cond.fieldLink RX3 34 "MillTalk$Level" "reach" "I" ∈ wsX3_mealBehind := mb_X3_mealBehind_wsX3_mealBehind_r3 (List.mem_of_getElem? (i := 5) rfl)
theorem mb_X3_mealBehind_wsX30 {w : Cond} (h : w ∈ wsX30) : w ∈ wsX3_mealBehind := by unfold wsX3_mealBehind; exact List.mem_cons_of_mem _ (List.mem_append_right _ (h))
theorem ggX3_mealBehind_X3_pass : GoodIn wsX3_mealBehind wsX3_pass := goodIn_sub (by unfold wsX3_pass; exact List.forall_mem_cons.mpr ⟨mx_X3_mealBehind_6, List.forall_mem_append.mpr ⟨List.forall_mem_append.mpr ⟨(by unfold wsX3_pass_r1; exact List.forall_mem_cons.mpr ⟨mx_X3_mealBehind_7, List.forall_mem_cons.mpr ⟨mx_X3_mealBehind_8, List.forall_mem_cons.mpr ⟨mx_X3_mealBehind_9, List.forall_mem_cons.mpr ⟨mx_X3_mealBehind_10, List.forall_mem_cons.mpr ⟨mx_X3_mealBehind_11, List.forall_mem_cons.mpr ⟨mx_X3_mealBehind_5, List.forall_mem_cons.mpr ⟨mx_X3_mealBehind_12, List.forall_mem_cons.mpr ⟨mx_X3_mealBehind_13, List.forall_mem_cons.mpr ⟨mx_X3_mealBehind_14, List.forall_mem_cons.mpr ⟨mx_X3_mealBehind_15, List.forall_mem_cons.mpr ⟨mx_X3_mealBehind_16, List.forall_mem_cons.mpr ⟨mx_X3_mealBehind_17, List.forall_mem_cons.mpr ⟨mx_X3_mealBehind_18, List.forall_mem_cons.mpr ⟨mx_X3_mealBehind_19, List.forall_mem_cons.mpr ⟨mx_X3_mealBehind_20, List.forall_mem_cons.mpr ⟨mx_X3_mealBehind_1, List.forall_mem_cons.mpr ⟨mx_X3_mealBehind_21, List.forall_mem_cons.mpr ⟨mx_X3_mealBehind_22, List.forall_mem_cons.mpr ⟨mx_X3_mealBehind_23, List.forall_mem_cons.mpr ⟨mx_X3_mealBehind_24, List.forall_mem_cons.mpr ⟨mx_X3_mealBehind_25, List.forall_mem_cons.mpr ⟨mx_X3_mealBehind_26, List.forall_mem_cons.mpr ⟨mx_X3_mealBehind_27, List.forall_mem_cons.mpr ⟨mx_X3_mealBehind_28, fun _ h_ => absurd h_ List.not_mem_nil⟩⟩⟩⟩⟩⟩⟩⟩⟩⟩⟩⟩⟩⟩⟩⟩⟩⟩⟩⟩⟩⟩⟩⟩), List.forall_mem_append.mpr ⟨(by unfold wsX3_pass_r2; exact List.forall_mem_cons.mpr ⟨mx_X3_mealBehind_29, List.forall_mem_cons.mpr ⟨mx_X3_mealBehind_30, List.forall_mem_cons.mpr ⟨mx_X3_mealBehind_31, List.forall_mem_cons.mpr ⟨mx_X3_mealBehind_32, List.forall_mem_cons.mpr ⟨mx_X3_mealBehind_33, List.forall_mem_cons.mpr ⟨mx_X3_mealBehind_34, List.forall_mem_cons.mpr ⟨mx_X3_mealBehind_35, List.forall_mem_cons.mpr ⟨mx_X3_mealBehind_36, List.forall_mem_cons.mpr ⟨mx_X3_mealBehind_37, List.forall_mem_cons.mpr ⟨mx_X3_mealBehind_38, List.forall_mem_cons.mpr ⟨mx_X3_mealBehind_39, List.forall_mem_cons.mpr ⟨mx_X3_mealBehind_40, List.forall_mem_cons.mpr ⟨mx_X3_mealBehind_41, List.forall_mem_cons.mpr ⟨mx_X3_mealBehind_42, List.forall_mem_cons.mpr ⟨mx_X3_mealBehind_43, List.forall_mem_cons.mpr ⟨mx_X3_mealBehind_44, List.forall_mem_cons.mpr ⟨mx_X3_mealBehind_45, List.forall_mem_cons.mpr ⟨mx_X3_mealBehind_46, List.forall_mem_cons.mpr ⟨mx_X3_mealBehind_47, List.forall_mem_cons.mpr ⟨mx_X3_mealBehind_48, List.forall_mem_cons.mpr ⟨mx_X3_mealBehind_49, List.forall_mem_cons.mpr ⟨mx_X3_mealBehind_50, List.forall_mem_cons.mpr ⟨mx_X3_mealBehind_51, List.forall_mem_cons.mpr ⟨mx_X3_mealBehind_52, fun _ h_ => absurd h_ List.not_mem_nil⟩⟩⟩⟩⟩⟩⟩⟩⟩⟩⟩⟩⟩⟩⟩⟩⟩⟩⟩⟩⟩⟩⟩⟩), (by unfold wsX3_pass_r3; exact List.forall_mem_cons.mpr ⟨mx_X3_mealBehind_53, List.forall_mem_cons.mpr ⟨mx_X3_mealBehind_54, fun _ h_ => absurd h_ List.not_mem_nil⟩⟩)⟩⟩, (fun _ h_ => mb_X3_mealBehind_wsX30 h_)⟩⟩) (by decide +kernel)
theorem mx_X3_mealBehind_2 : Cond.methodLink RX3 94 yX3_pass ∈ wsX3_mealBehind := mb_X3_mealBehind_wsX3_mealBehind_r1 (List.mem_of_getElem? (i := 1) rfl)
theorem mx_X3_mealBehind_3 : Cond.instanceMethod yX3_pass ∈ wsX3_mealBehind := mb_X3_mealBehind_wsX3_mealBehind_r1 (List.mem_of_getElem? (i := 2) rfl)
theorem mx_X3_mealBehind_4 : Cond.selects RX3 yX3_pass yX3_pass ∈ wsX3_mealBehind := mb_X3_mealBehind_wsX3_mealBehind_r1 (List.mem_of_getElem? (i := 3) rfl)
theorem gX3_mealBehind_X3_pass : GoodIn wsX3_mealBehind (wsV RX3 94 RX3 yX3_pass wsX3_pass) := goodIn_app (goodIn_sub (List.forall_mem_cons.mpr ⟨mx_X3_mealBehind_2, List.forall_mem_cons.mpr ⟨mx_X3_mealBehind_3, List.forall_mem_cons.mpr ⟨mx_X3_mealBehind_4, List.forall_mem_cons.mpr ⟨mx_X3_mealBehind_5, fun _ h_ => absurd h_ List.not_mem_nil⟩⟩⟩⟩) (by decide +kernel)) ggX3_mealBehind_X3_pass
theorem mb_X3_passOnly_wsX3_passOnly_r1 {w : Cond} (h : w ∈ wsX3_passOnly_r1) : w ∈ wsX3_passOnly := by unfold wsX3_passOnly; exact List.mem_cons_of_mem _ (List.mem_append_left _ (List.mem_append_left _ (h)))
theorem mx_X3_passOnly_12 : Cond.code yX3_passSound cX3_passSound 5 none ∈ wsX3_passOnly := mb_X3_passOnly_wsX3_passOnly_r1 (List.mem_of_getElem? (i := 11) rfl)
theorem mx_X3_passOnly_13 : Cond.fieldLink RX3 18 "MillTalk$Level" "places" "[I" ∈ wsX3_passOnly := mb_X3_passOnly_wsX3_passOnly_r1 (List.mem_of_getElem? (i := 12) rfl)
theorem mx_X3_passOnly_14 : Cond.fieldLink RX3 24 "MillTalk$Level" "hows" "[I" ∈ wsX3_passOnly := mb_X3_passOnly_wsX3_passOnly_r1 (List.mem_of_getElem? (i := 13) rfl)
theorem mx_X3_passOnly_15 : Cond.fieldLink RX3 43 "MillTalk$Level" "meal" "I" ∈ wsX3_passOnly := mb_X3_passOnly_wsX3_passOnly_r1 (List.mem_of_getElem? (i := 14) rfl)
theorem mx_X3_passOnly_16 : Cond.methodLink RX3 63 Lib.Math.min.name ∈ wsX3_passOnly := mb_X3_passOnly_wsX3_passOnly_r1 (List.mem_of_getElem? (i := 15) rfl)
theorem mx_X3_passOnly_17 : Cond.static Lib.Math.min.name ∈ wsX3_passOnly := mb_X3_passOnly_wsX3_passOnly_r1 (List.mem_of_getElem? (i := 16) rfl)
theorem mx_X3_passOnly_18 : Cond.initialized "java/lang/Math" ∈ wsX3_passOnly := mb_X3_passOnly_wsX3_passOnly_r1 (List.mem_of_getElem? (i := 17) rfl)
theorem mx_X3_passOnly_19 : Cond.code Lib.Math.min.name Lib.Math.min.code 2 (some .int) ∈ wsX3_passOnly := mb_X3_passOnly_wsX3_passOnly_r1 (List.mem_of_getElem? (i := 18) rfl)
theorem mx_X3_passOnly_20 : Cond.methodLink RX3 58 yX3_isLoose ∈ wsX3_passOnly := mb_X3_passOnly_wsX3_passOnly_r1 (List.mem_of_getElem? (i := 19) rfl)
theorem mx_X3_passOnly_21 : Cond.instanceMethod yX3_isLoose ∈ wsX3_passOnly := mb_X3_passOnly_wsX3_passOnly_r1 (List.mem_of_getElem? (i := 20) rfl)
theorem mx_X3_passOnly_22 : Cond.selects RX3 yX3_isLoose yX3_isLoose ∈ wsX3_passOnly := mb_X3_passOnly_wsX3_passOnly_r1 (List.mem_of_getElem? (i := 21) rfl)
theorem mx_X3_passOnly_5 : Cond.initialized RX3 ∈ wsX3_passOnly := mb_X3_passOnly_wsX3_passOnly_r1 (List.mem_of_getElem? (i := 4) rfl)
theorem mx_X3_passOnly_23 : Cond.code yX3_isLoose cX3_isLoose 2 (some .boolean) ∈ wsX3_passOnly := mb_X3_passOnly_wsX3_passOnly_r1 (List.mem_of_getElem? (i := 22) rfl)
theorem mx_X3_passOnly_24 : Cond.methodLink RX3 69 yX3_driftOf ∈ wsX3_passOnly := mb_X3_passOnly_wsX3_passOnly_r1 (List.mem_of_getElem? (i := 23) rfl)
theorem mb_X3_passOnly_wsX3_passOnly_r2 {w : Cond} (h : w ∈ wsX3_passOnly_r2) : w ∈ wsX3_passOnly := by unfold wsX3_passOnly; exact List.mem_cons_of_mem _ (List.mem_append_left _ (List.mem_append_right _ (List.mem_append_left _ (h))))
theorem mx_X3_passOnly_25 : Cond.instanceMethod yX3_driftOf ∈ wsX3_passOnly := mb_X3_passOnly_wsX3_passOnly_r2 (List.mem_of_getElem? (i := 0) rfl)
theorem mx_X3_passOnly_26 : Cond.selects RX3 yX3_driftOf yX3_driftOf ∈ wsX3_passOnly := mb_X3_passOnly_wsX3_passOnly_r2 (List.mem_of_getElem? (i := 1) rfl)
theorem mx_X3_passOnly_27 : Cond.code yX3_driftOf cX3_driftOf 4 (some .int) ∈ wsX3_passOnly := mb_X3_passOnly_wsX3_passOnly_r2 (List.mem_of_getElem? (i := 2) rfl)
theorem mx_X3_passOnly_28 : Cond.fieldLink RX3 15 "MillTalk$Level" "kinds" "[I" ∈ wsX3_passOnly := mb_X3_passOnly_wsX3_passOnly_r2 (List.mem_of_getElem? (i := 3) rfl)
theorem mx_X3_passOnly_29 : Cond.methodLink RX3 72 yX3_loudBehindHour ∈ wsX3_passOnly := mb_X3_passOnly_wsX3_passOnly_r2 (List.mem_of_getElem? (i := 4) rfl)
theorem mx_X3_passOnly_30 : Cond.instanceMethod yX3_loudBehindHour ∈ wsX3_passOnly := mb_X3_passOnly_wsX3_passOnly_r2 (List.mem_of_getElem? (i := 5) rfl)
theorem mx_X3_passOnly_31 : Cond.selects RX3 yX3_loudBehindHour yX3_loudBehindHour ∈ wsX3_passOnly := mb_X3_passOnly_wsX3_passOnly_r2 (List.mem_of_getElem? (i := 6) rfl)
theorem mx_X3_passOnly_32 : Cond.code yX3_loudBehindHour cX3_loudBehindHour 2 (some .int) ∈ wsX3_passOnly := mb_X3_passOnly_wsX3_passOnly_r2 (List.mem_of_getElem? (i := 7) rfl)
theorem mx_X3_passOnly_33 : Cond.fieldLink RX3 21 "MillTalk$Level" "louds" "[I" ∈ wsX3_passOnly := mb_X3_passOnly_wsX3_passOnly_r2 (List.mem_of_getElem? (i := 8) rfl)
theorem mx_X3_passOnly_34 : Cond.methodLink RX3 76 yX3_hasCell ∈ wsX3_passOnly := mb_X3_passOnly_wsX3_passOnly_r2 (List.mem_of_getElem? (i := 9) rfl)
theorem mx_X3_passOnly_35 : Cond.instanceMethod yX3_hasCell ∈ wsX3_passOnly := mb_X3_passOnly_wsX3_passOnly_r2 (List.mem_of_getElem? (i := 10) rfl)
theorem mx_X3_passOnly_36 : Cond.selects RX3 yX3_hasCell yX3_hasCell ∈ wsX3_passOnly := mb_X3_passOnly_wsX3_passOnly_r2 (List.mem_of_getElem? (i := 11) rfl)
theorem mx_X3_passOnly_37 : Cond.code yX3_hasCell cX3_hasCell 2 (some .boolean) ∈ wsX3_passOnly := mb_X3_passOnly_wsX3_passOnly_r2 (List.mem_of_getElem? (i := 12) rfl)
theorem mx_X3_passOnly_38 : Cond.fieldLink RX3 27 "MillTalk$Level" "cells" "I" ∈ wsX3_passOnly := mb_X3_passOnly_wsX3_passOnly_r2 (List.mem_of_getElem? (i := 13) rfl)
theorem mx_X3_passOnly_39 : Cond.methodLink RX3 79 yX3_letLoose ∈ wsX3_passOnly := mb_X3_passOnly_wsX3_passOnly_r2 (List.mem_of_getElem? (i := 14) rfl)
theorem mx_X3_passOnly_40 : Cond.instanceMethod yX3_letLoose ∈ wsX3_passOnly := mb_X3_passOnly_wsX3_passOnly_r2 (List.mem_of_getElem? (i := 15) rfl)
theorem mx_X3_passOnly_41 : Cond.selects RX3 yX3_letLoose yX3_letLoose ∈ wsX3_passOnly := mb_X3_passOnly_wsX3_passOnly_r2 (List.mem_of_getElem? (i := 16) rfl)
theorem mx_X3_passOnly_42 : Cond.code yX3_letLoose cX3_letLoose 4 none ∈ wsX3_passOnly := mb_X3_passOnly_wsX3_passOnly_r2 (List.mem_of_getElem? (i := 17) rfl)
theorem mx_X3_passOnly_43 : Cond.methodLink RX3 83 yX3_grindsAt ∈ wsX3_passOnly := mb_X3_passOnly_wsX3_passOnly_r2 (List.mem_of_getElem? (i := 18) rfl)
theorem mx_X3_passOnly_44 : Cond.instanceMethod yX3_grindsAt ∈ wsX3_passOnly := mb_X3_passOnly_wsX3_passOnly_r2 (List.mem_of_getElem? (i := 19) rfl)
theorem mx_X3_passOnly_45 : Cond.selects RX3 yX3_grindsAt yX3_grindsAt ∈ wsX3_passOnly := mb_X3_passOnly_wsX3_passOnly_r2 (List.mem_of_getElem? (i := 20) rfl)
theorem mx_X3_passOnly_46 : Cond.code yX3_grindsAt cX3_grindsAt 4 (some .boolean) ∈ wsX3_passOnly := mb_X3_passOnly_wsX3_passOnly_r2 (List.mem_of_getElem? (i := 21) rfl)
theorem mx_X3_passOnly_47 : Cond.fieldLink RX3 37 "MillTalk$Level" "cap" "I" ∈ wsX3_passOnly := mb_X3_passOnly_wsX3_passOnly_r2 (List.mem_of_getElem? (i := 22) rfl)
theorem mx_X3_passOnly_48 : Cond.fieldLink RX3 31 "MillTalk$Level" "mill" "I" ∈ wsX3_passOnly := mb_X3_passOnly_wsX3_passOnly_r2 (List.mem_of_getElem? (i := 23) rfl)
theorem mb_X3_passOnly_wsX3_passOnly_r3 {w : Cond} (h : w ∈ wsX3_passOnly_r3) : w ∈ wsX3_passOnly := by unfold wsX3_passOnly; exact List.mem_cons_of_mem _ (List.mem_append_left _ (List.mem_append_right _ (List.mem_append_right _ (h))))
theorem mx_X3_passOnly_49 : Cond.fieldLink RX3 34 "MillTalk$Level" "reach" "I" ∈ wsX3_passOnly := mb_X3_passOnly_wsX3_passOnly_r3 (List.mem_of_getElem? (i := 0) rfl)
theorem mb_X3_passOnly_wsX30 {w : Cond} (h : w ∈ wsX30) : w ∈ wsX3_passOnly := by unfold wsX3_passOnly; exact List.mem_cons_of_mem _ (List.mem_append_right _ (h))
theorem ggX3_passOnly_X3_passSound : GoodIn wsX3_passOnly wsX3_passSound := goodIn_sub (by unfold wsX3_passSound; exact List.forall_mem_cons.mpr ⟨mx_X3_passOnly_12, List.forall_mem_append.mpr ⟨List.forall_mem_append.mpr ⟨(by unfold wsX3_passSound_r1; exact List.forall_mem_cons.mpr ⟨mx_X3_passOnly_13, List.forall_mem_cons.mpr ⟨mx_X3_passOnly_14, List.forall_mem_cons.mpr ⟨mx_X3_passOnly_15, List.forall_mem_cons.mpr ⟨mx_X3_passOnly_16, List.forall_mem_cons.mpr ⟨mx_X3_passOnly_17, List.forall_mem_cons.mpr ⟨mx_X3_passOnly_18, List.forall_mem_cons.mpr ⟨mx_X3_passOnly_19, List.forall_mem_cons.mpr ⟨mx_X3_passOnly_20, List.forall_mem_cons.mpr ⟨mx_X3_passOnly_21, List.forall_mem_cons.mpr ⟨mx_X3_passOnly_22, List.forall_mem_cons.mpr ⟨mx_X3_passOnly_5, List.forall_mem_cons.mpr ⟨mx_X3_passOnly_23, List.forall_mem_cons.mpr ⟨mx_X3_passOnly_24, List.forall_mem_cons.mpr ⟨mx_X3_passOnly_25, List.forall_mem_cons.mpr ⟨mx_X3_passOnly_26, List.forall_mem_cons.mpr ⟨mx_X3_passOnly_27, List.forall_mem_cons.mpr ⟨mx_X3_passOnly_28, List.forall_mem_cons.mpr ⟨mx_X3_passOnly_29, List.forall_mem_cons.mpr ⟨mx_X3_passOnly_30, List.forall_mem_cons.mpr ⟨mx_X3_passOnly_31, List.forall_mem_cons.mpr ⟨mx_X3_passOnly_32, List.forall_mem_cons.mpr ⟨mx_X3_passOnly_33, List.forall_mem_cons.mpr ⟨mx_X3_passOnly_34, List.forall_mem_cons.mpr ⟨mx_X3_passOnly_35, fun _ h_ => absurd h_ List.not_mem_nil⟩⟩⟩⟩⟩⟩⟩⟩⟩⟩⟩⟩⟩⟩⟩⟩⟩⟩⟩⟩⟩⟩⟩⟩), (by unfold wsX3_passSound_r2; exact List.forall_mem_cons.mpr ⟨mx_X3_passOnly_36, List.forall_mem_cons.mpr ⟨mx_X3_passOnly_37, List.forall_mem_cons.mpr ⟨mx_X3_passOnly_38, List.forall_mem_cons.mpr ⟨mx_X3_passOnly_39, List.forall_mem_cons.mpr ⟨mx_X3_passOnly_40, List.forall_mem_cons.mpr ⟨mx_X3_passOnly_41, List.forall_mem_cons.mpr ⟨mx_X3_passOnly_42, List.forall_mem_cons.mpr ⟨mx_X3_passOnly_43, List.forall_mem_cons.mpr ⟨mx_X3_passOnly_44, List.forall_mem_cons.mpr ⟨mx_X3_passOnly_45, List.forall_mem_cons.mpr ⟨mx_X3_passOnly_46, List.forall_mem_cons.mpr ⟨mx_X3_passOnly_47, List.forall_mem_cons.mpr ⟨mx_X3_passOnly_48, List.forall_mem_cons.mpr ⟨mx_X3_passOnly_49, fun _ h_ => absurd h_ List.not_mem_nil⟩⟩⟩⟩⟩⟩⟩⟩⟩⟩⟩⟩⟩⟩)⟩, (fun _ h_ => mb_X3_passOnly_wsX30 h_)⟩⟩) (by decide +kernel)
theorem mx_X3_passOnly_9 : Cond.methodLink RX3 90 yX3_passSound ∈ wsX3_passOnly := mb_X3_passOnly_wsX3_passOnly_r1 (List.mem_of_getElem? (i := 8) rfl)
theorem mx_X3_passOnly_10 : Cond.instanceMethod yX3_passSound ∈ wsX3_passOnly := mb_X3_passOnly_wsX3_passOnly_r1 (List.mem_of_getElem? (i := 9) rfl)
theorem mx_X3_passOnly_11 : Cond.selects RX3 yX3_passSound yX3_passSound ∈ wsX3_passOnly := mb_X3_passOnly_wsX3_passOnly_r1 (List.mem_of_getElem? (i := 10) rfl)
theorem gX3_passOnly_X3_passSound : GoodIn wsX3_passOnly (wsV RX3 90 RX3 yX3_passSound wsX3_passSound) := goodIn_app (goodIn_sub (List.forall_mem_cons.mpr ⟨mx_X3_passOnly_9, List.forall_mem_cons.mpr ⟨mx_X3_passOnly_10, List.forall_mem_cons.mpr ⟨mx_X3_passOnly_11, List.forall_mem_cons.mpr ⟨mx_X3_passOnly_5, fun _ h_ => absurd h_ List.not_mem_nil⟩⟩⟩⟩) (by decide +kernel)) ggX3_passOnly_X3_passSound
theorem mx_X3_passOnly_6 : Cond.code yX3_windOn cX3_windOn 2 (some .int) ∈ wsX3_passOnly := mb_X3_passOnly_wsX3_passOnly_r1 (List.mem_of_getElem? (i := 5) rfl)
theorem mx_X3_passOnly_7 : Cond.fieldLink RX3 46 "MillTalk$Level" "windCount" "I" ∈ wsX3_passOnly := mb_X3_passOnly_wsX3_passOnly_r1 (List.mem_of_getElem? (i := 6) rfl)
theorem mx_X3_passOnly_8 : Cond.fieldLink RX3 9 "MillTalk$Level" "winds" "[I" ∈ wsX3_passOnly := mb_X3_passOnly_wsX3_passOnly_r1 (List.mem_of_getElem? (i := 7) rfl)
theorem mx_X3_passOnly_1 : Cond.fieldLink RX3 40 "MillTalk$Level" "hour" "I" ∈ wsX3_passOnly := mb_X3_passOnly_wsX3_passOnly_r1 (List.mem_of_getElem? (i := 0) rfl)
theorem ggX3_passOnly_X3_windOn : GoodIn wsX3_passOnly wsX3_windOn := goodIn_sub (by unfold wsX3_windOn; exact List.forall_mem_cons.mpr ⟨mx_X3_passOnly_6, List.forall_mem_append.mpr ⟨List.forall_mem_cons.mpr ⟨mx_X3_passOnly_7, List.forall_mem_cons.mpr ⟨mx_X3_passOnly_8, List.forall_mem_cons.mpr ⟨mx_X3_passOnly_1, fun _ h_ => absurd h_ List.not_mem_nil⟩⟩⟩, (fun _ h_ => mb_X3_passOnly_wsX30 h_)⟩⟩) (by decide +kernel)
theorem mx_X3_passOnly_2 : Cond.methodLink RX3 87 yX3_windOn ∈ wsX3_passOnly := mb_X3_passOnly_wsX3_passOnly_r1 (List.mem_of_getElem? (i := 1) rfl)
theorem mx_X3_passOnly_3 : Cond.instanceMethod yX3_windOn ∈ wsX3_passOnly := mb_X3_passOnly_wsX3_passOnly_r1 (List.mem_of_getElem? (i := 2) rfl)
theorem mx_X3_passOnly_4 : Cond.selects RX3 yX3_windOn yX3_windOn ∈ wsX3_passOnly := mb_X3_passOnly_wsX3_passOnly_r1 (List.mem_of_getElem? (i := 3) rfl)
theorem gX3_passOnly_X3_windOn : GoodIn wsX3_passOnly (wsV RX3 87 RX3 yX3_windOn wsX3_windOn) := goodIn_app (goodIn_sub (List.forall_mem_cons.mpr ⟨mx_X3_passOnly_2, List.forall_mem_cons.mpr ⟨mx_X3_passOnly_3, List.forall_mem_cons.mpr ⟨mx_X3_passOnly_4, List.forall_mem_cons.mpr ⟨mx_X3_passOnly_5, fun _ h_ => absurd h_ List.not_mem_nil⟩⟩⟩⟩) (by decide +kernel)) ggX3_passOnly_X3_windOn
theorem mb_X3_passSound_wsX3_passSound_r1 {w : Cond} (h : w ∈ wsX3_passSound_r1) : w ∈ wsX3_passSound := by unfold wsX3_passSound; exact List.mem_cons_of_mem _ (List.mem_append_left _ (List.mem_append_left _ (h)))
theorem mx_X3_passSound_16 : Cond.code yX3_driftOf cX3_driftOf 4 (some .int) ∈ wsX3_passSound := mb_X3_passSound_wsX3_passSound_r1 (List.mem_of_getElem? (i := 15) rfl)
theorem mx_X3_passSound_17 : Cond.fieldLink RX3 15 "MillTalk$Level" "kinds" "[I" ∈ wsX3_passSound := mb_X3_passSound_wsX3_passSound_r1 (List.mem_of_getElem? (i := 16) rfl)
theorem mb_X3_passSound_wsX30 {w : Cond} (h : w ∈ wsX30) : w ∈ wsX3_passSound := by unfold wsX3_passSound; exact List.mem_cons_of_mem _ (List.mem_append_right _ (h))
theorem ggX3_passSound_X3_driftOf : GoodIn wsX3_passSound wsX3_driftOf := goodIn_sub (by unfold wsX3_driftOf; exact List.forall_mem_cons.mpr ⟨mx_X3_passSound_16, List.forall_mem_append.mpr ⟨List.forall_mem_cons.mpr ⟨mx_X3_passSound_17, fun _ h_ => absurd h_ List.not_mem_nil⟩, (fun _ h_ => mb_X3_passSound_wsX30 h_)⟩⟩) (by decide +kernel)
theorem mx_X3_passSound_13 : Cond.methodLink RX3 69 yX3_driftOf ∈ wsX3_passSound := mb_X3_passSound_wsX3_passSound_r1 (List.mem_of_getElem? (i := 12) rfl)
theorem mx_X3_passSound_14 : Cond.instanceMethod yX3_driftOf ∈ wsX3_passSound := mb_X3_passSound_wsX3_passSound_r1 (List.mem_of_getElem? (i := 13) rfl)
theorem mx_X3_passSound_15 : Cond.selects RX3 yX3_driftOf yX3_driftOf ∈ wsX3_passSound := mb_X3_passSound_wsX3_passSound_r1 (List.mem_of_getElem? (i := 14) rfl)
theorem mx_X3_passSound_11 : Cond.initialized RX3 ∈ wsX3_passSound := mb_X3_passSound_wsX3_passSound_r1 (List.mem_of_getElem? (i := 10) rfl)
theorem gX3_passSound_X3_driftOf : GoodIn wsX3_passSound (wsV RX3 69 RX3 yX3_driftOf wsX3_driftOf) := goodIn_app (goodIn_sub (List.forall_mem_cons.mpr ⟨mx_X3_passSound_13, List.forall_mem_cons.mpr ⟨mx_X3_passSound_14, List.forall_mem_cons.mpr ⟨mx_X3_passSound_15, List.forall_mem_cons.mpr ⟨mx_X3_passSound_11, fun _ h_ => absurd h_ List.not_mem_nil⟩⟩⟩⟩) (by decide +kernel)) ggX3_passSound_X3_driftOf
theorem mb_X3_passSound_wsX3_passSound_r2 {w : Cond} (h : w ∈ wsX3_passSound_r2) : w ∈ wsX3_passSound := by unfold wsX3_passSound; exact List.mem_cons_of_mem _ (List.mem_append_left _ (List.mem_append_right _ (h)))
theorem mx_X3_passSound_35 : Cond.code yX3_grindsAt cX3_grindsAt 4 (some .boolean) ∈ wsX3_passSound := mb_X3_passSound_wsX3_passSound_r2 (List.mem_of_getElem? (i := 10) rfl)
theorem mx_X3_passSound_36 : Cond.fieldLink RX3 37 "MillTalk$Level" "cap" "I" ∈ wsX3_passSound := mb_X3_passSound_wsX3_passSound_r2 (List.mem_of_getElem? (i := 11) rfl)
theorem mx_X3_passSound_37 : Cond.fieldLink RX3 31 "MillTalk$Level" "mill" "I" ∈ wsX3_passSound := mb_X3_passSound_wsX3_passSound_r2 (List.mem_of_getElem? (i := 12) rfl)
theorem mx_X3_passSound_38 : Cond.fieldLink RX3 34 "MillTalk$Level" "reach" "I" ∈ wsX3_passSound := mb_X3_passSound_wsX3_passSound_r2 (List.mem_of_getElem? (i := 13) rfl)
theorem ggX3_passSound_X3_grindsAt : GoodIn wsX3_passSound wsX3_grindsAt := goodIn_sub (by unfold wsX3_grindsAt; exact List.forall_mem_cons.mpr ⟨mx_X3_passSound_35, List.forall_mem_append.mpr ⟨List.forall_mem_cons.mpr ⟨mx_X3_passSound_36, List.forall_mem_cons.mpr ⟨mx_X3_passSound_37, List.forall_mem_cons.mpr ⟨mx_X3_passSound_38, fun _ h_ => absurd h_ List.not_mem_nil⟩⟩⟩, (fun _ h_ => mb_X3_passSound_wsX30 h_)⟩⟩) (by decide +kernel)
theorem mx_X3_passSound_32 : Cond.methodLink RX3 83 yX3_grindsAt ∈ wsX3_passSound := mb_X3_passSound_wsX3_passSound_r2 (List.mem_of_getElem? (i := 7) rfl)
theorem mx_X3_passSound_33 : Cond.instanceMethod yX3_grindsAt ∈ wsX3_passSound := mb_X3_passSound_wsX3_passSound_r2 (List.mem_of_getElem? (i := 8) rfl)
theorem mx_X3_passSound_34 : Cond.selects RX3 yX3_grindsAt yX3_grindsAt ∈ wsX3_passSound := mb_X3_passSound_wsX3_passSound_r2 (List.mem_of_getElem? (i := 9) rfl)
theorem gX3_passSound_X3_grindsAt : GoodIn wsX3_passSound (wsV RX3 83 RX3 yX3_grindsAt wsX3_grindsAt) := goodIn_app (goodIn_sub (List.forall_mem_cons.mpr ⟨mx_X3_passSound_32, List.forall_mem_cons.mpr ⟨mx_X3_passSound_33, List.forall_mem_cons.mpr ⟨mx_X3_passSound_34, List.forall_mem_cons.mpr ⟨mx_X3_passSound_11, fun _ h_ => absurd h_ List.not_mem_nil⟩⟩⟩⟩) (by decide +kernel)) ggX3_passSound_X3_grindsAt
theorem mx_X3_passSound_26 : Cond.code yX3_hasCell cX3_hasCell 2 (some .boolean) ∈ wsX3_passSound := mb_X3_passSound_wsX3_passSound_r2 (List.mem_of_getElem? (i := 1) rfl)
theorem mx_X3_passSound_27 : Cond.fieldLink RX3 27 "MillTalk$Level" "cells" "I" ∈ wsX3_passSound := mb_X3_passSound_wsX3_passSound_r2 (List.mem_of_getElem? (i := 2) rfl)
theorem ggX3_passSound_X3_hasCell : GoodIn wsX3_passSound wsX3_hasCell := goodIn_sub (by unfold wsX3_hasCell; exact List.forall_mem_cons.mpr ⟨mx_X3_passSound_26, List.forall_mem_append.mpr ⟨List.forall_mem_cons.mpr ⟨mx_X3_passSound_27, fun _ h_ => absurd h_ List.not_mem_nil⟩, (fun _ h_ => mb_X3_passSound_wsX30 h_)⟩⟩) (by decide +kernel)
theorem mx_X3_passSound_23 : Cond.methodLink RX3 76 yX3_hasCell ∈ wsX3_passSound := mb_X3_passSound_wsX3_passSound_r1 (List.mem_of_getElem? (i := 22) rfl)
theorem mx_X3_passSound_24 : Cond.instanceMethod yX3_hasCell ∈ wsX3_passSound := mb_X3_passSound_wsX3_passSound_r1 (List.mem_of_getElem? (i := 23) rfl)
theorem mx_X3_passSound_25 : Cond.selects RX3 yX3_hasCell yX3_hasCell ∈ wsX3_passSound := mb_X3_passSound_wsX3_passSound_r2 (List.mem_of_getElem? (i := 0) rfl)
theorem gX3_passSound_X3_hasCell : GoodIn wsX3_passSound (wsV RX3 76 RX3 yX3_hasCell wsX3_hasCell) := goodIn_app (goodIn_sub (List.forall_mem_cons.mpr ⟨mx_X3_passSound_23, List.forall_mem_cons.mpr ⟨mx_X3_passSound_24, List.forall_mem_cons.mpr ⟨mx_X3_passSound_25, List.forall_mem_cons.mpr ⟨mx_X3_passSound_11, fun _ h_ => absurd h_ List.not_mem_nil⟩⟩⟩⟩) (by decide +kernel)) ggX3_passSound_X3_hasCell
theorem mx_X3_passSound_12 : Cond.code yX3_isLoose cX3_isLoose 2 (some .boolean) ∈ wsX3_passSound := mb_X3_passSound_wsX3_passSound_r1 (List.mem_of_getElem? (i := 11) rfl)
theorem mx_X3_passSound_2 : Cond.fieldLink RX3 24 "MillTalk$Level" "hows" "[I" ∈ wsX3_passSound := mb_X3_passSound_wsX3_passSound_r1 (List.mem_of_getElem? (i := 1) rfl)
theorem ggX3_passSound_X3_isLoose : GoodIn wsX3_passSound wsX3_isLoose := goodIn_sub (by unfold wsX3_isLoose; exact List.forall_mem_cons.mpr ⟨mx_X3_passSound_12, List.forall_mem_append.mpr ⟨List.forall_mem_cons.mpr ⟨mx_X3_passSound_2, fun _ h_ => absurd h_ List.not_mem_nil⟩, (fun _ h_ => mb_X3_passSound_wsX30 h_)⟩⟩) (by decide +kernel)
theorem mx_X3_passSound_8 : Cond.methodLink RX3 58 yX3_isLoose ∈ wsX3_passSound := mb_X3_passSound_wsX3_passSound_r1 (List.mem_of_getElem? (i := 7) rfl)
theorem mx_X3_passSound_9 : Cond.instanceMethod yX3_isLoose ∈ wsX3_passSound := mb_X3_passSound_wsX3_passSound_r1 (List.mem_of_getElem? (i := 8) rfl)
theorem mx_X3_passSound_10 : Cond.selects RX3 yX3_isLoose yX3_isLoose ∈ wsX3_passSound := mb_X3_passSound_wsX3_passSound_r1 (List.mem_of_getElem? (i := 9) rfl)
theorem gX3_passSound_X3_isLoose : GoodIn wsX3_passSound (wsV RX3 58 RX3 yX3_isLoose wsX3_isLoose) := goodIn_app (goodIn_sub (List.forall_mem_cons.mpr ⟨mx_X3_passSound_8, List.forall_mem_cons.mpr ⟨mx_X3_passSound_9, List.forall_mem_cons.mpr ⟨mx_X3_passSound_10, List.forall_mem_cons.mpr ⟨mx_X3_passSound_11, fun _ h_ => absurd h_ List.not_mem_nil⟩⟩⟩⟩) (by decide +kernel)) ggX3_passSound_X3_isLoose
theorem mx_X3_passSound_31 : Cond.code yX3_letLoose cX3_letLoose 4 none ∈ wsX3_passSound := mb_X3_passSound_wsX3_passSound_r2 (List.mem_of_getElem? (i := 6) rfl)
theorem mx_X3_passSound_1 : Cond.fieldLink RX3 18 "MillTalk$Level" "places" "[I" ∈ wsX3_passSound := mb_X3_passSound_wsX3_passSound_r1 (List.mem_of_getElem? (i := 0) rfl)
theorem mx_X3_passSound_22 : Cond.fieldLink RX3 21 "MillTalk$Level" "louds" "[I" ∈ wsX3_passSound := mb_X3_passSound_wsX3_passSound_r1 (List.mem_of_getElem? (i := 21) rfl)
theorem ggX3_passSound_X3_letLoose : GoodIn wsX3_passSound wsX3_letLoose := goodIn_sub (by unfold wsX3_letLoose; exact List.forall_mem_cons.mpr ⟨mx_X3_passSound_31, List.forall_mem_append.mpr ⟨List.forall_mem_cons.mpr ⟨mx_X3_passSound_1, List.forall_mem_cons.mpr ⟨mx_X3_passSound_22, List.forall_mem_cons.mpr ⟨mx_X3_passSound_2, fun _ h_ => absurd h_ List.not_mem_nil⟩⟩⟩, (fun _ h_ => mb_X3_passSound_wsX30 h_)⟩⟩) (by decide +kernel)
theorem mx_X3_passSound_28 : Cond.methodLink RX3 79 yX3_letLoose ∈ wsX3_passSound := mb_X3_passSound_wsX3_passSound_r2 (List.mem_of_getElem? (i := 3) rfl)
theorem mx_X3_passSound_29 : Cond.instanceMethod yX3_letLoose ∈ wsX3_passSound := mb_X3_passSound_wsX3_passSound_r2 (List.mem_of_getElem? (i := 4) rfl)
theorem mx_X3_passSound_30 : Cond.selects RX3 yX3_letLoose yX3_letLoose ∈ wsX3_passSound := mb_X3_passSound_wsX3_passSound_r2 (List.mem_of_getElem? (i := 5) rfl)
theorem gX3_passSound_X3_letLoose : GoodIn wsX3_passSound (wsV RX3 79 RX3 yX3_letLoose wsX3_letLoose) := goodIn_app (goodIn_sub (List.forall_mem_cons.mpr ⟨mx_X3_passSound_28, List.forall_mem_cons.mpr ⟨mx_X3_passSound_29, List.forall_mem_cons.mpr ⟨mx_X3_passSound_30, List.forall_mem_cons.mpr ⟨mx_X3_passSound_11, fun _ h_ => absurd h_ List.not_mem_nil⟩⟩⟩⟩) (by decide +kernel)) ggX3_passSound_X3_letLoose
theorem mx_X3_passSound_21 : Cond.code yX3_loudBehindHour cX3_loudBehindHour 2 (some .int) ∈ wsX3_passSound := mb_X3_passSound_wsX3_passSound_r1 (List.mem_of_getElem? (i := 20) rfl)
theorem mx_X3_passSound_4 : Cond.methodLink RX3 63 Lib.Math.min.name ∈ wsX3_passSound := mb_X3_passSound_wsX3_passSound_r1 (List.mem_of_getElem? (i := 3) rfl)
theorem mx_X3_passSound_5 : Cond.static Lib.Math.min.name ∈ wsX3_passSound := mb_X3_passSound_wsX3_passSound_r1 (List.mem_of_getElem? (i := 4) rfl)
theorem mx_X3_passSound_6 : Cond.initialized "java/lang/Math" ∈ wsX3_passSound := mb_X3_passSound_wsX3_passSound_r1 (List.mem_of_getElem? (i := 5) rfl)
theorem mx_X3_passSound_7 : Cond.code Lib.Math.min.name Lib.Math.min.code 2 (some .int) ∈ wsX3_passSound := mb_X3_passSound_wsX3_passSound_r1 (List.mem_of_getElem? (i := 6) rfl)
theorem ggX3_passSound_X3_loudBehindHour : GoodIn wsX3_passSound wsX3_loudBehindHour := goodIn_sub (by unfold wsX3_loudBehindHour; exact List.forall_mem_cons.mpr ⟨mx_X3_passSound_21, List.forall_mem_append.mpr ⟨List.forall_mem_cons.mpr ⟨mx_X3_passSound_17, List.forall_mem_cons.mpr ⟨mx_X3_passSound_22, List.forall_mem_cons.mpr ⟨mx_X3_passSound_4, List.forall_mem_cons.mpr ⟨mx_X3_passSound_5, List.forall_mem_cons.mpr ⟨mx_X3_passSound_6, List.forall_mem_cons.mpr ⟨mx_X3_passSound_7, fun _ h_ => absurd h_ List.not_mem_nil⟩⟩⟩⟩⟩⟩, (fun _ h_ => mb_X3_passSound_wsX30 h_)⟩⟩) (by decide +kernel)
theorem mx_X3_passSound_18 : Cond.methodLink RX3 72 yX3_loudBehindHour ∈ wsX3_passSound := mb_X3_passSound_wsX3_passSound_r1 (List.mem_of_getElem? (i := 17) rfl)
theorem mx_X3_passSound_19 : Cond.instanceMethod yX3_loudBehindHour ∈ wsX3_passSound := mb_X3_passSound_wsX3_passSound_r1 (List.mem_of_getElem? (i := 18) rfl)
theorem mx_X3_passSound_20 : Cond.selects RX3 yX3_loudBehindHour yX3_loudBehindHour ∈ wsX3_passSound := mb_X3_passSound_wsX3_passSound_r1 (List.mem_of_getElem? (i := 19) rfl)
theorem gX3_passSound_X3_loudBehindHour : GoodIn wsX3_passSound (wsV RX3 72 RX3 yX3_loudBehindHour wsX3_loudBehindHour) := goodIn_app (goodIn_sub (List.forall_mem_cons.mpr ⟨mx_X3_passSound_18, List.forall_mem_cons.mpr ⟨mx_X3_passSound_19, List.forall_mem_cons.mpr ⟨mx_X3_passSound_20, List.forall_mem_cons.mpr ⟨mx_X3_passSound_11, fun _ h_ => absurd h_ List.not_mem_nil⟩⟩⟩⟩) (by decide +kernel)) ggX3_passSound_X3_loudBehindHour
theorem mb_X3_pass_wsX3_pass_r1 {w : Cond} (h : w ∈ wsX3_pass_r1) : w ∈ wsX3_pass := by unfold wsX3_pass; exact List.mem_cons_of_mem _ (List.mem_append_left _ (List.mem_append_left _ (h)))
theorem mx_X3_pass_13 : Cond.code yX3_passSound cX3_passSound 5 none ∈ wsX3_pass := mb_X3_pass_wsX3_pass_r1 (List.mem_of_getElem? (i := 12) rfl)
theorem mx_X3_pass_14 : Cond.fieldLink RX3 18 "MillTalk$Level" "places" "[I" ∈ wsX3_pass := mb_X3_pass_wsX3_pass_r1 (List.mem_of_getElem? (i := 13) rfl)
theorem mx_X3_pass_15 : Cond.fieldLink RX3 24 "MillTalk$Level" "hows" "[I" ∈ wsX3_pass := mb_X3_pass_wsX3_pass_r1 (List.mem_of_getElem? (i := 14) rfl)
theorem mx_X3_pass_16 : Cond.fieldLink RX3 43 "MillTalk$Level" "meal" "I" ∈ wsX3_pass := mb_X3_pass_wsX3_pass_r1 (List.mem_of_getElem? (i := 15) rfl)
theorem mx_X3_pass_17 : Cond.methodLink RX3 63 Lib.Math.min.name ∈ wsX3_pass := mb_X3_pass_wsX3_pass_r1 (List.mem_of_getElem? (i := 16) rfl)
theorem mx_X3_pass_18 : Cond.static Lib.Math.min.name ∈ wsX3_pass := mb_X3_pass_wsX3_pass_r1 (List.mem_of_getElem? (i := 17) rfl)
theorem mx_X3_pass_19 : Cond.initialized "java/lang/Math" ∈ wsX3_pass := mb_X3_pass_wsX3_pass_r1 (List.mem_of_getElem? (i := 18) rfl)
theorem mx_X3_pass_20 : Cond.code Lib.Math.min.name Lib.Math.min.code 2 (some .int) ∈ wsX3_pass := mb_X3_pass_wsX3_pass_r1 (List.mem_of_getElem? (i := 19) rfl)
theorem mx_X3_pass_21 : Cond.methodLink RX3 58 yX3_isLoose ∈ wsX3_pass := mb_X3_pass_wsX3_pass_r1 (List.mem_of_getElem? (i := 20) rfl)
theorem mx_X3_pass_22 : Cond.instanceMethod yX3_isLoose ∈ wsX3_pass := mb_X3_pass_wsX3_pass_r1 (List.mem_of_getElem? (i := 21) rfl)
theorem mx_X3_pass_23 : Cond.selects RX3 yX3_isLoose yX3_isLoose ∈ wsX3_pass := mb_X3_pass_wsX3_pass_r1 (List.mem_of_getElem? (i := 22) rfl)
theorem mx_X3_pass_6 : Cond.initialized RX3 ∈ wsX3_pass := mb_X3_pass_wsX3_pass_r1 (List.mem_of_getElem? (i := 5) rfl)
theorem mx_X3_pass_24 : Cond.code yX3_isLoose cX3_isLoose 2 (some .boolean) ∈ wsX3_pass := mb_X3_pass_wsX3_pass_r1 (List.mem_of_getElem? (i := 23) rfl)
theorem mb_X3_pass_wsX3_pass_r2 {w : Cond} (h : w ∈ wsX3_pass_r2) : w ∈ wsX3_pass := by unfold wsX3_pass; exact List.mem_cons_of_mem _ (List.mem_append_left _ (List.mem_append_right _ (List.mem_append_left _ (h))))
theorem mx_X3_pass_25 : Cond.methodLink RX3 69 yX3_driftOf ∈ wsX3_pass := mb_X3_pass_wsX3_pass_r2 (List.mem_of_getElem? (i := 0) rfl)
theorem mx_X3_pass_26 : Cond.instanceMethod yX3_driftOf ∈ wsX3_pass := mb_X3_pass_wsX3_pass_r2 (List.mem_of_getElem? (i := 1) rfl)
theorem mx_X3_pass_27 : Cond.selects RX3 yX3_driftOf yX3_driftOf ∈ wsX3_pass := mb_X3_pass_wsX3_pass_r2 (List.mem_of_getElem? (i := 2) rfl)
theorem mx_X3_pass_28 : Cond.code yX3_driftOf cX3_driftOf 4 (some .int) ∈ wsX3_pass := mb_X3_pass_wsX3_pass_r2 (List.mem_of_getElem? (i := 3) rfl)
theorem mx_X3_pass_29 : Cond.fieldLink RX3 15 "MillTalk$Level" "kinds" "[I" ∈ wsX3_pass := mb_X3_pass_wsX3_pass_r2 (List.mem_of_getElem? (i := 4) rfl)
theorem mx_X3_pass_30 : Cond.methodLink RX3 72 yX3_loudBehindHour ∈ wsX3_pass := mb_X3_pass_wsX3_pass_r2 (List.mem_of_getElem? (i := 5) rfl)
theorem mx_X3_pass_31 : Cond.instanceMethod yX3_loudBehindHour ∈ wsX3_pass := mb_X3_pass_wsX3_pass_r2 (List.mem_of_getElem? (i := 6) rfl)
theorem mx_X3_pass_32 : Cond.selects RX3 yX3_loudBehindHour yX3_loudBehindHour ∈ wsX3_pass := mb_X3_pass_wsX3_pass_r2 (List.mem_of_getElem? (i := 7) rfl)
theorem mx_X3_pass_33 : Cond.code yX3_loudBehindHour cX3_loudBehindHour 2 (some .int) ∈ wsX3_pass := mb_X3_pass_wsX3_pass_r2 (List.mem_of_getElem? (i := 8) rfl)
theorem mx_X3_pass_34 : Cond.fieldLink RX3 21 "MillTalk$Level" "louds" "[I" ∈ wsX3_pass := mb_X3_pass_wsX3_pass_r2 (List.mem_of_getElem? (i := 9) rfl)
theorem mx_X3_pass_35 : Cond.methodLink RX3 76 yX3_hasCell ∈ wsX3_pass := mb_X3_pass_wsX3_pass_r2 (List.mem_of_getElem? (i := 10) rfl)
theorem mx_X3_pass_36 : Cond.instanceMethod yX3_hasCell ∈ wsX3_pass := mb_X3_pass_wsX3_pass_r2 (List.mem_of_getElem? (i := 11) rfl)
theorem mx_X3_pass_37 : Cond.selects RX3 yX3_hasCell yX3_hasCell ∈ wsX3_pass := mb_X3_pass_wsX3_pass_r2 (List.mem_of_getElem? (i := 12) rfl)
theorem mx_X3_pass_38 : Cond.code yX3_hasCell cX3_hasCell 2 (some .boolean) ∈ wsX3_pass := mb_X3_pass_wsX3_pass_r2 (List.mem_of_getElem? (i := 13) rfl)
theorem mx_X3_pass_39 : Cond.fieldLink RX3 27 "MillTalk$Level" "cells" "I" ∈ wsX3_pass := mb_X3_pass_wsX3_pass_r2 (List.mem_of_getElem? (i := 14) rfl)
theorem mx_X3_pass_40 : Cond.methodLink RX3 79 yX3_letLoose ∈ wsX3_pass := mb_X3_pass_wsX3_pass_r2 (List.mem_of_getElem? (i := 15) rfl)
theorem mx_X3_pass_41 : Cond.instanceMethod yX3_letLoose ∈ wsX3_pass := mb_X3_pass_wsX3_pass_r2 (List.mem_of_getElem? (i := 16) rfl)
theorem mx_X3_pass_42 : Cond.selects RX3 yX3_letLoose yX3_letLoose ∈ wsX3_pass := mb_X3_pass_wsX3_pass_r2 (List.mem_of_getElem? (i := 17) rfl)
theorem mx_X3_pass_43 : Cond.code yX3_letLoose cX3_letLoose 4 none ∈ wsX3_pass := mb_X3_pass_wsX3_pass_r2 (List.mem_of_getElem? (i := 18) rfl)
theorem mx_X3_pass_44 : Cond.methodLink RX3 83 yX3_grindsAt ∈ wsX3_pass := mb_X3_pass_wsX3_pass_r2 (List.mem_of_getElem? (i := 19) rfl)
theorem mx_X3_pass_45 : Cond.instanceMethod yX3_grindsAt ∈ wsX3_pass := mb_X3_pass_wsX3_pass_r2 (List.mem_of_getElem? (i := 20) rfl)
theorem mx_X3_pass_46 : Cond.selects RX3 yX3_grindsAt yX3_grindsAt ∈ wsX3_pass := mb_X3_pass_wsX3_pass_r2 (List.mem_of_getElem? (i := 21) rfl)
theorem mx_X3_pass_47 : Cond.code yX3_grindsAt cX3_grindsAt 4 (some .boolean) ∈ wsX3_pass := mb_X3_pass_wsX3_pass_r2 (List.mem_of_getElem? (i := 22) rfl)
theorem mx_X3_pass_48 : Cond.fieldLink RX3 37 "MillTalk$Level" "cap" "I" ∈ wsX3_pass := mb_X3_pass_wsX3_pass_r2 (List.mem_of_getElem? (i := 23) rfl)
theorem mb_X3_pass_wsX3_pass_r3 {w : Cond} (h : w ∈ wsX3_pass_r3) : w ∈ wsX3_pass := by unfold wsX3_pass; exact List.mem_cons_of_mem _ (List.mem_append_left _ (List.mem_append_right _ (List.mem_append_right _ (h))))
theorem mx_X3_pass_49 : Cond.fieldLink RX3 31 "MillTalk$Level" "mill" "I" ∈ wsX3_pass := mb_X3_pass_wsX3_pass_r3 (List.mem_of_getElem? (i := 0) rfl)
theorem mx_X3_pass_50 : Cond.fieldLink RX3 34 "MillTalk$Level" "reach" "I" ∈ wsX3_pass := mb_X3_pass_wsX3_pass_r3 (List.mem_of_getElem? (i := 1) rfl)
theorem mb_X3_pass_wsX30 {w : Cond} (h : w ∈ wsX30) : w ∈ wsX3_pass := by unfold wsX3_pass; exact List.mem_cons_of_mem _ (List.mem_append_right _ (h))
theorem ggX3_pass_X3_passSound : GoodIn wsX3_pass wsX3_passSound := goodIn_sub (by unfold wsX3_passSound; exact List.forall_mem_cons.mpr ⟨mx_X3_pass_13, List.forall_mem_append.mpr ⟨List.forall_mem_append.mpr ⟨(by unfold wsX3_passSound_r1; exact List.forall_mem_cons.mpr ⟨mx_X3_pass_14, List.forall_mem_cons.mpr ⟨mx_X3_pass_15, List.forall_mem_cons.mpr ⟨mx_X3_pass_16, List.forall_mem_cons.mpr ⟨mx_X3_pass_17, List.forall_mem_cons.mpr ⟨mx_X3_pass_18, List.forall_mem_cons.mpr ⟨mx_X3_pass_19, List.forall_mem_cons.mpr ⟨mx_X3_pass_20, List.forall_mem_cons.mpr ⟨mx_X3_pass_21, List.forall_mem_cons.mpr ⟨mx_X3_pass_22, List.forall_mem_cons.mpr ⟨mx_X3_pass_23, List.forall_mem_cons.mpr ⟨mx_X3_pass_6, List.forall_mem_cons.mpr ⟨mx_X3_pass_24, List.forall_mem_cons.mpr ⟨mx_X3_pass_25, List.forall_mem_cons.mpr ⟨mx_X3_pass_26, List.forall_mem_cons.mpr ⟨mx_X3_pass_27, List.forall_mem_cons.mpr ⟨mx_X3_pass_28, List.forall_mem_cons.mpr ⟨mx_X3_pass_29, List.forall_mem_cons.mpr ⟨mx_X3_pass_30, List.forall_mem_cons.mpr ⟨mx_X3_pass_31, List.forall_mem_cons.mpr ⟨mx_X3_pass_32, List.forall_mem_cons.mpr ⟨mx_X3_pass_33, List.forall_mem_cons.mpr ⟨mx_X3_pass_34, List.forall_mem_cons.mpr ⟨mx_X3_pass_35, List.forall_mem_cons.mpr ⟨mx_X3_pass_36, fun _ h_ => absurd h_ List.not_mem_nil⟩⟩⟩⟩⟩⟩⟩⟩⟩⟩⟩⟩⟩⟩⟩⟩⟩⟩⟩⟩⟩⟩⟩⟩), (by unfold wsX3_passSound_r2; exact List.forall_mem_cons.mpr ⟨mx_X3_pass_37, List.forall_mem_cons.mpr ⟨mx_X3_pass_38, List.forall_mem_cons.mpr ⟨mx_X3_pass_39, List.forall_mem_cons.mpr ⟨mx_X3_pass_40, List.forall_mem_cons.mpr ⟨mx_X3_pass_41, List.forall_mem_cons.mpr ⟨mx_X3_pass_42, List.forall_mem_cons.mpr ⟨mx_X3_pass_43, List.forall_mem_cons.mpr ⟨mx_X3_pass_44, List.forall_mem_cons.mpr ⟨mx_X3_pass_45, List.forall_mem_cons.mpr ⟨mx_X3_pass_46, List.forall_mem_cons.mpr ⟨mx_X3_pass_47, List.forall_mem_cons.mpr ⟨mx_X3_pass_48, List.forall_mem_cons.mpr ⟨mx_X3_pass_49, List.forall_mem_cons.mpr ⟨mx_X3_pass_50, fun _ h_ => absurd h_ List.not_mem_nil⟩⟩⟩⟩⟩⟩⟩⟩⟩⟩⟩⟩⟩⟩)⟩, (fun _ h_ => mb_X3_pass_wsX30 h_)⟩⟩) (by decide +kernel)
theorem mx_X3_pass_10 : Cond.methodLink RX3 90 yX3_passSound ∈ wsX3_pass := mb_X3_pass_wsX3_pass_r1 (List.mem_of_getElem? (i := 9) rfl)
theorem mx_X3_pass_11 : Cond.instanceMethod yX3_passSound ∈ wsX3_pass := mb_X3_pass_wsX3_pass_r1 (List.mem_of_getElem? (i := 10) rfl)
theorem mx_X3_pass_12 : Cond.selects RX3 yX3_passSound yX3_passSound ∈ wsX3_pass := mb_X3_pass_wsX3_pass_r1 (List.mem_of_getElem? (i := 11) rfl)
theorem gX3_pass_X3_passSound : GoodIn wsX3_pass (wsV RX3 90 RX3 yX3_passSound wsX3_passSound) := goodIn_app (goodIn_sub (List.forall_mem_cons.mpr ⟨mx_X3_pass_10, List.forall_mem_cons.mpr ⟨mx_X3_pass_11, List.forall_mem_cons.mpr ⟨mx_X3_pass_12, List.forall_mem_cons.mpr ⟨mx_X3_pass_6, fun _ h_ => absurd h_ List.not_mem_nil⟩⟩⟩⟩) (by decide +kernel)) ggX3_pass_X3_passSound
theorem mx_X3_pass_7 : Cond.code yX3_windOn cX3_windOn 2 (some .int) ∈ wsX3_pass := mb_X3_pass_wsX3_pass_r1 (List.mem_of_getElem? (i := 6) rfl)
theorem mx_X3_pass_8 : Cond.fieldLink RX3 46 "MillTalk$Level" "windCount" "I" ∈ wsX3_pass := mb_X3_pass_wsX3_pass_r1 (List.mem_of_getElem? (i := 7) rfl)
theorem mx_X3_pass_9 : Cond.fieldLink RX3 9 "MillTalk$Level" "winds" "[I" ∈ wsX3_pass := mb_X3_pass_wsX3_pass_r1 (List.mem_of_getElem? (i := 8) rfl)
theorem mx_X3_pass_2 : Cond.fieldLink RX3 40 "MillTalk$Level" "hour" "I" ∈ wsX3_pass := mb_X3_pass_wsX3_pass_r1 (List.mem_of_getElem? (i := 1) rfl)
theorem ggX3_pass_X3_windOn : GoodIn wsX3_pass wsX3_windOn := goodIn_sub (by unfold wsX3_windOn; exact List.forall_mem_cons.mpr ⟨mx_X3_pass_7, List.forall_mem_append.mpr ⟨List.forall_mem_cons.mpr ⟨mx_X3_pass_8, List.forall_mem_cons.mpr ⟨mx_X3_pass_9, List.forall_mem_cons.mpr ⟨mx_X3_pass_2, fun _ h_ => absurd h_ List.not_mem_nil⟩⟩⟩, (fun _ h_ => mb_X3_pass_wsX30 h_)⟩⟩) (by decide +kernel)
theorem mx_X3_pass_3 : Cond.methodLink RX3 87 yX3_windOn ∈ wsX3_pass := mb_X3_pass_wsX3_pass_r1 (List.mem_of_getElem? (i := 2) rfl)
theorem mx_X3_pass_4 : Cond.instanceMethod yX3_windOn ∈ wsX3_pass := mb_X3_pass_wsX3_pass_r1 (List.mem_of_getElem? (i := 3) rfl)
theorem mx_X3_pass_5 : Cond.selects RX3 yX3_windOn yX3_windOn ∈ wsX3_pass := mb_X3_pass_wsX3_pass_r1 (List.mem_of_getElem? (i := 4) rfl)
theorem gX3_pass_X3_windOn : GoodIn wsX3_pass (wsV RX3 87 RX3 yX3_windOn wsX3_windOn) := goodIn_app (goodIn_sub (List.forall_mem_cons.mpr ⟨mx_X3_pass_3, List.forall_mem_cons.mpr ⟨mx_X3_pass_4, List.forall_mem_cons.mpr ⟨mx_X3_pass_5, List.forall_mem_cons.mpr ⟨mx_X3_pass_6, fun _ h_ => absurd h_ List.not_mem_nil⟩⟩⟩⟩) (by decide +kernel)) ggX3_pass_X3_windOn
theorem mx_X3_tellOf_9 : Cond.code yX3_isLoose cX3_isLoose 2 (some .boolean) ∈ wsX3_tellOf := by unfold wsX3_tellOf; exact List.mem_cons_of_mem _ (List.mem_append_left _ (List.mem_of_getElem? (i := 8) rfl))
theorem mx_X3_tellOf_3 : Cond.fieldLink RX3 24 "MillTalk$Level" "hows" "[I" ∈ wsX3_tellOf := by unfold wsX3_tellOf; exact List.mem_cons_of_mem _ (List.mem_append_left _ (List.mem_of_getElem? (i := 2) rfl))
theorem mb_X3_tellOf_wsX30 {w : Cond} (h : w ∈ wsX30) : w ∈ wsX3_tellOf := by unfold wsX3_tellOf; exact List.mem_cons_of_mem _ (List.mem_append_right _ (h))
theorem ggX3_tellOf_X3_isLoose : GoodIn wsX3_tellOf wsX3_isLoose := goodIn_sub (by unfold wsX3_isLoose; exact List.forall_mem_cons.mpr ⟨mx_X3_tellOf_9, List.forall_mem_append.mpr ⟨List.forall_mem_cons.mpr ⟨mx_X3_tellOf_3, fun _ h_ => absurd h_ List.not_mem_nil⟩, (fun _ h_ => mb_X3_tellOf_wsX30 h_)⟩⟩) (by decide +kernel)
theorem mx_X3_tellOf_5 : Cond.methodLink RX3 58 yX3_isLoose ∈ wsX3_tellOf := by unfold wsX3_tellOf; exact List.mem_cons_of_mem _ (List.mem_append_left _ (List.mem_of_getElem? (i := 4) rfl))
theorem mx_X3_tellOf_6 : Cond.instanceMethod yX3_isLoose ∈ wsX3_tellOf := by unfold wsX3_tellOf; exact List.mem_cons_of_mem _ (List.mem_append_left _ (List.mem_of_getElem? (i := 5) rfl))
theorem mx_X3_tellOf_7 : Cond.selects RX3 yX3_isLoose yX3_isLoose ∈ wsX3_tellOf := by unfold wsX3_tellOf; exact List.mem_cons_of_mem _ (List.mem_append_left _ (List.mem_of_getElem? (i := 6) rfl))
theorem mx_X3_tellOf_8 : Cond.initialized RX3 ∈ wsX3_tellOf := by unfold wsX3_tellOf; exact List.mem_cons_of_mem _ (List.mem_append_left _ (List.mem_of_getElem? (i := 7) rfl))
theorem gX3_tellOf_X3_isLoose : GoodIn wsX3_tellOf (wsV RX3 58 RX3 yX3_isLoose wsX3_isLoose) := goodIn_app (goodIn_sub (List.forall_mem_cons.mpr ⟨mx_X3_tellOf_5, List.forall_mem_cons.mpr ⟨mx_X3_tellOf_6, List.forall_mem_cons.mpr ⟨mx_X3_tellOf_7, List.forall_mem_cons.mpr ⟨mx_X3_tellOf_8, fun _ h_ => absurd h_ List.not_mem_nil⟩⟩⟩⟩) (by decide +kernel)) ggX3_tellOf_X3_isLoose
theorem mb_X3_becomeLike_wsX30 {w : Cond} (h : w ∈ wsX30) : w ∈ wsX3_becomeLike := by unfold wsX3_becomeLike; exact List.mem_cons_of_mem _ (List.mem_append_right _ (h))
theorem i_X3_becomeLike_X3 : ∀ w ∈ u_ws RX3 TX3 13, w ∈ wsX3_becomeLike := fun _ h_ => mb_X3_becomeLike_wsX30 h_
theorem mb_X3_begin_wsX30 {w : Cond} (h : w ∈ wsX30) : w ∈ wsX3_begin := by unfold wsX3_begin; exact List.mem_cons_of_mem _ (List.mem_append_right _ (h))
theorem i_X3_begin_X3 : ∀ w ∈ u_ws RX3 TX3 13, w ∈ wsX3_begin := fun _ h_ => mb_X3_begin_wsX30 h_
theorem mb_X3_driftOf_wsX30 {w : Cond} (h : w ∈ wsX30) : w ∈ wsX3_driftOf := by unfold wsX3_driftOf; exact List.mem_cons_of_mem _ (List.mem_append_right _ (h))
theorem i_X3_driftOf_X3 : ∀ w ∈ u_ws RX3 TX3 13, w ∈ wsX3_driftOf := fun _ h_ => mb_X3_driftOf_wsX30 h_
theorem mb_X3_grindsAt_wsX30 {w : Cond} (h : w ∈ wsX30) : w ∈ wsX3_grindsAt := by unfold wsX3_grindsAt; exact List.mem_cons_of_mem _ (List.mem_append_right _ (h))
theorem i_X3_grindsAt_X3 : ∀ w ∈ u_ws RX3 TX3 13, w ∈ wsX3_grindsAt := fun _ h_ => mb_X3_grindsAt_wsX30 h_
theorem mb_X3_hasCell_wsX30 {w : Cond} (h : w ∈ wsX30) : w ∈ wsX3_hasCell := by unfold wsX3_hasCell; exact List.mem_cons_of_mem _ (List.mem_append_right _ (h))
theorem i_X3_hasCell_X3 : ∀ w ∈ u_ws RX3 TX3 13, w ∈ wsX3_hasCell := fun _ h_ => mb_X3_hasCell_wsX30 h_
theorem mb_X3_hasSound_wsX30 {w : Cond} (h : w ∈ wsX30) : w ∈ wsX3_hasSound := by unfold wsX3_hasSound; exact List.mem_cons_of_mem _ (List.mem_append_right _ (h))
theorem i_X3_hasSound_X3 : ∀ w ∈ u_ws RX3 TX3 13, w ∈ wsX3_hasSound := fun _ h_ => mb_X3_hasSound_wsX30 h_
theorem mb_X3_hasWind_wsX30 {w : Cond} (h : w ∈ wsX30) : w ∈ wsX3_hasWind := by unfold wsX3_hasWind; exact List.mem_cons_of_mem _ (List.mem_append_right _ (h))
theorem i_X3_hasWind_X3 : ∀ w ∈ u_ws RX3 TX3 13, w ∈ wsX3_hasWind := fun _ h_ => mb_X3_hasWind_wsX30 h_
theorem mb_X3_isLoose_wsX30 {w : Cond} (h : w ∈ wsX30) : w ∈ wsX3_isLoose := by unfold wsX3_isLoose; exact List.mem_cons_of_mem _ (List.mem_append_right _ (h))
theorem i_X3_isLoose_X3 : ∀ w ∈ u_ws RX3 TX3 13, w ∈ wsX3_isLoose := fun _ h_ => mb_X3_isLoose_wsX30 h_
theorem mb_X3_isTold_wsX30 {w : Cond} (h : w ∈ wsX30) : w ∈ wsX3_isTold := by unfold wsX3_isTold; exact List.mem_cons_of_mem _ (List.mem_append_right _ (h))
theorem i_X3_isTold_X3 : ∀ w ∈ u_ws RX3 TX3 13, w ∈ wsX3_isTold := fun _ h_ => mb_X3_isTold_wsX30 h_
theorem mb_X3_letLoose_wsX30 {w : Cond} (h : w ∈ wsX30) : w ∈ wsX3_letLoose := by unfold wsX3_letLoose; exact List.mem_cons_of_mem _ (List.mem_append_right _ (h))
theorem i_X3_letLoose_X3 : ∀ w ∈ u_ws RX3 TX3 13, w ∈ wsX3_letLoose := fun _ h_ => mb_X3_letLoose_wsX30 h_
theorem mb_X3_loudBehindHour_wsX30 {w : Cond} (h : w ∈ wsX30) : w ∈ wsX3_loudBehindHour := by unfold wsX3_loudBehindHour; exact List.mem_cons_of_mem _ (List.mem_append_right _ (h))
theorem i_X3_loudBehindHour_X3 : ∀ w ∈ u_ws RX3 TX3 13, w ∈ wsX3_loudBehindHour := fun _ h_ => mb_X3_loudBehindHour_wsX30 h_
theorem mb_X3_loudOf_wsX30 {w : Cond} (h : w ∈ wsX30) : w ∈ wsX3_loudOf := by unfold wsX3_loudOf; exact List.mem_cons_of_mem _ (List.mem_append_right _ (h))
theorem i_X3_loudOf_X3 : ∀ w ∈ u_ws RX3 TX3 13, w ∈ wsX3_loudOf := fun _ h_ => mb_X3_loudOf_wsX30 h_
theorem i_X3_mealBehind_X3 : ∀ w ∈ u_ws RX3 TX3 13, w ∈ wsX3_mealBehind := fun _ h_ => mb_X3_mealBehind_wsX30 h_
theorem i_X3_pass_X3 : ∀ w ∈ u_ws RX3 TX3 13, w ∈ wsX3_pass := fun _ h_ => mb_X3_pass_wsX30 h_
theorem i_X3_passOnly_X3 : ∀ w ∈ u_ws RX3 TX3 13, w ∈ wsX3_passOnly := fun _ h_ => mb_X3_passOnly_wsX30 h_
theorem i_X3_passSound_X3 : ∀ w ∈ u_ws RX3 TX3 13, w ∈ wsX3_passSound := fun _ h_ => mb_X3_passSound_wsX30 h_
theorem mb_X3_soundsThatAre_wsX30 {w : Cond} (h : w ∈ wsX30) : w ∈ wsX3_soundsThatAre := by unfold wsX3_soundsThatAre; exact List.mem_cons_of_mem _ (List.mem_append_right _ (h))
theorem i_X3_soundsThatAre_X3 : ∀ w ∈ u_ws RX3 TX3 13, w ∈ wsX3_soundsThatAre := fun _ h_ => mb_X3_soundsThatAre_wsX30 h_
theorem i_X3_tellOf_X3 : ∀ w ∈ u_ws RX3 TX3 13, w ∈ wsX3_tellOf := fun _ h_ => mb_X3_tellOf_wsX30 h_
theorem mb_X3_turnCap_wsX30 {w : Cond} (h : w ∈ wsX30) : w ∈ wsX3_turnCap := by unfold wsX3_turnCap; exact List.mem_cons_of_mem _ (List.mem_append_right _ (h))
theorem i_X3_turnCap_X3 : ∀ w ∈ u_ws RX3 TX3 13, w ∈ wsX3_turnCap := fun _ h_ => mb_X3_turnCap_wsX30 h_
theorem mb_X3_turnWind_wsX30 {w : Cond} (h : w ∈ wsX30) : w ∈ wsX3_turnWind := by unfold wsX3_turnWind; exact List.mem_cons_of_mem _ (List.mem_append_right _ (h))
theorem i_X3_turnWind_X3 : ∀ w ∈ u_ws RX3 TX3 13, w ∈ wsX3_turnWind := fun _ h_ => mb_X3_turnWind_wsX30 h_
theorem mb_X3_windOn_wsX30 {w : Cond} (h : w ∈ wsX30) : w ∈ wsX3_windOn := by unfold wsX3_windOn; exact List.mem_cons_of_mem _ (List.mem_append_right _ (h))
theorem i_X3_windOn_X3 : ∀ w ∈ u_ws RX3 TX3 13, w ∈ wsX3_windOn := fun _ h_ => mb_X3_windOn_wsX30 h_
theorem mx_X3_isTold_1 : Cond.fieldLink RX3 27 "MillTalk$Level" "cells" "I" ∈ wsX3_isTold := by unfold wsX3_isTold; exact List.mem_cons_of_mem _ (List.mem_append_left _ (List.mem_of_getElem? (i := 0) rfl))
theorem mx_X3_hasCell_1 : Cond.fieldLink RX3 27 "MillTalk$Level" "cells" "I" ∈ wsX3_hasCell := by unfold wsX3_hasCell; exact List.mem_cons_of_mem _ (List.mem_append_left _ (List.mem_of_getElem? (i := 0) rfl))
theorem mx_X3_hasSound_1 : Cond.fieldLink RX3 49 "MillTalk$Level" "soundCount" "I" ∈ wsX3_hasSound := by unfold wsX3_hasSound; exact List.mem_cons_of_mem _ (List.mem_append_left _ (List.mem_of_getElem? (i := 0) rfl))
theorem mx_X3_hasWind_1 : Cond.fieldLink RX3 46 "MillTalk$Level" "windCount" "I" ∈ wsX3_hasWind := by unfold wsX3_hasWind; exact List.mem_cons_of_mem _ (List.mem_append_left _ (List.mem_of_getElem? (i := 0) rfl))
theorem mx_X3_isLoose_1 : Cond.fieldLink RX3 24 "MillTalk$Level" "hows" "[I" ∈ wsX3_isLoose := by unfold wsX3_isLoose; exact List.mem_cons_of_mem _ (List.mem_append_left _ (List.mem_of_getElem? (i := 0) rfl))
theorem mx_X3_soundsThatAre_1 : Cond.fieldLink RX3 49 "MillTalk$Level" "soundCount" "I" ∈ wsX3_soundsThatAre := by unfold wsX3_soundsThatAre; exact List.mem_cons_of_mem _ (List.mem_append_left _ (List.mem_of_getElem? (i := 0) rfl))
theorem mx_X3_soundsThatAre_2 : Cond.fieldLink RX3 24 "MillTalk$Level" "hows" "[I" ∈ wsX3_soundsThatAre := by unfold wsX3_soundsThatAre; exact List.mem_cons_of_mem _ (List.mem_append_left _ (List.mem_of_getElem? (i := 1) rfl))
theorem mx_X3_loudOf_1 : Cond.fieldLink RX3 49 "MillTalk$Level" "soundCount" "I" ∈ wsX3_loudOf := by unfold wsX3_loudOf; exact List.mem_cons_of_mem _ (List.mem_append_left _ (List.mem_of_getElem? (i := 0) rfl))
theorem mx_X3_loudOf_2 : Cond.fieldLink RX3 21 "MillTalk$Level" "louds" "[I" ∈ wsX3_loudOf := by unfold wsX3_loudOf; exact List.mem_cons_of_mem _ (List.mem_append_left _ (List.mem_of_getElem? (i := 1) rfl))
theorem mx_X3_tellOf_4 : Cond.fieldLink RX3 21 "MillTalk$Level" "louds" "[I" ∈ wsX3_tellOf := by unfold wsX3_tellOf; exact List.mem_cons_of_mem _ (List.mem_append_left _ (List.mem_of_getElem? (i := 3) rfl))
theorem mx_X3_tellOf_2 : Cond.constant RX3 62 (-1000000) ∈ wsX3_tellOf := by unfold wsX3_tellOf; exact List.mem_cons_of_mem _ (List.mem_append_left _ (List.mem_of_getElem? (i := 1) rfl))
theorem mx_X3_tellOf_1 : Cond.fieldLink RX3 18 "MillTalk$Level" "places" "[I" ∈ wsX3_tellOf := by unfold wsX3_tellOf; exact List.mem_cons_of_mem _ (List.mem_append_left _ (List.mem_of_getElem? (i := 0) rfl))
theorem mx_X3_windOn_1 : Cond.fieldLink RX3 46 "MillTalk$Level" "windCount" "I" ∈ wsX3_windOn := by unfold wsX3_windOn; exact List.mem_cons_of_mem _ (List.mem_append_left _ (List.mem_of_getElem? (i := 0) rfl))
theorem mx_X3_windOn_2 : Cond.fieldLink RX3 9 "MillTalk$Level" "winds" "[I" ∈ wsX3_windOn := by unfold wsX3_windOn; exact List.mem_cons_of_mem _ (List.mem_append_left _ (List.mem_of_getElem? (i := 1) rfl))
theorem mx_X3_windOn_3 : Cond.fieldLink RX3 40 "MillTalk$Level" "hour" "I" ∈ wsX3_windOn := by unfold wsX3_windOn; exact List.mem_cons_of_mem _ (List.mem_append_left _ (List.mem_of_getElem? (i := 2) rfl))
theorem mx_X3_driftOf_1 : Cond.fieldLink RX3 15 "MillTalk$Level" "kinds" "[I" ∈ wsX3_driftOf := by unfold wsX3_driftOf; exact List.mem_cons_of_mem _ (List.mem_append_left _ (List.mem_of_getElem? (i := 0) rfl))
theorem mx_X3_loudBehindHour_1 : Cond.fieldLink RX3 15 "MillTalk$Level" "kinds" "[I" ∈ wsX3_loudBehindHour := by unfold wsX3_loudBehindHour; exact List.mem_cons_of_mem _ (List.mem_append_left _ (List.mem_of_getElem? (i := 0) rfl))
theorem mx_X3_loudBehindHour_2 : Cond.fieldLink RX3 21 "MillTalk$Level" "louds" "[I" ∈ wsX3_loudBehindHour := by unfold wsX3_loudBehindHour; exact List.mem_cons_of_mem _ (List.mem_append_left _ (List.mem_of_getElem? (i := 1) rfl))
theorem mx_X3_loudBehindHour_3 : Cond.methodLink RX3 63 Lib.Math.min.name ∈ wsX3_loudBehindHour := by unfold wsX3_loudBehindHour; exact List.mem_cons_of_mem _ (List.mem_append_left _ (List.mem_of_getElem? (i := 2) rfl))
theorem mx_X3_loudBehindHour_4 : Cond.static Lib.Math.min.name ∈ wsX3_loudBehindHour := by unfold wsX3_loudBehindHour; exact List.mem_cons_of_mem _ (List.mem_append_left _ (List.mem_of_getElem? (i := 3) rfl))
theorem mx_X3_loudBehindHour_5 : Cond.initialized "java/lang/Math" ∈ wsX3_loudBehindHour := by unfold wsX3_loudBehindHour; exact List.mem_cons_of_mem _ (List.mem_append_left _ (List.mem_of_getElem? (i := 4) rfl))
theorem mx_X3_loudBehindHour_6 : Cond.code Lib.Math.min.name Lib.Math.min.code 2 (some .int) ∈ wsX3_loudBehindHour := by unfold wsX3_loudBehindHour; exact List.mem_cons_of_mem _ (List.mem_append_left _ (List.mem_of_getElem? (i := 5) rfl))
theorem mx_X3_grindsAt_1 : Cond.fieldLink RX3 37 "MillTalk$Level" "cap" "I" ∈ wsX3_grindsAt := by unfold wsX3_grindsAt; exact List.mem_cons_of_mem _ (List.mem_append_left _ (List.mem_of_getElem? (i := 0) rfl))
theorem mx_X3_grindsAt_2 : Cond.fieldLink RX3 31 "MillTalk$Level" "mill" "I" ∈ wsX3_grindsAt := by unfold wsX3_grindsAt; exact List.mem_cons_of_mem _ (List.mem_append_left _ (List.mem_of_getElem? (i := 1) rfl))
theorem mx_X3_grindsAt_3 : Cond.fieldLink RX3 34 "MillTalk$Level" "reach" "I" ∈ wsX3_grindsAt := by unfold wsX3_grindsAt; exact List.mem_cons_of_mem _ (List.mem_append_left _ (List.mem_of_getElem? (i := 2) rfl))
theorem mx_X3_turnCap_1 : Cond.fieldLink RX3 37 "MillTalk$Level" "cap" "I" ∈ wsX3_turnCap := by unfold wsX3_turnCap; exact List.mem_cons_of_mem _ (List.mem_append_left _ (List.mem_of_getElem? (i := 0) rfl))
theorem mx_X3_turnWind_1 : Cond.fieldLink RX3 46 "MillTalk$Level" "windCount" "I" ∈ wsX3_turnWind := by unfold wsX3_turnWind; exact List.mem_cons_of_mem _ (List.mem_append_left _ (List.mem_of_getElem? (i := 0) rfl))
theorem mx_X3_turnWind_2 : Cond.fieldLink RX3 40 "MillTalk$Level" "hour" "I" ∈ wsX3_turnWind := by unfold wsX3_turnWind; exact List.mem_cons_of_mem _ (List.mem_append_left _ (List.mem_of_getElem? (i := 1) rfl))
theorem mx_X3_turnWind_3 : Cond.fieldLink RX3 9 "MillTalk$Level" "winds" "[I" ∈ wsX3_turnWind := by unfold wsX3_turnWind; exact List.mem_cons_of_mem _ (List.mem_append_left _ (List.mem_of_getElem? (i := 2) rfl))
theorem mx_X3_letLoose_1 : Cond.fieldLink RX3 18 "MillTalk$Level" "places" "[I" ∈ wsX3_letLoose := by unfold wsX3_letLoose; exact List.mem_cons_of_mem _ (List.mem_append_left _ (List.mem_of_getElem? (i := 0) rfl))
theorem mx_X3_letLoose_2 : Cond.fieldLink RX3 21 "MillTalk$Level" "louds" "[I" ∈ wsX3_letLoose := by unfold wsX3_letLoose; exact List.mem_cons_of_mem _ (List.mem_append_left _ (List.mem_of_getElem? (i := 1) rfl))
theorem mx_X3_letLoose_3 : Cond.fieldLink RX3 24 "MillTalk$Level" "hows" "[I" ∈ wsX3_letLoose := by unfold wsX3_letLoose; exact List.mem_cons_of_mem _ (List.mem_append_left _ (List.mem_of_getElem? (i := 2) rfl))
theorem mx_X3_passSound_3 : Cond.fieldLink RX3 43 "MillTalk$Level" "meal" "I" ∈ wsX3_passSound := mb_X3_passSound_wsX3_passSound_r1 (List.mem_of_getElem? (i := 2) rfl)
theorem mx_X3_pass_1 : Cond.fieldLink RX3 49 "MillTalk$Level" "soundCount" "I" ∈ wsX3_pass := mb_X3_pass_wsX3_pass_r1 (List.mem_of_getElem? (i := 0) rfl)
theorem mx_X3_begin_1 : Cond.fieldLink RX3 27 "MillTalk$Level" "cells" "I" ∈ wsX3_begin := by unfold wsX3_begin; exact List.mem_cons_of_mem _ (List.mem_append_left _ (List.mem_of_getElem? (i := 0) rfl))
theorem mx_X3_begin_2 : Cond.fieldLink RX3 31 "MillTalk$Level" "mill" "I" ∈ wsX3_begin := by unfold wsX3_begin; exact List.mem_cons_of_mem _ (List.mem_append_left _ (List.mem_of_getElem? (i := 1) rfl))
theorem mx_X3_begin_3 : Cond.fieldLink RX3 34 "MillTalk$Level" "reach" "I" ∈ wsX3_begin := by unfold wsX3_begin; exact List.mem_cons_of_mem _ (List.mem_append_left _ (List.mem_of_getElem? (i := 2) rfl))
theorem mx_X3_begin_4 : Cond.fieldLink RX3 37 "MillTalk$Level" "cap" "I" ∈ wsX3_begin := by unfold wsX3_begin; exact List.mem_cons_of_mem _ (List.mem_append_left _ (List.mem_of_getElem? (i := 3) rfl))
theorem mx_X3_begin_5 : Cond.fieldLink RX3 40 "MillTalk$Level" "hour" "I" ∈ wsX3_begin := by unfold wsX3_begin; exact List.mem_cons_of_mem _ (List.mem_append_left _ (List.mem_of_getElem? (i := 4) rfl))
theorem mx_X3_begin_6 : Cond.fieldLink RX3 43 "MillTalk$Level" "meal" "I" ∈ wsX3_begin := by unfold wsX3_begin; exact List.mem_cons_of_mem _ (List.mem_append_left _ (List.mem_of_getElem? (i := 5) rfl))
theorem mx_X3_begin_7 : Cond.fieldLink RX3 46 "MillTalk$Level" "windCount" "I" ∈ wsX3_begin := by unfold wsX3_begin; exact List.mem_cons_of_mem _ (List.mem_append_left _ (List.mem_of_getElem? (i := 6) rfl))
theorem mx_X3_begin_8 : Cond.fieldLink RX3 49 "MillTalk$Level" "soundCount" "I" ∈ wsX3_begin := by unfold wsX3_begin; exact List.mem_cons_of_mem _ (List.mem_append_left _ (List.mem_of_getElem? (i := 7) rfl))
theorem mx_X3_becomeLike_1 : Cond.fieldLink RX3 27 "MillTalk$Level" "cells" "I" ∈ wsX3_becomeLike := by unfold wsX3_becomeLike; exact List.mem_cons_of_mem _ (List.mem_append_left _ (List.mem_of_getElem? (i := 0) rfl))
theorem mx_X3_becomeLike_2 : Cond.fieldLink RX3 31 "MillTalk$Level" "mill" "I" ∈ wsX3_becomeLike := by unfold wsX3_becomeLike; exact List.mem_cons_of_mem _ (List.mem_append_left _ (List.mem_of_getElem? (i := 1) rfl))
theorem mx_X3_becomeLike_3 : Cond.fieldLink RX3 34 "MillTalk$Level" "reach" "I" ∈ wsX3_becomeLike := by unfold wsX3_becomeLike; exact List.mem_cons_of_mem _ (List.mem_append_left _ (List.mem_of_getElem? (i := 2) rfl))
theorem mx_X3_becomeLike_4 : Cond.fieldLink RX3 37 "MillTalk$Level" "cap" "I" ∈ wsX3_becomeLike := by unfold wsX3_becomeLike; exact List.mem_cons_of_mem _ (List.mem_append_left _ (List.mem_of_getElem? (i := 3) rfl))
theorem mx_X3_becomeLike_5 : Cond.fieldLink RX3 40 "MillTalk$Level" "hour" "I" ∈ wsX3_becomeLike := by unfold wsX3_becomeLike; exact List.mem_cons_of_mem _ (List.mem_append_left _ (List.mem_of_getElem? (i := 4) rfl))
theorem mx_X3_becomeLike_6 : Cond.fieldLink RX3 43 "MillTalk$Level" "meal" "I" ∈ wsX3_becomeLike := by unfold wsX3_becomeLike; exact List.mem_cons_of_mem _ (List.mem_append_left _ (List.mem_of_getElem? (i := 5) rfl))
theorem mx_X3_becomeLike_7 : Cond.fieldLink RX3 46 "MillTalk$Level" "windCount" "I" ∈ wsX3_becomeLike := by unfold wsX3_becomeLike; exact List.mem_cons_of_mem _ (List.mem_append_left _ (List.mem_of_getElem? (i := 6) rfl))
theorem mx_X3_becomeLike_8 : Cond.fieldLink RX3 49 "MillTalk$Level" "soundCount" "I" ∈ wsX3_becomeLike := by unfold wsX3_becomeLike; exact List.mem_cons_of_mem _ (List.mem_append_left _ (List.mem_of_getElem? (i := 7) rfl))
theorem mx_X3_becomeLike_9 : Cond.fieldLink RX3 9 "MillTalk$Level" "winds" "[I" ∈ wsX3_becomeLike := by unfold wsX3_becomeLike; exact List.mem_cons_of_mem _ (List.mem_append_left _ (List.mem_of_getElem? (i := 8) rfl))
theorem mx_X3_becomeLike_10 : Cond.methodLink RX3 52 arraycopyName ∈ wsX3_becomeLike := by unfold wsX3_becomeLike; exact List.mem_cons_of_mem _ (List.mem_append_left _ (List.mem_of_getElem? (i := 9) rfl))
theorem mx_X3_becomeLike_11 : Cond.native arraycopyName ∈ wsX3_becomeLike := by unfold wsX3_becomeLike; exact List.mem_cons_of_mem _ (List.mem_append_left _ (List.mem_of_getElem? (i := 10) rfl))
theorem mx_X3_becomeLike_12 : Cond.static arraycopyName ∈ wsX3_becomeLike := by unfold wsX3_becomeLike; exact List.mem_cons_of_mem _ (List.mem_append_left _ (List.mem_of_getElem? (i := 11) rfl))
theorem mx_X3_becomeLike_13 : Cond.initialized "java/lang/System" ∈ wsX3_becomeLike := by unfold wsX3_becomeLike; exact List.mem_cons_of_mem _ (List.mem_append_left _ (List.mem_of_getElem? (i := 12) rfl))
theorem mx_X3_becomeLike_14 : Cond.fieldLink RX3 15 "MillTalk$Level" "kinds" "[I" ∈ wsX3_becomeLike := by unfold wsX3_becomeLike; exact List.mem_cons_of_mem _ (List.mem_append_left _ (List.mem_of_getElem? (i := 13) rfl))
theorem mx_X3_becomeLike_15 : Cond.fieldLink RX3 18 "MillTalk$Level" "places" "[I" ∈ wsX3_becomeLike := by unfold wsX3_becomeLike; exact List.mem_cons_of_mem _ (List.mem_append_left _ (List.mem_of_getElem? (i := 14) rfl))
theorem mx_X3_becomeLike_16 : Cond.fieldLink RX3 21 "MillTalk$Level" "louds" "[I" ∈ wsX3_becomeLike := by unfold wsX3_becomeLike; exact List.mem_cons_of_mem _ (List.mem_append_left _ (List.mem_of_getElem? (i := 15) rfl))
theorem mx_X3_becomeLike_17 : Cond.fieldLink RX3 24 "MillTalk$Level" "hows" "[I" ∈ wsX3_becomeLike := by unfold wsX3_becomeLike; exact List.mem_cons_of_mem _ (List.mem_append_left _ (List.mem_of_getElem? (i := 16) rfl))
