/-! foretold: one sound by itself, and all of them -/
section FORE
variable {v0 v1 v2 v3 : Int32} {g1 g2 : RF} {ww kk hh : Nat}
/-- what is known of sound i in two states -/
noncomputable def eqI (i : Nat) (s t : LSt) : Prop := s.2.1 i = t.2.1 i ∧ s.2.2.1 i = t.2.2.1 i ∧ s.2.2.2 i = t.2.2.2 i
theorem ps_other {i j : Nat} {n : Int32} {s : LSt} (h : j ≠ i) : eqI j (psX v0 v1 v2 v3 g2 i n s) s := by
  unfold psX eqI
  split
  · exact ⟨rfl, rfl, rfl⟩
  · split
    · exact ⟨rfl, rfl, pk_un h⟩
    · split
      · exact ⟨pk_un h, pk_un h, (pk_un h).trans (pk_un h)⟩
      · exact ⟨pk_un h, pk_un h, pk_un h⟩
theorem ps_same {i : Nat} {n : Int32} {s t : LSt} (h : eqI i s t) : eqI i (psX v0 v1 v2 v3 g2 i n s) (psX v0 v1 v2 v3 g2 i n t) := by
  obtain ⟨h1, h2, h3⟩ := id h
  have c : cX g2 i n s = cX g2 i n t := by unfold cX; rw [h1]
  have l : lX g2 i s = lX g2 i t := by unfold lX; rw [h2]
  have lo : loX v0 g2 i n s ↔ loX v0 g2 i n t := by unfold loX; rw [c, l]
  have gr : grX v1 v2 v3 (cX g2 i n s) n ↔ grX v1 v2 v3 (cX g2 i n t) n := by rw [c]
  unfold psX
  by_cases q : s.2.2.2 i = 0
  · have q' : t.2.2.2 i = 0 := h3.symm.trans q
    have n1 : ¬ ¬ s.2.2.2 i = 0 := fun z => z q
    have n2 : ¬ ¬ t.2.2.2 i = 0 := fun z => z q'
    rw [if_neg n1, if_neg n2]
    by_cases q2 : loX v0 g2 i n s
    · rw [if_pos q2, if_pos (lo.mp q2)]
      exact ⟨h1, h2, pk_us.trans pk_us.symm⟩
    · have n3 : ¬ loX v0 g2 i n t := fun z => q2 (lo.mpr z)
      rw [if_neg q2, if_neg n3]
      by_cases q3 : grX v1 v2 v3 (cX g2 i n s) n
      · rw [if_pos q3, if_pos (gr.mp q3)]
        exact ⟨pk_us.trans (c.trans pk_us.symm), pk_us.trans (l.trans pk_us.symm), pk_us.trans pk_us.symm⟩
      · have n4 : ¬ grX v1 v2 v3 (cX g2 i n t) n := fun z => q3 (gr.mpr z)
        rw [if_neg q3, if_neg n4]
        exact ⟨pk_us.trans (c.trans pk_us.symm), pk_us.trans (l.trans pk_us.symm), pk_us.trans pk_us.symm⟩
  · have q' : ¬ t.2.2.2 i = 0 := fun z => q (h3.trans z)
    rw [if_pos q, if_pos q']
    exact h
theorem eqI.tr {i : Nat} {s t u : LSt} (h : eqI i s t) (h2 : eqI i t u) : eqI i s u := ⟨h.1.trans h2.1, h.2.1.trans h2.2.1, h.2.2.trans h2.2.2⟩
theorem eqI.sy {i : Nat} {s t : LSt} (h : eqI i s t) : eqI i t s := ⟨h.1.symm, h.2.1.symm, h.2.2.symm⟩
theorem pa_at {i : Nat} {n : Int32} {s : LSt} : ∀ k : Nat, (k ≤ i → eqI i (paX v0 v1 v2 v3 g2 n k s) s) ∧ (i < k → eqI i (paX v0 v1 v2 v3 g2 n k s) (psX v0 v1 v2 v3 g2 i n s))
  | 0 => ⟨fun _ => ⟨rfl, rfl, rfl⟩, fun h => absurd h (Nat.not_lt_zero i)⟩
  | k + 1 => by
    obtain ⟨a, b⟩ := pa_at (i := i) (n := n) (s := s) k
    refine ⟨fun h => ?_, fun h => ?_⟩
    · exact (ps_other (by omega)).tr (a (by omega))
    · by_cases q : i = k
      · subst q
        exact ps_same (a (Nat.le_refl _))
      · exact (ps_other q).tr (b (by omega))
/-- one sound by itself goes as it goes among the others -/
theorem po_pm {i : Nat} {s : LSt} (hi : i < kk) : ∀ t : Nat, eqI i (poX v0 v1 v2 v3 g1 ww hh g2 i t s) (pmX v0 v1 v2 v3 g1 ww hh kk g2 t s)
  | 0 => ⟨rfl, rfl, rfl⟩
  | t + 1 => (ps_same (po_pm hi t)).tr (((pa_at kk).2 hi).sy)
/-- hours of all: the one and the other -/
theorem pm_row {H : Nat} {v5 : Int32} {g3 g4 g5 : RF} (hk : kk ≤ 6) (hw : ww ≤ 6) (hr : okRow H (nrm v0 v1 v2 v3 hh v5 ww kk g1 g2 g3 g4 g5)) : ∀ t : Nat, hh + t < 2 ^ 31 → nrm v0 v1 v2 v3 (hh + t) (pmX v0 v1 v2 v3 g1 ww hh kk g2 t (v5, g3, g4, g5)).1 ww kk g1 g2 (pmX v0 v1 v2 v3 g1 ww hh kk g2 t (v5, g3, g4, g5)).2.1 (pmX v0 v1 v2 v3 g1 ww hh kk g2 t (v5, g3, g4, g5)).2.2.1 (pmX v0 v1 v2 v3 g1 ww hh kk g2 t (v5, g3, g4, g5)).2.2.2 = mGo t (nrm v0 v1 v2 v3 hh v5 ww kk g1 g2 g3 g4 g5) ∧ okRow (H + t) (mGo t (nrm v0 v1 v2 v3 hh v5 ww kk g1 g2 g3 g4 g5))
  | 0, _ => ⟨rfl, hr⟩
  | t + 1, ht => by
    obtain ⟨a, b⟩ := pm_row hk hw hr t (by omega)
    rw [← a] at b
    obtain ⟨p1, p2⟩ := pass_row hk hw (by omega) b (Eq.refl (paX v0 v1 v2 v3 g2 (wdX g1 ww (hh + t) 0) kk ((pmX v0 v1 v2 v3 g1 ww hh kk g2 t (v5, g3, g4, g5)).1, (pmX v0 v1 v2 v3 g1 ww hh kk g2 t (v5, g3, g4, g5)).2.1, (pmX v0 v1 v2 v3 g1 ww hh kk g2 t (v5, g3, g4, g5)).2.2.1, (pmX v0 v1 v2 v3 g1 ww hh kk g2 t (v5, g3, g4, g5)).2.2.2)))
    have e : mGo (t + 1) (nrm v0 v1 v2 v3 hh v5 ww kk g1 g2 g3 g4 g5) = mH (mGo t (nrm v0 v1 v2 v3 hh v5 ww kk g1 g2 g3 g4 g5)) := rfl
    rw [a] at p1
    rw [e, ← p1]
    exact ⟨rfl, p2⟩
end FORE
/-- of a sound behind n hours: its place, how it is, how loud it is -/
theorem po_row {H i t : Nat} {v0 v1 v2 v3 v5 : Int32} {ww kk hh : Nat} {g1 g2 g3 g4 g5 : RF} (hk : kk ≤ 6) (hw : ww ≤ 6) (hi : i < kk) (hr : okRow H (nrm v0 v1 v2 v3 hh v5 ww kk g1 g2 g3 g4 g5)) (ht : hh + t < 2 ^ 31) : (poX v0 v1 v2 v3 g1 ww hh g2 i t (v5, g3, g4, g5)).2.1 i = mGo t (nrm v0 v1 v2 v3 hh v5 ww kk g1 g2 g3 g4 g5) (20 + i) ∧ (poX v0 v1 v2 v3 g1 ww hh g2 i t (v5, g3, g4, g5)).2.2.1 i = mGo t (nrm v0 v1 v2 v3 hh v5 ww kk g1 g2 g3 g4 g5) (32 + i) ∧ (poX v0 v1 v2 v3 g1 ww hh g2 i t (v5, g3, g4, g5)).2.2.2 i = mGo t (nrm v0 v1 v2 v3 hh v5 ww kk g1 g2 g3 g4 g5) (26 + i) := by
  obtain ⟨a, -⟩ := pm_row hk hw hr t ht
  obtain ⟨b1, b2, b3⟩ := po_pm (v0 := v0) (v1 := v1) (v2 := v2) (v3 := v3) (g1 := g1) (g2 := g2) (ww := ww) (hh := hh) (s := (v5, g3, g4, g5)) hi t
  rw [← a, nrg3 hi hk, nrg4 hi hk, nrg5 hi hk]
  exact ⟨b1, b2, b3⟩
/-! what an hour leaves alone on the row -/
noncomputable abbrev loP (j : Nat) : Prop := j < 5 ∨ j = 6 ∨ (8 ≤ j ∧ j < 20)
theorem mDr_lo {f : RF} {i j : Nat} {n : Int32} (hi : i < 6) (hj : loP j ∨ j = 5 ∨ j = 7) : mDr f i n j = f j := by
  unfold mDr
  split
  · exact pk_un (by omega)
  · rw [pk_un (by omega), pk_un (by omega), pk_un (by omega)]
theorem mSt_lo {n : Int32} {i j : Nat} {s : MG} (hi : i < 6) (hj : loP j ∨ j = 5 ∨ j = 7) : (mSt n i s).1 j = s.1 j := by
  have h : mD1 s.1 i n j = s.1 j := by
    unfold mD1
    split
    · exact mDr_lo hi hj
    · rfl
  unfold mSt
  split
  · show upd (mD1 s.1 i n) (26 + i) 1 j = _
    rw [pk_un (by omega)]
    exact h
  · exact h
theorem mHs_lo {n : Int32} {j : Nat} {s : MG} (hj : loP j ∨ j = 5 ∨ j = 7) : ∀ i : Nat, i ≤ 6 → (mHs n i s).1 j = s.1 j
  | 0, _ => rfl
  | i + 1, h => (mSt_lo (by omega) hj).trans (mHs_lo hj i (by omega))
theorem mH_lo {f : RF} {k j : Nat} (h4 : f 4 = nI k) (hk : k ≤ 6) (hj : loP j) : mH f j = f j := by
  unfold mH mLs
  rw [h4, nI_clamp (by omega), pk_un (by omega), pk_un (by omega)]
  exact mHs_lo (Or.inl hj) k hk
theorem mGo_lo {f : RF} {k j : Nat} (h4 : f 4 = nI k) (hk : k ≤ 6) (hj : loP j) : ∀ t : Nat, mGo t f j = f j
  | 0 => rfl
  | t + 1 => (mH_lo ((mGo_lo h4 hk (by omega) t).trans h4) hk hj).trans (mGo_lo h4 hk hj t)
theorem mGo_c {f : RF} {w k : Nat} (h3 : f 3 = nI w) (hw : w ≤ 6) (h1 : 1 ≤ w) (h4 : f 4 = nI k) (hk : k ≤ 6) : ∀ t : Nat, m38 (mGo t f) = mGo t (m38 f)
  | 0 => rfl
  | t + 1 => by
    have a := mGo_c h3 hw h1 h4 hk t
    have b := mH_c (f := mGo t f) ((mGo_lo h4 hk (by omega) t).trans h3) hw h1 ((mGo_lo h4 hk (by omega) t).trans h4) hk
    show m38 (mH (mGo t f)) = mH (mGo t (m38 f))
    rw [b, a]
/-! specs -/
noncomputable def tlR (q : RF) (s : Nat) (w : Int32) : Int32 := if w = 0 then (if q (26 + s) = 0 then q (20 + s) else -1000000) else if w = 1 then q (26 + s) else q (32 + s)
noncomputable def a_ahd (r : RF) (s n w : Int32) : Int32 := if ¬ (¬ s < 0 ∧ ¬ r 4 ≤ s) ∨ (n < 0 ∨ 60 < n) ∨ (w < 0 ∨ 2 < w) then -1000001 else tlR (mGo n.toNatClampNeg r) s.toNatClampNeg w
noncomputable def a_meal (r : RF) (n : Int32) : Int32 := if r 0 = 0 then -1000002 else if n < 0 ∨ 60 < n then -1000001 else mGo n.toNatClampNeg r 7
/-- the first hour from t on, at most f later, in which sound s is so -/
noncomputable def whN (r : RF) (s : Nat) (w : Int32) : Nat → Nat → Int32
  | 0, t => if mGo t r (26 + s) = w then nI t else -1000000
  | f + 1, t => if mGo t r (26 + s) = w then nI t else whN r s w f (t + 1)
noncomputable def a_when (r : RF) (s w : Int32) : Int32 := if ¬ (¬ s < 0 ∧ ¬ r 4 ≤ s) ∨ (w < 1 ∨ 2 < w) then -1000001 else whN r s.toNatClampNeg w 60 0
/-- where the mill should stand: the best of the first c cells, and what is had there -/
noncomputable def stF (r : RF) (n : Nat) : Nat → Int32 × Int32
  | 0 => (-1, -1)
  | c + 1 => if (stF r n c).2 < mGo n (upd r 1 (nI c)) 7 then (nI c, mGo n (upd r 1 (nI c)) 7) else stF r n c
noncomputable def a_site (r : RF) (n w : Int32) : Int32 := if r 0 = 0 then -1000002 else if (n < 1 ∨ 30 < n) ∨ (w < 0 ∨ 1 < w) then -1000001 else if w = 0 then (stF r n.toNatClampNeg (r 0).toNatClampNeg).1 else (stF r n.toNatClampNeg (r 0).toNatClampNeg).2
section FX
variable {v0 v1 v2 v3 v5 : Int32} {hh ww kk : Nat} {g1 g2 g3 g4 g5 f1 f2 f3 f4 f5 : RF}
theorem ahd_X {H j t : Nat} {v5n : Int32} {g3n g4n g5n : RF} (hr : okRow H (nrm v0 v1 v2 v3 hh v5 ww kk g1 g2 g3 g4 g5)) (hw : ww ≤ 6) (hk : kk ≤ 6) (hj : j < kk) (ht : hh + t < 2 ^ 31) (c1 : ∀ j : Nat, j < 6 → f1 j = g1 j) (c2 : ∀ j : Nat, j < 6 → f2 j = g2 j) (c3 : ∀ j : Nat, j < 6 → f3 j = g3 j) (c4 : ∀ j : Nat, j < 6 → f4 j = g4 j) (c5 : ∀ j : Nat, j < 6 → f5 j = g5 j) (e : poX v0 v1 v2 v3 f1 ww hh f2 j t (v5, f3, f4, f5) = (v5n, g3n, g4n, g5n)) : g3n j = mGo t (nrm v0 v1 v2 v3 hh v5 ww kk g1 g2 g3 g4 g5) (20 + j) ∧ g4n j = mGo t (nrm v0 v1 v2 v3 hh v5 ww kk g1 g2 g3 g4 g5) (32 + j) ∧ g5n j = mGo t (nrm v0 v1 v2 v3 hh v5 ww kk g1 g2 g3 g4 g5) (26 + j) := by
  have q := nr_eq (v0 := v0) (v1 := v1) (v2 := v2) (v3 := v3) (v5 := v5) (hh := hh) hw hk c1 c2 c3 c4 c5
  rw [← q] at hr ⊢
  have p := po_row hk hw hj hr ht
  rw [e] at p
  exact p
theorem meal_X {H t : Nat} {r : Int32} (hr : okRow H (nrm v0 v1 v2 v3 hh v5 ww kk g1 g2 g3 g4 g5)) (hw : ww ≤ 6) (hk : kk ≤ 6) (ht : hh + t < 2 ^ 31) (c1 : ∀ j : Nat, j < 6 → f1 j = g1 j) (c2 : ∀ j : Nat, j < 6 → f2 j = g2 j) (c3 : ∀ j : Nat, j < 6 → f3 j = g3 j) (c4 : ∀ j : Nat, j < 6 → f4 j = g4 j) (c5 : ∀ j : Nat, j < 6 → f5 j = g5 j) (e : r = (pmX v0 v1 v2 v3 f1 ww hh kk f2 t (v5, f3, f4, f5)).1) : r = mGo t (nrm v0 v1 v2 v3 hh v5 ww kk g1 g2 g3 g4 g5) 7 := by
  have q := nr_eq (v0 := v0) (v1 := v1) (v2 := v2) (v3 := v3) (v5 := v5) (hh := hh) hw hk c1 c2 c3 c4 c5
  rw [← q] at hr ⊢
  rw [← (pm_row hk hw hr t ht).1, e]
  rfl
theorem ahd_n {r : RF} {s n w : Int32} (h : ¬ (¬ s < 0 ∧ ¬ r 4 ≤ s) ∨ (n < 0 ∨ 60 < n) ∨ (w < 0 ∨ 2 < w)) : (-1000001 : Int32) = a_ahd r s n w := (if_pos h).symm
theorem ahd_g {r : RF} {j t k : Nat} {w : Int32} (h4 : r 4 = nI k) (hk : k ≤ 6) (hj : j < k) (ht : t < 61) (q : ¬ (w < 0 ∨ 2 < w)) : a_ahd r (nI j) (nI t) w = tlR (mGo t r) j w := by
  have g : ¬ (¬ (¬ nI j < 0 ∧ ¬ r 4 ≤ nI j) ∨ (nI t < 0 ∨ 60 < nI t) ∨ (w < 0 ∨ 2 < w)) := by
    rw [h4]
    rintro (z | (z | z) | z)
    · exact z (sB_ok hj (by omega))
    · exact nI_pos (by omega) z
    · exact n60 ht z
    · exact q z
  have e1 : (nI j).toNatClampNeg = j := nI_clamp (by omega)
  have e2 : (nI t).toNatClampNeg = t := nI_clamp (by omega)
  unfold a_ahd
  rw [if_neg g, e1, e2]
theorem toldX (hL : okLv (nrm v0 v1 v2 v3 hh v5 ww kk g1 g2 g3 g4 g5)) (hw : ww ≤ 6) (hk : kk ≤ 6) (hH : hh ≤ 999) (h1 : 1 ≤ kk) : 0 < v0 ∧ okRow 999 (nrm v0 v1 v2 v3 hh v5 ww kk g1 g2 g3 g4 g5) := by
  obtain ⟨a, b⟩ := tX hL hw hk (by omega)
  have p : 0 < v0 := Decidable.byContradiction (fun q => by
    have := (a q).2.1
    omega)
  exact ⟨p, (b p).2.2.2⟩
theorem ahd_do {j t : Nat} {w r v5n : Int32} {g3n g4n g5n : RF} (hL : okLv (nrm v0 v1 v2 v3 hh v5 ww kk g1 g2 g3 g4 g5)) (hw : ww ≤ 6) (hk : kk ≤ 6) (hH : hh ≤ 999) (hj : j < kk) (ht : t < 61) (c9 : ¬ w < 0) (c10 : w ≤ 2) (c1 : ∀ j : Nat, j < 6 → f1 j = g1 j) (c2 : ∀ j : Nat, j < 6 → f2 j = g2 j) (c3 : ∀ j : Nat, j < 6 → f3 j = g3 j) (c4 : ∀ j : Nat, j < 6 → f4 j = g4 j) (c5 : ∀ j : Nat, j < 6 → f5 j = g5 j) (e : poX v0 v1 v2 v3 f1 ww hh f2 j t (v5, f3, f4, f5) = (v5n, g3n, g4n, g5n)) (h : r = tlX g3n g4n g5n j w) : r = a_ahd (nrm v0 v1 v2 v3 hh v5 ww kk g1 g2 g3 g4 g5) (nI j) (nI t) w := by
  obtain ⟨-, hr⟩ := toldX hL hw hk hH (by omega)
  obtain ⟨p1, p2, p3⟩ := ahd_X hr hw hk hj (by omega) c1 c2 c3 c4 c5 e
  rw [ahd_g nr4 hk hj ht (fun q => q.elim c9 (fun z => i_nlt.mpr c10 z)), h]
  unfold tlX tlR
  rw [p1, p2, p3]
theorem meal_do {t : Nat} {r : Int32} (hL : okLv (nrm v0 v1 v2 v3 hh v5 ww kk g1 g2 g3 g4 g5)) (hw : ww ≤ 6) (hk : kk ≤ 6) (hH : hh ≤ 999) (p : 0 < v0) (ht : t < 61) (c1 : ∀ j : Nat, j < 6 → f1 j = g1 j) (c2 : ∀ j : Nat, j < 6 → f2 j = g2 j) (c3 : ∀ j : Nat, j < 6 → f3 j = g3 j) (c4 : ∀ j : Nat, j < 6 → f4 j = g4 j) (c5 : ∀ j : Nat, j < 6 → f5 j = g5 j) (e : r = (pmX v0 v1 v2 v3 f1 ww hh kk f2 t (v5, f3, f4, f5)).1) : r = a_meal (nrm v0 v1 v2 v3 hh v5 ww kk g1 g2 g3 g4 g5) (nI t) := by
  obtain ⟨-, b⟩ := tX hL hw hk (by omega)
  obtain ⟨h0, -, -, hr⟩ := b p
  have z : ¬ nrm v0 v1 v2 v3 hh v5 ww kk g1 g2 g3 g4 g5 0 = 0 := h0
  have g : ¬ (nI t < 0 ∨ 60 < nI t) := fun q => q.elim (nI_pos (by omega)) (n60 ht)
  have e2 : (nI t).toNatClampNeg = t := nI_clamp (by omega)
  unfold a_meal
  rw [if_neg z, if_neg g, e2]
  exact meal_X hr hw hk (by omega) c1 c2 c3 c4 c5 e
theorem meal_0 {n : Int32} (hL : okLv (nrm v0 v1 v2 v3 hh v5 ww kk g1 g2 g3 g4 g5)) (hw : ww ≤ 6) (hk : kk ≤ 6) (hH : hh ≤ 999) (p : ¬ 0 < v0) : (-1000002 : Int32) = a_meal (nrm v0 v1 v2 v3 hh v5 ww kk g1 g2 g3 g4 g5) n := by
  obtain ⟨a, -⟩ := tX hL hw hk (by omega)
  have z : nrm v0 v1 v2 v3 hh v5 ww kk g1 g2 g3 g4 g5 0 = 0 := (a p).1
  unfold a_meal
  rw [if_pos z]
theorem meal_1 {r : RF} {n : Int32} (z : ¬ r 0 = 0) (q : n < 0 ∨ 60 < n) : (-1000001 : Int32) = a_meal r n := by
  unfold a_meal
  rw [if_neg z, if_pos q]
theorem nz_X (hL : okLv (nrm v0 v1 v2 v3 hh v5 ww kk g1 g2 g3 g4 g5)) (hw : ww ≤ 6) (hk : kk ≤ 6) (hH : hh ≤ 999) (p : 0 < v0) : ¬ nrm v0 v1 v2 v3 hh v5 ww kk g1 g2 g3 g4 g5 0 = 0 := ((tX hL hw hk (by omega)).2 p).1
end FX
/-! when -/
theorem whN_hit {r : RF} {s : Nat} {w : Int32} : ∀ (f t i : Nat), t ≤ i → i ≤ t + f → (∀ j : Nat, t ≤ j → j < i → ¬ mGo j r (26 + s) = w) → mGo i r (26 + s) = w → whN r s w f t = nI i
  | 0, t, i, h1, h2, _, h => by
    obtain rfl : t = i := by omega
    exact if_pos h
  | f + 1, t, i, h1, h2, hn, h => by
    by_cases q : t = i
    · subst q
      exact if_pos h
    · have h3 := whN_hit f (t + 1) i (by omega) (by omega) (fun j a b => hn j (by omega) b) h
      exact (if_neg (hn t (Nat.le_refl _) (by omega))).trans h3
theorem whN_no {r : RF} {s : Nat} {w : Int32} : ∀ (f t : Nat), (∀ j : Nat, t ≤ j → j ≤ t + f → ¬ mGo j r (26 + s) = w) → whN r s w f t = -1000000
  | 0, t, hn => if_neg (hn t (Nat.le_refl _) (by omega))
  | f + 1, t, hn => (if_neg (hn t (Nat.le_refl _) (by omega))).trans (whN_no f (t + 1) (fun j a b => hn j (by omega) (by omega)))
theorem when_n {r : RF} {s w : Int32} (h : ¬ (¬ s < 0 ∧ ¬ r 4 ≤ s) ∨ (w < 1 ∨ 2 < w)) : (-1000001 : Int32) = a_when r s w := (if_pos h).symm
theorem when_g {r : RF} {j k : Nat} {w : Int32} (h4 : r 4 = nI k) (hk : k ≤ 6) (hj : j < k) (q : ¬ (w < 1 ∨ 2 < w)) : a_when r (nI j) w = whN r j w 60 0 := by
  have g : ¬ (¬ (¬ nI j < 0 ∧ ¬ r 4 ≤ nI j) ∨ (w < 1 ∨ 2 < w)) := by
    rw [h4]
    rintro (z | z)
    · exact z (sB_ok hj (by omega))
    · exact q z
  have e1 : (nI j).toNatClampNeg = j := nI_clamp (by omega)
  unfold a_when
  rw [if_neg g, e1]
theorem when_hit {r : RF} {j k i : Nat} {w : Int32} (h4 : r 4 = nI k) (hk : k ≤ 6) (hj : j < k) (q : ¬ (w < 1 ∨ 2 < w)) (hi : i ≤ 60) (hn : ∀ t : Nat, t < i → ¬ mGo t r (26 + j) = w) (h : mGo i r (26 + j) = w) : nI i = a_when r (nI j) w := by
  rw [when_g h4 hk hj q]
  exact (whN_hit 60 0 i (Nat.zero_le _) (by omega) (fun t _ b => hn t b) h).symm
theorem when_no {r : RF} {j k : Nat} {w : Int32} (h4 : r 4 = nI k) (hk : k ≤ 6) (hj : j < k) (q : ¬ (w < 1 ∨ 2 < w)) (hn : ∀ t : Nat, t < 61 → ¬ mGo t r (26 + j) = w) : (-1000000 : Int32) = a_when r (nI j) w := by
  rw [when_g h4 hk hj q]
  exact (whN_no 60 0 (fun t _ b => hn t (by omega))).symm
/-- one hour more of one sound -/
theorem po_1 {v0 v1 v2 v3 : Int32} {g1 g2 : RF} {ww hh i t : Nat} {s s2 s3 : LSt} (h : poX v0 v1 v2 v3 g1 ww hh g2 i t s = s2) (h2 : poX v0 v1 v2 v3 g1 ww (hh + t) g2 i 1 s2 = s3) : poX v0 v1 v2 v3 g1 ww hh g2 i (t + 1) s = s3 := by
  show psX v0 v1 v2 v3 g2 i (wdX g1 ww (hh + t) 0) (poX v0 v1 v2 v3 g1 ww hh g2 i t s) = s3
  rw [h]
  exact h2
/-- what is seen of it, behind t hours, on the row -/
theorem po_how {v0 v1 v2 v3 v5 v5n : Int32} {hh ww kk i t : Nat} {g1 g2 g3 g4 g5 f1 f2 f3 f4 f5 g3n g4n g5n : RF} (hL : okLv (nrm v0 v1 v2 v3 hh v5 ww kk g1 g2 g3 g4 g5)) (hw : ww ≤ 6) (hk : kk ≤ 6) (hH : hh ≤ 999) (hi : i < kk) (ht : t ≤ 1000) (c1 : ∀ j : Nat, j < 6 → f1 j = g1 j) (c2 : ∀ j : Nat, j < 6 → f2 j = g2 j) (c3 : ∀ j : Nat, j < 6 → f3 j = g3 j) (c4 : ∀ j : Nat, j < 6 → f4 j = g4 j) (c5 : ∀ j : Nat, j < 6 → f5 j = g5 j) (e : poX v0 v1 v2 v3 f1 ww hh f2 i t (v5, f3, f4, f5) = (v5n, g3n, g4n, g5n)) : g3n i = mGo t (nrm v0 v1 v2 v3 hh v5 ww kk g1 g2 g3 g4 g5) (20 + i) ∧ g4n i = mGo t (nrm v0 v1 v2 v3 hh v5 ww kk g1 g2 g3 g4 g5) (32 + i) ∧ g5n i = mGo t (nrm v0 v1 v2 v3 hh v5 ww kk g1 g2 g3 g4 g5) (26 + i) := by
  obtain ⟨-, hr⟩ := toldX hL hw hk hH (by omega)
  exact ahd_X hr hw hk hi (by omega) c1 c2 c3 c4 c5 e
theorem wh_step {P : Nat → Prop} {i : Nat} (h : ∀ t : Nat, t < i → ¬ P t) (h2 : ¬ P i) : ∀ t : Nat, t < i + 1 → ¬ P t := fun t ht => by
  by_cases q : t = i
  · rw [q]
    exact h2
  · exact h t (by omega)
/-! where the mill should stand -/
theorem si_no {r : RF} {n c : Nat} {x m : Int32} (hm : m = (stF r n c).2) (hx : x = mGo n (upd r 1 (nI c)) 7) (h : x ≤ m) : stF r n (c + 1) = stF r n c := if_neg (by rw [← hm, ← hx]; exact i_nlt.mpr h)
theorem si_yes {r : RF} {n c : Nat} {x m : Int32} (hm : m = (stF r n c).2) (hx : x = mGo n (upd r 1 (nI c)) 7) (h : ¬ x ≤ m) : stF r n (c + 1) = (nI c, x) := by
  rw [hx]
  exact if_pos (by rw [← hm, ← hx]; exact i_nle.mp h)
theorem le_m1 {m : Nat} (h : m ≤ 999) : ¬ nI m ≤ -1 := by
  rw [Int32.le_iff_toInt_le, nI_toInt (by omega)]
  have e : (-1 : Int32).toInt = -1 := rfl
  omega
theorem si_b {r : RF} {n c : Nat} {x m b : Int32} (hm : m = (stF r n c).2) (hx : x = mGo n (upd r 1 (nI c)) 7) (hn : ∃ q : Nat, q ≤ 999 ∧ x = nI q) (h : x ≤ m) (hb : 0 < c → b = (stF r n c).1) : 0 < c + 1 → b = (stF r n (c + 1)).1 := fun _ => by
  rw [si_no hm hx h]
  refine hb ?_
  rcases Nat.eq_zero_or_pos c with q | q
  · subst q
    obtain ⟨a, ha, rfl⟩ := hn
    rw [hm] at h
    exact absurd h (le_m1 ha)
  · exact q
theorem site_n {r : RF} {n w : Int32} (h0 : ¬ r 0 = 0) (h : (n < 1 ∨ 30 < n) ∨ (w < 0 ∨ 1 < w)) : (-1000001 : Int32) = a_site r n w := by
  unfold a_site
  rw [if_neg h0, if_pos h]
theorem site_0 {r : RF} {n w : Int32} (h0 : r 0 = 0) : (-1000002 : Int32) = a_site r n w := by
  unfold a_site
  rw [if_pos h0]
theorem site_g {r : RF} {t c : Nat} {w : Int32} (h0 : r 0 = nI c) (hc : 1 ≤ c) (hc2 : c ≤ 15) (h1 : ¬ nI t < 1) (ht : t ≤ 30) (hw : ¬ (w < 0 ∨ 1 < w)) : a_site r (nI t) w = if w = 0 then (stF r t c).1 else (stF r t c).2 := by
  have z : ¬ r 0 = 0 := by
    rw [h0]
    exact nI_ne0 hc (by omega)
  have e1 : (nI t).toNatClampNeg = t := nI_clamp (by omega)
  have e2 : (nI c).toNatClampNeg = c := nI_clamp (by omega)
  have h2 : ¬ (30 : Int32) < nI t := fun q => absurd ((nI_ltI (a := 30) (b := t) (by omega) (by omega)).mp q) (by omega)
  have g : ¬ ((nI t < 1 ∨ 30 < nI t) ∨ (w < 0 ∨ 1 < w)) := by
    rintro ((q | q) | q)
    · exact h1 q
    · exact h2 q
    · exact hw q
  unfold a_site
  rw [if_neg z, if_neg g, h0, e1, e2]
theorem mGo_7 {H t : Nat} {r : RF} (h : okN H r) (hH : H + t < 2 ^ 30) : ∃ q : Nat, q ≤ 999 ∧ mGo t r 7 = nI q := by
  obtain ⟨v0, v1, v2, v3, hh, v5, ww, kk, g1, g2, g3, g4, g5, -, -, -, -, c, m, re, w, k, h_, ca, me, a, b, -, -⟩ := mGo_ok h t hH
  exact ⟨me, by omega, a.2.2.2.2.2.2.2⟩
section SI
variable {v0 v1 v2 v3 v5 : Int32} {hh ww kk cn c t : Nat} {g1 g2 g3 g4 g5 f1 f2 f3 f4 f5 : RF}
theorem cn_X (hL : okLv (nrm v0 v1 v2 v3 hh v5 ww kk g1 g2 g3 g4 g5)) (hw : ww ≤ 6) (hk : kk ≤ 6) (hH : hh ≤ 999) (p : 0 < v0) (h0 : cn < 2 ^ 31) (hcn : ∀ i : Nat, i < 2 ^ 31 → (v0 ≤ nI i ↔ cn ≤ i)) : v0 = nI cn ∧ 5 ≤ cn ∧ cn ≤ 15 := by
  obtain ⟨-, -, -, hr⟩ := (tX hL hw hk (by omega)).2 p
  obtain ⟨C, m, re, ca, me, E, B, -, -⟩ := okRow_X hr hw hk (by omega)
  have a := (hcn C (by omega)).mp (by rw [E.1]; exact (nI_leI (a := C) (b := C) (by omega) (by omega)).mpr (Nat.le_refl _))
  have b := (hcn cn h0).mpr (Nat.le_refl _)
  rw [E.1] at b
  have b2 := (nI_leI (a := C) (b := cn) (by omega) h0).mp b
  obtain rfl : cn = C := by omega
  exact ⟨E.1, B.1, B.2.1⟩
theorem mill_ok (hL : okLv (nrm v0 v1 v2 v3 hh v5 ww kk g1 g2 g3 g4 g5)) (hw : ww ≤ 6) (hk : kk ≤ 6) (hH : hh ≤ 999) (p : 0 < v0) (e0 : v0 = nI cn) (h15 : cn ≤ 15) (hc : c < cn) : okRow 999 (nrm v0 (nI c) v2 v3 hh v5 ww kk g1 g2 g3 g4 g5) := by
  obtain ⟨-, -, -, hr⟩ := (tX hL hw hk (by omega)).2 p
  obtain ⟨C, m, re, ca, me, ⟨E0, E1, E2, E3, E4⟩, ⟨B1, B2, B3, B4, B5, B6, B7, B8, B9⟩, W, S⟩ := okRow_X hr hw hk (by omega)
  have eC : C = cn := (nI_eq (by omega) (by omega)).mp (E0.symm.trans e0)
  exact okRow_of (c := C) (m := c) ⟨E0, rfl, E2, E3, E4⟩ ⟨B1, B2, by omega, B4, B5, B6, B7, B8, B9⟩ hw hk W S
theorem site_m {r : Int32} (hL : okLv (nrm v0 v1 v2 v3 hh v5 ww kk g1 g2 g3 g4 g5)) (hw : ww ≤ 6) (hk : kk ≤ 6) (hH : hh ≤ 999) (p : 0 < v0) (h0 : cn < 2 ^ 31) (hcn : ∀ i : Nat, i < 2 ^ 31 → (v0 ≤ nI i ↔ cn ≤ i)) (hc : c < cn) (ht : t ≤ 30) (c1 : ∀ j : Nat, j < 6 → f1 j = g1 j) (c2 : ∀ j : Nat, j < 6 → f2 j = g2 j) (c3 : ∀ j : Nat, j < 6 → f3 j = g3 j) (c4 : ∀ j : Nat, j < 6 → f4 j = g4 j) (c5 : ∀ j : Nat, j < 6 → f5 j = g5 j) (e : r = (pmX v0 (nI c) v2 v3 f1 ww hh kk f2 t (v5, f3, f4, f5)).1) : r = mGo t (upd (nrm v0 v1 v2 v3 hh v5 ww kk g1 g2 g3 g4 g5) 1 (nI c)) 7 ∧ ∃ q : Nat, q ≤ 999 ∧ r = nI q := by
  obtain ⟨e0, -, h15⟩ := cn_X hL hw hk hH p h0 hcn
  have hr := mill_ok hL hw hk hH p e0 h15 hc
  have h1 := meal_X hr hw hk (by omega) c1 c2 c3 c4 c5 e
  have hN : okN 999 (nrm v0 (nI c) v2 v3 hh v5 ww kk g1 g2 g3 g4 g5) := ⟨_, _, _, _, _, _, _, _, _, _, _, _, _, rfl, hH, hw, hk, hr⟩
  obtain ⟨q, q1, q2⟩ := mGo_7 (t := t) hN (by omega)
  rw [nru1]
  exact ⟨h1, q, q1, h1.trans q2⟩
theorem site_e {b m w : Int32} (hL : okLv (nrm v0 v1 v2 v3 hh v5 ww kk g1 g2 g3 g4 g5)) (hw : ww ≤ 6) (hk : kk ≤ 6) (hH : hh ≤ 999) (p : 0 < v0) (h0 : cn < 2 ^ 31) (hcn : ∀ i : Nat, i < 2 ^ 31 → (v0 ≤ nI i ↔ cn ≤ i)) (h1 : ¬ nI t < 1) (ht : t ≤ 30) (c6 : ¬ w < 0) (c7 : w ≤ 1) (hm : m = (stF (nrm v0 v1 v2 v3 hh v5 ww kk g1 g2 g3 g4 g5) t cn).2) (hb : 0 < cn → b = (stF (nrm v0 v1 v2 v3 hh v5 ww kk g1 g2 g3 g4 g5) t cn).1) : (¬ w = 0 → m = a_site (nrm v0 v1 v2 v3 hh v5 ww kk g1 g2 g3 g4 g5) (nI t) w) ∧ (w = 0 → b = a_site (nrm v0 v1 v2 v3 hh v5 ww kk g1 g2 g3 g4 g5) (nI t) w) := by
  obtain ⟨e0, h5, h15⟩ := cn_X hL hw hk hH p h0 hcn
  rw [site_g (c := cn) (nr0.trans e0) (by omega) h15 h1 ht (fun q => q.elim c6 (i_nlt.mpr c7))]
  exact ⟨fun q => hm.trans (if_neg q).symm, fun q => (hb (by omega)).trans (if_pos q).symm⟩
end SI
/-! what fits -/
noncomputable def hdR (q : RF) (s : Nat) : Int32 := if q (26 + s) = 0 then q (20 + s) else 99
noncomputable def ftB (r : RF) (s : Nat) (G : RF) : Nat → Bool
  | 0 => true
  | t + 1 => ftB r s G t && decide (hdR (mGo (t + 1) r) s = G t)
/-- of the values lo, lo + 1 .. below v those by which it is so -/
noncomputable def fitU (r : RF) (wh s : Nat) (G : RF) (n lo : Nat) : Nat → Int32
  | 0 => 0
  | v + 1 => if v < lo then 0 else fitU r wh s G n lo v ||| (if ftB (upd r wh (nI v)) s G n = true then (1 : Int32) <<< (nI v &&& 31) else 0)
section FT
variable {r : RF} {s t b n lo v wh : Nat} {G H : RF}
theorem ft_y (h : ftB r s G t = true) (e : hdR (mGo (t + 1) r) s = G t) : ftB r s G (t + 1) = true := by
  show (ftB r s G t && decide (hdR (mGo (t + 1) r) s = G t)) = true
  rw [h, decide_eq_true e]
  rfl
theorem ft_1 (h : ftB r s G (t + 1) = true) : ftB r s G t = true ∧ hdR (mGo (t + 1) r) s = G t := by
  have h2 : (ftB r s G t && decide (hdR (mGo (t + 1) r) s = G t)) = true := h
  rw [Bool.and_eq_true] at h2
  exact ⟨h2.1, of_decide_eq_true h2.2⟩
theorem ft_n (e : ¬ hdR (mGo (t + 1) r) s = G t) : ∀ b : Nat, t + 1 ≤ b → ¬ ftB r s G b = true
  | 0, h => absurd h (Nat.not_succ_le_zero _)
  | b + 1, h => fun q => by
    by_cases z : t = b
    · subst z
      exact e (ft_1 q).2
    · exact ft_n e b (by omega) (ft_1 q).1
theorem ft_c (h : ∀ t : Nat, t < b → G t = H t) : ftB r s G b = ftB r s H b := by
  induction b with
  | zero => rfl
  | succ b ih =>
    show (ftB r s G b && decide (hdR (mGo (b + 1) r) s = G b)) = (ftB r s H b && decide (hdR (mGo (b + 1) r) s = H b))
    rw [ih (fun t ht => h t (by omega)), h b (by omega)]
theorem fu_c (h : ∀ t : Nat, t < n → G t = H t) : ∀ v : Nat, fitU r wh s G n lo v = fitU r wh s H n lo v
  | 0 => rfl
  | v + 1 => by
    show (if v < lo then 0 else fitU r wh s G n lo v ||| (if ftB (upd r wh (nI v)) s G n = true then (1 : Int32) <<< (nI v &&& 31) else 0)) = (if v < lo then 0 else fitU r wh s H n lo v ||| (if ftB (upd r wh (nI v)) s H n = true then (1 : Int32) <<< (nI v &&& 31) else 0))
    rw [fu_c h v, ft_c h]
theorem fu_y {f x o : Int32} (hl : ¬ v < lo) (e : f = fitU r wh s G n lo v) (h : ftB (upd r wh (nI v)) s G n = true) (e1 : x = (1 : Int32) <<< (nI v &&& 31)) (e2 : o = f ||| x) : o = fitU r wh s G n lo (v + 1) := by
  show _ = (if v < lo then 0 else fitU r wh s G n lo v ||| (if ftB (upd r wh (nI v)) s G n = true then (1 : Int32) <<< (nI v &&& 31) else 0))
  rw [if_neg hl, if_pos h, e2, e, e1]
theorem fu_n {f o : Int32} (hl : ¬ v < lo) (e : f = fitU r wh s G n lo v) (h : ¬ ftB (upd r wh (nI v)) s G n = true) (e2 : o = f ||| 0) : o = fitU r wh s G n lo (v + 1) := by
  show _ = (if v < lo then 0 else fitU r wh s G n lo v ||| (if ftB (upd r wh (nI v)) s G n = true then (1 : Int32) <<< (nI v &&& 31) else 0))
  rw [if_neg hl, if_neg h, e2, e]
/-- a number of 15 bits -/
theorem fu_b : ∀ v : Nat, v ≤ 15 → ∃ z : Nat, z < 2 ^ v ∧ fitU r wh s G n lo v = nI z
  | 0, _ => ⟨0, by decide, rfl⟩
  | v + 1, hv => by
    obtain ⟨z, hz, e⟩ := fu_b v (by omega)
    have h2 : 2 ^ (v + 1) = 2 ^ v * 2 := Nat.pow_succ 2 v
    have h3 : 0 < 2 ^ v := Nat.two_pow_pos v
    show ∃ z : Nat, z < 2 ^ (v + 1) ∧ (if v < lo then 0 else fitU r wh s G n lo v ||| (if ftB (upd r wh (nI v)) s G n = true then (1 : Int32) <<< (nI v &&& 31) else 0)) = nI z
    rw [e, shlN v (by omega)]
    by_cases q : v < lo
    · rw [if_pos q]
      exact ⟨0, by omega, rfl⟩
    · rw [if_neg q]
      by_cases q2 : ftB (upd r wh (nI v)) s G n = true
      · rw [if_pos q2]
        obtain ⟨o1, o2⟩ := or_nat (a := z) (b := 2 ^ v) (n := v + 1) (by omega) (by omega) (by omega)
        exact ⟨_, o1, o2⟩
      · rw [if_neg q2]
        obtain ⟨o1, o2⟩ := or_nat (a := z) (b := 0) (n := v + 1) (by omega) (by omega) (by omega)
        exact ⟨_, o1, o2⟩
end FT
section FTX
variable {v0 v1 v2 v3 v5 w5 : Int32} {hh ww kk i t b : Nat} {g1 g2 g3 g4 g5 w3 w4 w6 f1 f2 f3 f4 f5 : RF} {u5 : Int32} {u3 u4 u6 G : RF}
theorem tf_h (hL : okLv (nrm v0 v1 v2 v3 hh v5 ww kk g1 g2 g3 g4 g5)) (hw : ww ≤ 6) (hk : kk ≤ 6) (hH : hh ≤ 999) (hi : i < kk) (ht : t + 1 ≤ 1000) (h : poX v0 v1 v2 v3 g1 ww hh g2 i t (v5, g3, g4, g5) = (w5, w3, w4, w6)) (h2 : poX v0 v1 v2 v3 g1 ww (hh + t) g2 i 1 (w5, w3, w4, w6) = (u5, u3, u4, u6)) : hdR (mGo (t + 1) (nrm v0 v1 v2 v3 hh v5 ww kk g1 g2 g3 g4 g5)) i = if u6 i = 0 then u3 i else 99 := by
  obtain ⟨a, -, c⟩ := po_how hL hw hk hH hi ht (fun _ _ => rfl) (fun _ _ => rfl) (fun _ _ => rfl) (fun _ _ => rfl) (fun _ _ => rfl) (po_1 h h2)
  unfold hdR
  rw [← a, ← c]
theorem tf_99 {x : Int32} (e : hdR (mGo (t + 1) (nrm v0 v1 v2 v3 hh v5 ww kk g1 g2 g3 g4 g5)) i = if u6 i = 0 then u3 i else 99) (h : ¬ u6 i = 0) (hx : x = G t) : (99 = x → hdR (mGo (t + 1) (nrm v0 v1 v2 v3 hh v5 ww kk g1 g2 g3 g4 g5)) i = G t) ∧ (¬ 99 = x → ¬ hdR (mGo (t + 1) (nrm v0 v1 v2 v3 hh v5 ww kk g1 g2 g3 g4 g5)) i = G t) := by
  rw [e, if_neg h, ← hx]
  exact ⟨id, id⟩
theorem tf_at {x y : Int32} (e : hdR (mGo (t + 1) (nrm v0 v1 v2 v3 hh v5 ww kk g1 g2 g3 g4 g5)) i = if u6 i = 0 then u3 i else 99) (h : u6 i = 0) (hy : y = u3 i) (hx : x = G t) : (y = x → hdR (mGo (t + 1) (nrm v0 v1 v2 v3 hh v5 ww kk g1 g2 g3 g4 g5)) i = G t) ∧ (¬ y = x → ¬ hdR (mGo (t + 1) (nrm v0 v1 v2 v3 hh v5 ww kk g1 g2 g3 g4 g5)) i = G t) := by
  rw [e, if_pos h, ← hx, ← hy]
  exact ⟨id, id⟩
theorem up_6 {f g u : RF} {x : Int32} (c : ∀ j : Nat, j < 6 → f j = g j) (e : u = upd f i x) : ∀ j : Nat, j < 6 → u j = upd g i x j := fun j hj => by
  rw [e]
  unfold upd
  split
  · rfl
  · exact c j hj
theorem fr_k {u : RF} {x : Int32} (hw : ww ≤ 6) (hk : kk ≤ 6) (hi : i < kk) (c1 : ∀ j : Nat, j < 6 → f1 j = g1 j) (c2 : ∀ j : Nat, j < 6 → f2 j = g2 j) (c3 : ∀ j : Nat, j < 6 → f3 j = g3 j) (c4 : ∀ j : Nat, j < 6 → f4 j = g4 j) (c5 : ∀ j : Nat, j < 6 → f5 j = g5 j) (e : u = upd f2 i x) : nrm v0 v1 v2 v3 hh v5 ww kk f1 u f3 f4 f5 = upd (nrm v0 v1 v2 v3 hh v5 ww kk g1 g2 g3 g4 g5) (14 + i) x := by
  rw [nrug2 hi hk]
  exact nr_eq hw hk c1 (up_6 c2 e) c3 c4 c5
theorem fr_p {u : RF} {x : Int32} (hw : ww ≤ 6) (hk : kk ≤ 6) (hi : i < kk) (c1 : ∀ j : Nat, j < 6 → f1 j = g1 j) (c2 : ∀ j : Nat, j < 6 → f2 j = g2 j) (c3 : ∀ j : Nat, j < 6 → f3 j = g3 j) (c4 : ∀ j : Nat, j < 6 → f4 j = g4 j) (c5 : ∀ j : Nat, j < 6 → f5 j = g5 j) (e : u = upd f3 i x) : nrm v0 v1 v2 v3 hh v5 ww kk f1 f2 u f4 f5 = upd (nrm v0 v1 v2 v3 hh v5 ww kk g1 g2 g3 g4 g5) (20 + i) x := by
  rw [nrug3 hi hk]
  exact nr_eq hw hk c1 c2 (up_6 c3 e) c4 c5
theorem fr_w {u : RF} {x : Int32} (hw : ww ≤ 6) (hk : kk ≤ 6) (ht : t < ww) (c1 : ∀ j : Nat, j < 6 → f1 j = g1 j) (c2 : ∀ j : Nat, j < 6 → f2 j = g2 j) (c3 : ∀ j : Nat, j < 6 → f3 j = g3 j) (c4 : ∀ j : Nat, j < 6 → f4 j = g4 j) (c5 : ∀ j : Nat, j < 6 → f5 j = g5 j) (e : u = upd f1 t x) : nrm v0 v1 v2 v3 hh v5 ww kk u f2 f3 f4 f5 = upd (nrm v0 v1 v2 v3 hh v5 ww kk g1 g2 g3 g4 g5) (8 + t) x := by
  rw [nrug1 ht hw]
  exact nr_eq hw hk (up_6 c1 e) c2 c3 c4 c5
theorem fr_r {x : Int32} (hw : ww ≤ 6) (hk : kk ≤ 6) (c1 : ∀ j : Nat, j < 6 → f1 j = g1 j) (c2 : ∀ j : Nat, j < 6 → f2 j = g2 j) (c3 : ∀ j : Nat, j < 6 → f3 j = g3 j) (c4 : ∀ j : Nat, j < 6 → f4 j = g4 j) (c5 : ∀ j : Nat, j < 6 → f5 j = g5 j) : nrm v0 v1 x v3 hh v5 ww kk f1 f2 f3 f4 f5 = upd (nrm v0 v1 v2 v3 hh v5 ww kk g1 g2 g3 g4 g5) 2 x := by
  rw [nru2]
  exact nr_eq hw hk c1 c2 c3 c4 c5
end FTX
/-! the bounds stay -/
section FTO
variable {v0 v1 v2 v3 v5 : Int32} {hh ww kk i t x : Nat} {g1 g2 g3 g4 g5 : RF}
theorem tl_s (hL : okLv (nrm v0 v1 v2 v3 hh v5 ww kk g1 g2 g3 g4 g5)) (hk : kk ≤ 6) (hi : i < kk) : okN 999 (nrm v0 v1 v2 v3 hh v5 ww kk g1 g2 g3 g4 g5) := told_s (s := nI i) hL (sB_ok hi (by omega))
theorem ok_knd {r : RF} (h : okN 999 r) {k : Nat} (e4 : r 4 = nI k) (hk : k ≤ 6) (hi : i < k) (h1 : 1 ≤ x) (h5 : x ≤ 5) : okN 999 (upd r (14 + i) (nI x)) := by
  obtain ⟨v0, v1, v2, v3, hh, v5, ww, kk, g1, g2, g3, g4, g5, c, m, re, ca, me, rfl, a, b, kb, E, B, W, S⟩ := okN_X h
  have ek : kk = k := (nI_eq (by omega) (by omega)).mp e4
  rw [nrug2 (by omega) kb]
  refine ⟨_, _, _, _, _, _, _, _, _, _, _, _, _, rfl, a, b, kb, okRow_of E B b kb W (fun j hj => ?_)⟩
  obtain ⟨a_, p, q, l, ⟨s1, s2, s3, s4⟩, t1, t2, t3, t4, t5, t6⟩ := S j hj
  by_cases z : j = i
  · subst z
    exact ⟨x, p, q, l, ⟨pk_us, s2, s3, s4⟩, h1, h5, t3, t4, t5, t6⟩
  · exact ⟨a_, p, q, l, ⟨(pk_un z).trans s1, s2, s3, s4⟩, t1, t2, t3, t4, t5, t6⟩
theorem ok_plc {r : RF} (h : okN 999 r) {k c : Nat} (e4 : r 4 = nI k) (hk : k ≤ 6) (hi : i < k) (e0 : r 0 = nI c) (hc : c ≤ 15) (hx : x < c) : okN 999 (upd r (20 + i) (nI x)) := by
  obtain ⟨v0, v1, v2, v3, hh, v5, ww, kk, g1, g2, g3, g4, g5, c_, m, re, ca, me, rfl, a, b, kb, E, B, W, S⟩ := okN_X h
  have ek : kk = k := (nI_eq (by omega) (by omega)).mp e4
  have ec : c_ = c := (nI_eq (by omega) (by omega)).mp (E.1.symm.trans e0)
  rw [nrug3 (by omega) kb]
  refine ⟨_, _, _, _, _, _, _, _, _, _, _, _, _, rfl, a, b, kb, okRow_of E B b kb W (fun j hj => ?_)⟩
  obtain ⟨a_, p, q, l, ⟨s1, s2, s3, s4⟩, t1, t2, t3, t4, t5, t6⟩ := S j hj
  by_cases z : j = i
  · subst z
    exact ⟨a_, x, q, l, ⟨s1, pk_us, s3, s4⟩, t1, t2, by omega, t4, t5, t6⟩
  · exact ⟨a_, p, q, l, ⟨s1, (pk_un z).trans s2, s3, s4⟩, t1, t2, t3, t4, t5, t6⟩
theorem ok_wnd {r : RF} (h : okN 999 r) {w : Nat} (e3 : r 3 = nI w) (hw : w ≤ 6) (ht : t < w) (hx : x ≤ 4) : okN 999 (upd r (8 + t) (nI x)) := by
  have h1 := wind_ok (w := nI t) (v := nI x) h ⟨by rw [e3]; exact sB_ok ht (by omega), fun q => q.elim (nI_pos (by omega)) (nI_nlt (a := 4) (by omega) (by decide))⟩
  rw [nI_clamp (by omega)] at h1
  exact h1
theorem ok_rch {r : RF} (h : okN 999 r) (hx : x ≤ 4) : okN 999 (upd r 2 (nI x)) := by
  obtain ⟨v0, v1, v2, v3, hh, v5, ww, kk, g1, g2, g3, g4, g5, c, m, re, ca, me, rfl, a, b, kb, ⟨E0, E1, E2, E3, E4⟩, ⟨B1, B2, B3, B4, B5, B6, B7, B8, B9⟩, W, S⟩ := okN_X h
  rw [nru2]
  exact ⟨_, _, _, _, _, _, _, _, _, _, _, _, _, rfl, a, b, kb, okRow_of (re := x) ⟨E0, E1, rfl, E3, E4⟩ ⟨B1, B2, B3, hx, B5, B6, B7, B8, B9⟩ b kb W S⟩
end FTO
section FTP
variable {v0 v1 v2 v3 v5 : Int32} {hh ww kk i cn : Nat} {g1 g2 g3 g4 g5 : RF}
theorem tl_p (hL : okLv (nrm v0 v1 v2 v3 hh v5 ww kk g1 g2 g3 g4 g5)) (hw : ww ≤ 6) (hk : kk ≤ 6) (hH : hh ≤ 999) (hi : i < kk) : 0 < v0 := by
  refine Decidable.byContradiction (fun q => ?_)
  have := ((tX hL hw hk (by omega)).1 q).2.1
  omega
theorem st_up (h : v0 = nI cn ∧ 5 ≤ cn ∧ cn ≤ 15) : cn = v0.toNatClampNeg := by
  rw [h.1, nI_clamp (by omega)]
end FTP
/-! who, gusts: what is answered, what is found -/
/-- the refusal (0: none), the finding -/
noncomputable def rfH (h l e y z : Int32) : Int32 := if ¬ h = 0 then -1000002 else if l = -1 then -1000011 else if plc e y z then 0 else -1000012
noncomputable def f_hr (h l e y z sg : Int32) : Int32 := if ¬ h = 0 then sg else if l = -1 then 1 else if plc e y z then 0 else 2
/-- the finding behind a refusal alone -/
noncomputable def rfS (h l e y z sg : Int32) : Int32 := if ¬ h = 0 then sg else if l = -1 then 1 else if plc e y z then sg else 2
noncomputable def a_who (r Rl Rn : RF) (I : ITm) (s w a i n : Int32) : Int32 :=
  if ¬ (¬ s < 0 ∧ ¬ r 4 ≤ s) ∨ (w < 0 ∨ 1 < w) ∨ hrB a n then -1000001
  else if ¬ rfH (r (26 + s.toNatClampNeg)) (Rl a.toNatClampNeg) (Rn a.toNatClampNeg) i n = 0 then rfH (r (26 + s.toNatClampNeg)) (Rl a.toNatClampNeg) (Rn a.toNatClampNeg) i n
  else if w = 0 then fitU r (14 + s.toNatClampNeg) s.toNatClampNeg (fun q => I a.toNatClampNeg (i.toNatClampNeg + q)) n.toNatClampNeg 1 6
  else fitU r (20 + s.toNatClampNeg) s.toNatClampNeg (fun q => I a.toNatClampNeg (i.toNatClampNeg + q)) n.toNatClampNeg 0 (r 0).toNatClampNeg
noncomputable def f_who (r Rl Rn : RF) (s w a i n sg : Int32) : Int32 :=
  if ¬ (¬ s < 0 ∧ ¬ r 4 ≤ s) ∨ (w < 0 ∨ 1 < w) ∨ hrB a n then sg else f_hr (r (26 + s.toNatClampNeg)) (Rl a.toNatClampNeg) (Rn a.toNatClampNeg) i n sg
noncomputable abbrev gsB (r : RF) (w : Int32) : Prop := ¬ w = -1 ∧ ¬ (¬ w < 0 ∧ ¬ r 3 ≤ w)
noncomputable def a_gus (r Rl Rn : RF) (I : ITm) (w s a i n : Int32) : Int32 :=
  if gsB r w ∨ ¬ (¬ s < 0 ∧ ¬ r 4 ≤ s) ∨ hrB a n then -1000001
  else if ¬ rfH (r (26 + s.toNatClampNeg)) (Rl a.toNatClampNeg) (Rn a.toNatClampNeg) i n = 0 then rfH (r (26 + s.toNatClampNeg)) (Rl a.toNatClampNeg) (Rn a.toNatClampNeg) i n
  else if w = -1 then fitU r 2 s.toNatClampNeg (fun q => I a.toNatClampNeg (i.toNatClampNeg + q)) n.toNatClampNeg 0 5
  else fitU r (8 + w.toNatClampNeg) s.toNatClampNeg (fun q => I a.toNatClampNeg (i.toNatClampNeg + q)) n.toNatClampNeg 0 5
noncomputable def f_gus (r Rl Rn : RF) (w s a i n sg : Int32) : Int32 :=
  if gsB r w ∨ ¬ (¬ s < 0 ∧ ¬ r 4 ≤ s) ∨ hrB a n then sg else f_hr (r (26 + s.toNatClampNeg)) (Rl a.toNatClampNeg) (Rn a.toNatClampNeg) i n sg
section WHO
variable {r Rl Rn : RF} {I : ITm} {s w a i n sg h l e y z : Int32} {j k p q m c x : Nat}
theorem hr_0 (h0 : ¬ h = 0) : rfH h l e y z = -1000002 ∧ f_hr h l e y z sg = sg := ⟨if_pos h0, if_pos h0⟩
theorem hr_1 (h0 : h = 0) (h1 : l = -1) : rfH h l e y z = -1000011 ∧ f_hr h l e y z sg = 1 := by
  have n0 : ¬ ¬ h = 0 := fun q => q h0
  unfold rfH f_hr
  rw [if_neg n0, if_neg n0, if_pos h1, if_pos h1]
  exact ⟨rfl, rfl⟩
theorem hr_2 (h0 : h = 0) (h1 : ¬ l = -1) (h2 : ¬ plc e y z) : rfH h l e y z = -1000012 ∧ f_hr h l e y z sg = 2 := by
  have n0 : ¬ ¬ h = 0 := fun q => q h0
  unfold rfH f_hr
  rw [if_neg n0, if_neg n0, if_neg h1, if_neg h1, if_neg h2, if_neg h2]
  exact ⟨rfl, rfl⟩
theorem hr_3 (h0 : h = 0) (h1 : ¬ l = -1) (h2 : plc e y z) : rfH h l e y z = 0 ∧ f_hr h l e y z sg = 0 := by
  have n0 : ¬ ¬ h = 0 := fun q => q h0
  unfold rfH f_hr
  rw [if_neg n0, if_neg n0, if_neg h1, if_neg h1, if_pos h2, if_pos h2]
  exact ⟨rfl, rfl⟩
theorem rfS_3 (h0 : h = 0) (h1 : ¬ l = -1) (h2 : plc e y z) : sg = rfS h l e y z sg := by
  have n0 : ¬ ¬ h = 0 := fun q => q h0
  unfold rfS
  rw [if_neg n0, if_neg h1, if_pos h2]
theorem rfS_0 (h0 : ¬ h = 0) : sg = rfS h l e y z sg := (if_pos h0).symm
theorem rfS_1 (h0 : h = 0) (h1 : l = -1) : (1 : Int32) = rfS h l e y z sg := by
  have n0 : ¬ ¬ h = 0 := fun q => q h0
  unfold rfS
  rw [if_neg n0, if_pos h1]
theorem rfS_2 (h0 : h = 0) (h1 : ¬ l = -1) (h2 : ¬ plc e y z) : (2 : Int32) = rfS h l e y z sg := by
  have n0 : ¬ ¬ h = 0 := fun q => q h0
  unfold rfS
  rw [if_neg n0, if_neg h1, if_neg h2]
theorem who_b (h : ¬ (¬ s < 0 ∧ ¬ r 4 ≤ s) ∨ (w < 0 ∨ 1 < w) ∨ hrB a n) : (-1000001 : Int32) = a_who r Rl Rn I s w a i n ∧ sg = f_who r Rl Rn s w a i n sg := ⟨(if_pos h).symm, (if_pos h).symm⟩
theorem who_g (h4 : r 4 = nI k) (hk : k ≤ 6) (hj : j < k) (hw : ¬ (w < 0 ∨ 1 < w)) (hp : p < 8) (hn : ¬ (nI m < 1 ∨ 12 < nI m)) (hm : m < 13) : a_who r Rl Rn I (nI j) w (nI p) i (nI m) = (if ¬ rfH (r (26 + j)) (Rl p) (Rn p) i (nI m) = 0 then rfH (r (26 + j)) (Rl p) (Rn p) i (nI m) else if w = 0 then fitU r (14 + j) j (fun q => I p (i.toNatClampNeg + q)) m 1 6 else fitU r (20 + j) j (fun q => I p (i.toNatClampNeg + q)) m 0 (r 0).toNatClampNeg) ∧ f_who r Rl Rn (nI j) w (nI p) i (nI m) sg = f_hr (r (26 + j)) (Rl p) (Rn p) i (nI m) sg := by
  have e1 : (nI j).toNatClampNeg = j := nI_clamp (by omega)
  have e2 : (nI p).toNatClampNeg = p := nI_clamp (by omega)
  have e3 : (nI m).toNatClampNeg = m := nI_clamp (by omega)
  have g : ¬ (¬ (¬ nI j < 0 ∧ ¬ r 4 ≤ nI j) ∨ (w < 0 ∨ 1 < w) ∨ hrB (nI p) (nI m)) := by
    rw [h4]
    rintro (z | z | z | z)
    · exact z (sB_ok hj (by omega))
    · exact hw z
    · exact nI_nb hp z
    · exact hn z
  unfold a_who f_who
  rw [if_neg g, if_neg g, e1, e2, e3]
  exact ⟨rfl, rfl⟩
theorem gus_b (h : gsB r w ∨ ¬ (¬ s < 0 ∧ ¬ r 4 ≤ s) ∨ hrB a n) : (-1000001 : Int32) = a_gus r Rl Rn I w s a i n ∧ sg = f_gus r Rl Rn w s a i n sg := ⟨(if_pos h).symm, (if_pos h).symm⟩
theorem gus_g (h4 : r 4 = nI k) (hk : k ≤ 6) (hj : j < k) (hw : ¬ gsB r w) (hp : p < 8) (hn : ¬ (nI m < 1 ∨ 12 < nI m)) (hm : m < 13) : a_gus r Rl Rn I w (nI j) (nI p) i (nI m) = (if ¬ rfH (r (26 + j)) (Rl p) (Rn p) i (nI m) = 0 then rfH (r (26 + j)) (Rl p) (Rn p) i (nI m) else if w = -1 then fitU r 2 j (fun q => I p (i.toNatClampNeg + q)) m 0 5 else fitU r (8 + w.toNatClampNeg) j (fun q => I p (i.toNatClampNeg + q)) m 0 5) ∧ f_gus r Rl Rn w (nI j) (nI p) i (nI m) sg = f_hr (r (26 + j)) (Rl p) (Rn p) i (nI m) sg := by
  have e1 : (nI j).toNatClampNeg = j := nI_clamp (by omega)
  have e2 : (nI p).toNatClampNeg = p := nI_clamp (by omega)
  have e3 : (nI m).toNatClampNeg = m := nI_clamp (by omega)
  have g : ¬ (gsB r w ∨ ¬ (¬ nI j < 0 ∧ ¬ r 4 ≤ nI j) ∨ hrB (nI p) (nI m)) := by
    rintro (z | z | z | z)
    · exact hw z
    · rw [h4] at z
      exact z (sB_ok hj (by omega))
    · exact nI_nb hp z
    · exact hn z
  unfold a_gus f_gus
  rw [if_neg g, if_neg g, e1, e2, e3]
  exact ⟨rfl, rfl⟩
theorem gs_m : ¬ gsB r (-1) := fun z => z.1 rfl
theorem gs_n (h3 : r 3 = nI k) (hk : k ≤ 6) (hj : j < k) : ¬ gsB r (nI j) := fun z => z.2 (by rw [h3]; exact sB_ok hj (by omega))
theorem gs_ne (hj : j < 100) : ¬ nI j = -1 := fun q => nI_pos (n := j) (by omega) (by rw [q]; decide)
end WHO
theorem tri_0 {X R A B w c : Int32} (G : X = if ¬ R = 0 then R else if w = c then A else B) (e : R = 0) (h : w = c) : A = X := (G.trans ((if_neg (fun z => z e)).trans (if_pos h))).symm
theorem tri_1 {X R A B w c : Int32} (G : X = if ¬ R = 0 then R else if w = c then A else B) (e : R = 0) (h : ¬ w = c) : B = X := (G.trans ((if_neg (fun z => z e)).trans (if_neg h))).symm
theorem tri_r {X R A B w c x : Int32} (G : X = if ¬ R = 0 then R else if w = c then A else B) (e : R = x) (hx : ¬ x = 0) : x = X := by
  rw [G, e, if_pos hx]
theorem cl_fit {r : RF} {wh s p pa n lo up : Nat} {I : ITm} (h : pa < 100) : fitU r wh s (fun q => I p (pa + q)) n lo up = fitU r wh s (fun q => I p ((nI pa).toNatClampNeg + q)) n lo up := by rw [nI_clamp (by omega)]
section WHX
variable {v0 v1 v2 v3 v5 w i sg : Int32} {hh ww kk j p m : Nat} {g1 g2 g3 g4 g5 fl fe : RF} {I : ITm}
theorem rf_X {h y z : Int32} (hp : p < 8) : rfH h (abl fl p) (abn fl fe p) y z = rfH h (fl p) (fe p) y z ∧ f_hr h (abl fl p) (abn fl fe p) y z sg = f_hr h (fl p) (fe p) y z sg := by
  rw [al_ hp]
  by_cases q : fl p = -1
  · unfold rfH f_hr
    rw [if_pos q, if_pos q, if_pos q, if_pos q]
    exact ⟨rfl, rfl⟩
  · rw [an_ hp q]
    exact ⟨rfl, rfl⟩
theorem whX_g (hk : kk ≤ 6) (hj : j < kk) (hw : ¬ (w < 0 ∨ 1 < w)) (hp : p < 8) (hn : ¬ (nI m < 1 ∨ 12 < nI m)) (hm : m < 13) : a_who (nrm v0 v1 v2 v3 hh v5 ww kk g1 g2 g3 g4 g5) (abl fl) (abn fl fe) I (nI j) w (nI p) i (nI m) = (if ¬ rfH (g5 j) (fl p) (fe p) i (nI m) = 0 then rfH (g5 j) (fl p) (fe p) i (nI m) else if w = 0 then fitU (nrm v0 v1 v2 v3 hh v5 ww kk g1 g2 g3 g4 g5) (14 + j) j (fun q => I p (i.toNatClampNeg + q)) m 1 6 else fitU (nrm v0 v1 v2 v3 hh v5 ww kk g1 g2 g3 g4 g5) (20 + j) j (fun q => I p (i.toNatClampNeg + q)) m 0 v0.toNatClampNeg) ∧ f_who (nrm v0 v1 v2 v3 hh v5 ww kk g1 g2 g3 g4 g5) (abl fl) (abn fl fe) (nI j) w (nI p) i (nI m) sg = f_hr (g5 j) (fl p) (fe p) i (nI m) sg := by
  obtain ⟨a, b⟩ := who_g (r := nrm v0 v1 v2 v3 hh v5 ww kk g1 g2 g3 g4 g5) (Rl := abl fl) (Rn := abn fl fe) (I := I) (i := i) (sg := sg) nr4 hk hj hw hp hn hm
  obtain ⟨c, d⟩ := rf_X (fl := fl) (fe := fe) (h := g5 j) (y := i) (z := nI m) (sg := sg) hp
  rw [nrg5 hj hk, c] at a
  rw [nrg5 hj hk, d] at b
  exact ⟨a, b⟩
theorem guX_g (hk : kk ≤ 6) (hj : j < kk) (hw : ¬ gsB (nrm v0 v1 v2 v3 hh v5 ww kk g1 g2 g3 g4 g5) w) (hp : p < 8) (hn : ¬ (nI m < 1 ∨ 12 < nI m)) (hm : m < 13) : a_gus (nrm v0 v1 v2 v3 hh v5 ww kk g1 g2 g3 g4 g5) (abl fl) (abn fl fe) I w (nI j) (nI p) i (nI m) = (if ¬ rfH (g5 j) (fl p) (fe p) i (nI m) = 0 then rfH (g5 j) (fl p) (fe p) i (nI m) else if w = -1 then fitU (nrm v0 v1 v2 v3 hh v5 ww kk g1 g2 g3 g4 g5) 2 j (fun q => I p (i.toNatClampNeg + q)) m 0 5 else fitU (nrm v0 v1 v2 v3 hh v5 ww kk g1 g2 g3 g4 g5) (8 + w.toNatClampNeg) j (fun q => I p (i.toNatClampNeg + q)) m 0 5) ∧ f_gus (nrm v0 v1 v2 v3 hh v5 ww kk g1 g2 g3 g4 g5) (abl fl) (abn fl fe) w (nI j) (nI p) i (nI m) sg = f_hr (g5 j) (fl p) (fe p) i (nI m) sg := by
  obtain ⟨a, b⟩ := gus_g (r := nrm v0 v1 v2 v3 hh v5 ww kk g1 g2 g3 g4 g5) (Rl := abl fl) (Rn := abn fl fe) (I := I) (i := i) (sg := sg) nr4 hk hj hw hp hn hm
  obtain ⟨c, d⟩ := rf_X (fl := fl) (fe := fe) (h := g5 j) (y := i) (z := nI m) (sg := sg) hp
  rw [nrg5 hj hk, c] at a
  rw [nrg5 hj hk, d] at b
  exact ⟨a, b⟩
theorem cl_w {r : RF} {s t n lo up : Nat} {G : RF} (h : t < 100) : fitU r (8 + t) s G n lo up = fitU r (8 + (nI t).toNatClampNeg) s G n lo up := by rw [nI_clamp (by omega)]
end WHX
/-! if winds drop -/
noncomputable def csN (d p : Nat) : Nat → Nat
  | 0 => 1
  | i + 1 => csN d p i * (if d.testBit i = true then p else 10 - p)
/-- the row with the winds of d calm -/
noncomputable def drS (r : RF) (d : Nat) : Nat → RF
  | 0 => r
  | i + 1 => if d.testBit i = true then upd (drS r d i) (8 + i) 2 else drS r d i
noncomputable abbrev grP (r : RF) (s n w d : Nat) : Prop := mGo n (drS r d w) (26 + s) = 1
noncomputable def abN (r : RF) (s n p w : Nat) : Nat → Nat
  | 0 => 0
  | d + 1 => abN r s n p w d + (if grP r s n w d then csN d p w else 0)
noncomputable def blN (p w : Nat) : Nat → Nat
  | 0 => 0
  | d + 1 => blN p w d + csN d p w
noncomputable def a_clm (r : RF) (s n p u : Int32) : Int64 := if ¬ (¬ s < 0 ∧ ¬ r 4 ≤ s) ∨ (n < 0 ∨ 60 < n) ∨ (p < 0 ∨ 10 < p) ∨ (u < 0 ∨ 1 < u) then -1000001 else lN ((if u = 0 then abN r s.toNatClampNeg n.toNatClampNeg p.toNatClampNeg (r 3).toNatClampNeg (2 ^ (r 3).toNatClampNeg) else 10 ^ (r 3).toNatClampNeg) / Nat.gcd (abN r s.toNatClampNeg n.toNatClampNeg p.toNatClampNeg (r 3).toNatClampNeg (2 ^ (r 3).toNatClampNeg)) (10 ^ (r 3).toNatClampNeg))
set_option maxRecDepth 100000 in
theorem bd_tab : ∀ d : Nat, d < 64 → ∀ k : Nat, k < 6 → (nI d >>> (nI k &&& 31) &&& 1 = 1 ↔ d.testBit k = true) := by decide +kernel
set_option maxRecDepth 100000 in
theorem bl_tab : ∀ p : Nat, p < 11 → ∀ w : Nat, w < 7 → blN p w (2 ^ w) = 10 ^ w := by decide +kernel
theorem ab_bl {r : RF} {s n p w : Nat} : ∀ d : Nat, abN r s n p w d ≤ blN p w d
  | 0 => Nat.le_refl _
  | d + 1 => by
    have h := ab_bl (r := r) (s := s) (n := n) (p := p) (w := w) d
    show abN r s n p w d + (if grP r s n w d then csN d p w else 0) ≤ blN p w d + csN d p w
    split <;> omega
theorem p10_le {w : Nat} (h : w ≤ 6) : 10 ^ w ≤ 1000000 ∧ 1 ≤ 10 ^ w := by
  rcases (show w = 0 ∨ w = 1 ∨ w = 2 ∨ w = 3 ∨ w = 4 ∨ w = 5 ∨ w = 6 by omega) with q | q | q | q | q | q | q <;> rw [q] <;> decide
theorem ab_le {r : RF} {s n p w : Nat} (hp : p ≤ 10) (hw : w ≤ 6) : abN r s n p w (2 ^ w) ≤ 10 ^ w := by
  have h := ab_bl (r := r) (s := s) (n := n) (p := p) (w := w) (2 ^ w)
  rw [bl_tab p (by omega) w (by omega)] at h
  exact h
section CLM
variable {r : RF} {s n p u : Int32} {j t q k w d i : Nat}
theorem clm_n (h : ¬ (¬ s < 0 ∧ ¬ r 4 ≤ s) ∨ (n < 0 ∨ 60 < n) ∨ (p < 0 ∨ 10 < p) ∨ (u < 0 ∨ 1 < u)) : (-1000001 : Int64) = a_clm r s n p u := (if_pos h).symm
theorem clm_g (h4 : r 4 = nI k) (hk : k ≤ 6) (hj : j < k) (h3 : r 3 = nI w) (hw : w ≤ 6) (ht : t ≤ 60) (hq : q ≤ 10) (hu : ¬ (u < 0 ∨ 1 < u)) : a_clm r (nI j) (nI t) (nI q) u = lN ((if u = 0 then abN r j t q w (2 ^ w) else 10 ^ w) / Nat.gcd (abN r j t q w (2 ^ w)) (10 ^ w)) := by
  have e1 : (nI j).toNatClampNeg = j := nI_clamp (by omega)
  have e2 : (nI t).toNatClampNeg = t := nI_clamp (by omega)
  have e3 : (nI q).toNatClampNeg = q := nI_clamp (by omega)
  have e4 : (nI w).toNatClampNeg = w := nI_clamp (by omega)
  have g : ¬ (¬ (¬ nI j < 0 ∧ ¬ r 4 ≤ nI j) ∨ (nI t < 0 ∨ 60 < nI t) ∨ (nI q < 0 ∨ 10 < nI q) ∨ (u < 0 ∨ 1 < u)) := by
    rw [h4]
    rintro (z | (z | z) | (z | z) | z)
    · exact z (sB_ok hj (by omega))
    · exact nI_pos (by omega) z
    · exact n60 (by omega) z
    · exact nI_pos (by omega) z
    · exact nI_nlt (a := 10) (by omega) (by decide) z
    · exact hu z
  unfold a_clm
  rw [if_neg g, e1, e2, e3, h3, e4]
theorem cs_y {a b x y : Int32} (hd : d < 64) (hi : i < 6) (e1 : a = nI d >>> (nI i &&& 31)) (e2 : b = a &&& 1) (h : b = 1) (e : x = nI (csN d q i)) (e3 : y = x * nI q) : y = nI (csN d q (i + 1)) := by
  have hb : d.testBit i = true := (bd_tab d hd i hi).mp (by rw [← e1, ← e2]; exact h)
  show y = nI (csN d q i * (if d.testBit i = true then q else 10 - q))
  rw [if_pos hb, e3, e, pk_mul]
theorem cs_n {a b c x y : Int32} (hd : d < 64) (hi : i < 6) (hq : q ≤ 10) (e1 : a = nI d >>> (nI i &&& 31)) (e2 : b = a &&& 1) (h : ¬ b = 1) (e : x = nI (csN d q i)) (e4 : c = 10 - nI q) (e3 : y = x * c) : y = nI (csN d q (i + 1)) := by
  have hb : ¬ d.testBit i = true := fun z => h (by rw [e2, e1]; exact (bd_tab d hd i hi).mpr z)
  have e5 : (10 : Int32) - nI q = nI (10 - q) := pk_sub (a := 10) hq
  show y = nI (csN d q i * (if d.testBit i = true then q else 10 - q))
  rw [if_neg hb, e3, e, e4, e5, pk_mul]
end CLM
/-- the divisor: what is left to be divided is at least halved -/
noncomputable abbrev gcI (a b i G S : Nat) : Prop := Nat.gcd S G = Nat.gcd a b ∧ S ≤ G ∧ G * S * 2 ^ i ≤ 1000000000000
theorem gc_0 {a b : Nat} (h : a ≤ b) (hb : b ≤ 1000000) : gcI a b 0 b a := by
  refine ⟨rfl, h, ?_⟩
  have h1 : b * a ≤ 1000000 * 1000000 := Nat.mul_le_mul hb (by omega)
  rw [Nat.pow_zero, Nat.mul_one]
  omega
theorem gc_s {a b i G S z : Nat} (h : gcI a b i G S) (hS : 0 < S) (hz : z = G % S) : gcI a b (i + 1) S z := by
  obtain ⟨h1, h2, h3⟩ := h
  have hl : G % S < S := Nat.mod_lt _ hS
  have hd : 2 * (G % S) ≤ G := by
    have e := Nat.div_add_mod G S
    have q1 : 1 ≤ G / S := Nat.div_pos h2 hS
    have q2 : S * 1 ≤ S * (G / S) := Nat.mul_le_mul_left _ q1
    omega
  refine ⟨?_, by omega, ?_⟩
  · rw [hz, ← Nat.gcd_rec]
    exact h1
  · have e1 : S * z * 2 ^ (i + 1) = S * (2 * (G % S)) * 2 ^ i := by
      rw [hz, Nat.pow_succ, Nat.mul_comm (2 ^ i) 2, ← Nat.mul_assoc, Nat.mul_assoc S (G % S) 2, Nat.mul_comm (G % S) 2]
    have e2 : S * (2 * (G % S)) * 2 ^ i ≤ S * G * 2 ^ i := Nat.mul_le_mul_right _ (Nat.mul_le_mul_left _ hd)
    rw [e1]
    rw [Nat.mul_comm G S] at h3
    omega
theorem gc_e {a b i G S : Nat} (h : gcI a b i G S) (hS : S = 0) : G = Nat.gcd a b := by
  obtain ⟨h1, -, -⟩ := h
  rw [hS, Nat.gcd_zero_left] at h1
  exact h1
theorem gc_64 {a b G S : Nat} (h : gcI a b 64 G S) : S = 0 := by
  obtain ⟨-, h2, h3⟩ := h
  rcases Nat.eq_zero_or_pos S with q | q
  · exact q
  · have h4 : 1 * 1 ≤ G * S := Nat.mul_le_mul (by omega) q
    have h5 : 1 * 2 ^ 64 ≤ G * S * 2 ^ 64 := Nat.mul_le_mul_right _ (by omega)
    have h6 : (2 : Nat) ^ 64 = 18446744073709551616 := by decide
    omega
section CLX
variable {v0 v1 v2 v3 v5 : Int32} {hh ww kk i j d t : Nat} {g1 g2 g3 g4 g5 f1 f2 f3 f4 f5 g g' : RF} {r : RF}
theorem dr_y {a b : Int32} (hw : ww ≤ 6) (hk : kk ≤ 6) (hi : i < ww) (hd : d < 64) (e1 : a = nI d >>> (nI i &&& 31)) (e2 : b = a &&& 1) (h : b = 1) (e : nrm v0 v1 v2 v3 hh v5 ww kk g g2 g3 g4 g5 = drS r d i) (hu : g' = upd g i 2) : nrm v0 v1 v2 v3 hh v5 ww kk g' g2 g3 g4 g5 = drS r d (i + 1) := by
  have hb : d.testBit i = true := (bd_tab d hd i (by omega)).mp (by rw [← e1, ← e2]; exact h)
  show _ = if d.testBit i = true then upd (drS r d i) (8 + i) 2 else drS r d i
  rw [if_pos hb, ← e, nrug1 hi hw, hu]
theorem dr_n {a b : Int32} (hd : d < 64) (hi : i < 6) (e1 : a = nI d >>> (nI i &&& 31)) (e2 : b = a &&& 1) (h : ¬ b = 1) (e : nrm v0 v1 v2 v3 hh v5 ww kk g g2 g3 g4 g5 = drS r d i) : nrm v0 v1 v2 v3 hh v5 ww kk g g2 g3 g4 g5 = drS r d (i + 1) := by
  have hb : ¬ d.testBit i = true := fun z => h (by rw [e2, e1]; exact (bd_tab d hd i hi).mpr z)
  show _ = if d.testBit i = true then upd (drS r d i) (8 + i) 2 else drS r d i
  rw [if_neg hb]
  exact e
end CLX
theorem dr_ok {r : RF} {w d : Nat} (h : okN 999 r) (e3 : r 3 = nI w) (hw : w ≤ 6) : ∀ i : Nat, i ≤ w → okN 999 (drS r d i) ∧ drS r d i 3 = nI w
  | 0, _ => ⟨h, e3⟩
  | i + 1, hi => by
    obtain ⟨a, b⟩ := dr_ok (d := d) h e3 hw i (by omega)
    show okN 999 (if d.testBit i = true then upd (drS r d i) (8 + i) 2 else drS r d i) ∧ (if d.testBit i = true then upd (drS r d i) (8 + i) 2 else drS r d i) 3 = nI w
    split
    · exact ⟨ok_wnd (x := 2) a b hw (by omega) (by decide), (pk_un (by omega)).trans b⟩
    · exact ⟨a, b⟩
theorem cs_le {d p : Nat} (hp : p ≤ 10) : ∀ i : Nat, csN d p i ≤ 10 ^ i
  | 0 => Nat.le_refl _
  | i + 1 => by
    have h := cs_le (d := d) hp i
    show csN d p i * (if d.testBit i = true then p else 10 - p) ≤ 10 ^ (i + 1)
    rw [Nat.pow_succ]
    refine Nat.mul_le_mul h ?_
    split <;> omega
section CLE
variable {r : RF} {s n p w d sh ca cb j t q k : Nat} {a b c x u : Int32}
theorem cl_z (hp : p ≤ 10) (hw : w ≤ 6) (e : a = nI (abN r s n p w d)) (h : x = nI (csN d p w)) (c : x ≤ 0) : a = nI (abN r s n p w (d + 1)) := by
  have h1 := cs_le (d := d) hp w
  have h2 := (p10_le hw).1
  have z : csN d p w = 0 := by
    rw [h] at c
    have c2 := (nI_leI (a := csN d p w) (b := 0) (by omega) (by decide)).mp c
    omega
  show a = nI (abN r s n p w d + (if grP r s n w d then csN d p w else 0))
  rw [z, e]
  split <;> rfl
theorem cl_no (e : a = nI (abN r s n p w d)) (f : ¬ grP r s n w d) : a = nI (abN r s n p w (d + 1)) := by
  show a = nI (abN r s n p w d + (if grP r s n w d then csN d p w else 0))
  rw [if_neg f, e]
  rfl
theorem cl_ye (e : a = nI (abN r s n p w d)) (h : x = nI (csN d p w)) (f : grP r s n w d) (e2 : b = a + x) : b = nI (abN r s n p w (d + 1)) := by
  show b = nI (abN r s n p w d + (if grP r s n w d then csN d p w else 0))
  rw [if_pos f, e2, e, h, nI_add]
theorem cl_bl (e : a = nI (blN p w d)) (h : x = nI (csN d p w)) (e2 : b = a + x) : b = nI (blN p w (d + 1)) := by
  show b = nI (blN p w d + csN d p w)
  rw [e2, e, h, nI_add]
theorem cl_sh (hw : w ≤ 6) (hs : (1 : Int32) <<< (nI w &&& 31) = nI sh) (hb : sh ≤ 64) : sh = 2 ^ w := by
  have h1 : 2 ^ w ≤ 2 ^ 6 := Nat.pow_le_pow_right (by decide) hw
  exact (nI_eq (by omega) (by omega)).mp (hs.symm.trans (shlN w (by omega)))
theorem cl_b (hp : p ≤ 10) (hw : w ≤ 6) (hs : (1 : Int32) <<< (nI w &&& 31) = nI sh) (hb : sh ≤ 64) (e1 : ca = abN r s n p w sh) (e2 : cb = blN p w sh) : ca ≤ cb ∧ cb ≤ 1000000 ∧ 1 ≤ cb := by
  have e := cl_sh hw hs hb
  have h := p10_le hw
  rw [e] at e1 e2
  have h2 : cb = 10 ^ w := e2.trans (bl_tab p (by omega) w (by omega))
  have h3 := ab_le (r := r) (s := s) (n := n) hp hw
  rw [← e1] at h3
  omega
theorem cl_div {v y : Int32} {z : Nat} (h : ca ≤ cb ∧ cb ≤ 1000000 ∧ 1 ≤ cb) (hz : z ≤ 1000000) (e1 : x = nI (Nat.gcd ca cb)) (e2 : v = if x < 1 then 1 else x) (e3 : y = nI z / v) : y.toInt64 = lN (z / Nat.gcd ca cb) := by
  have g1 : 0 < Nat.gcd ca cb := Nat.gcd_pos_of_pos_right _ (by omega)
  have g2 : Nat.gcd ca cb ≤ cb := Nat.gcd_le_right _ (by omega)
  have n1 : ¬ nI (Nat.gcd ca cb) < 1 := fun q => absurd ((nI_ltI (a := Nat.gcd ca cb) (b := 1) (by omega) (by decide)).mp q) (by omega)
  have hv : v = nI (Nat.gcd ca cb) := by
    rw [e2, e1, if_neg n1]
  have hd : z / Nat.gcd ca cb ≤ z := Nat.div_le_self _ _
  rw [e3, hv, pk_div (a := z) (d := Nat.gcd ca cb) (by omega) (by omega) (by omega), nI_l (by omega)]
theorem cl_e {v y : Int32} (h4 : r 4 = nI k) (hk : k ≤ 6) (hj : j < k) (h3 : r 3 = nI w) (hw : w ≤ 6) (ht : t < 61) (hq : q ≤ 10) (u1 : ¬ u < 0) (u2 : u ≤ 1) (hs : (1 : Int32) <<< (nI w &&& 31) = nI sh) (hb : sh ≤ 64) (a1 : ca = abN r j t q w sh) (a2 : cb = blN q w sh) (h : ca ≤ cb ∧ cb ≤ 1000000 ∧ 1 ≤ cb) (e1 : x = nI (Nat.gcd ca cb)) (e2 : v = if x < 1 then 1 else x) : (¬ u = 0 → y = nI cb / v → y.toInt64 = a_clm r (nI j) (nI t) (nI q) u) ∧ (u = 0 → y = nI ca / v → y.toInt64 = a_clm r (nI j) (nI t) (nI q) u) := by
  have e := cl_sh hw hs hb
  rw [e] at a1 a2
  have h2 : cb = 10 ^ w := a2.trans (bl_tab q (by omega) w (by omega))
  rw [clm_g h4 hk hj h3 hw (by omega) hq (fun z => z.elim u1 (i_nlt.mpr u2)), ← a1, ← h2]
  refine ⟨fun z e3 => ?_, fun z e3 => ?_⟩
  · rw [if_neg z]
    exact cl_div h h.2.1 e1 e2 e3
  · rw [if_pos z]
    exact cl_div h (by omega) e1 e2 e3
end CLE
theorem ig_e {v0 v1 v2 v3 v5 v5n : Int32} {hh ww kk i t d : Nat} {g1 g2 g3 g4 g5 w f2 f3 f4 f5 g3n g4n g5n : RF} (hL : okLv (nrm v0 v1 v2 v3 hh v5 ww kk g1 g2 g3 g4 g5)) (hw : ww ≤ 6) (hk : kk ≤ 6) (hH : hh ≤ 999) (hi : i < kk) (ht : t < 61) (e : nrm v0 v1 v2 v3 hh v5 ww kk w f2 f3 f4 f5 = drS (nrm v0 v1 v2 v3 hh v5 ww kk g1 g2 g3 g4 g5) d ww) (h : poX v0 v1 v2 v3 w ww hh f2 i t (v5, f3, f4, f5) = (v5n, g3n, g4n, g5n)) : g5n i = mGo t (drS (nrm v0 v1 v2 v3 hh v5 ww kk g1 g2 g3 g4 g5) d ww) (26 + i) := by
  have h1 := (dr_ok (d := d) (tl_s hL hk hi) nr3 hw ww (Nat.le_refl _)).1
  rw [← e] at h1 ⊢
  exact (po_how (Or.inr h1) hw hk hH hi (by omega) (fun _ _ => rfl) (fun _ _ => rfl) (fun _ _ => rfl) (fun _ _ => rfl) (fun _ _ => rfl) h).2.2
theorem max1_nz (x : Int32) : ¬ (if x < 1 then 1 else x) = 0 := by
  split
  · decide
  · rename_i h
    intro q
    rw [q] at h
    exact h (by decide)
theorem cl_bound (x : Int32) : ∃ c : Nat, c < 2 ^ 31 ∧ ∀ i : Nat, i < 2 ^ 31 → (x ≤ nI i ↔ c ≤ i) := by
  by_cases h : x < 0
  · refine ⟨0, by decide, fun i hi => ⟨fun _ => Nat.zero_le _, fun _ => ?_⟩⟩
    rw [Int32.lt_iff_toInt_lt] at h
    rw [Int32.le_iff_toInt_le, nI_toInt hi]
    have e1 : (0 : Int32).toInt = 0 := rfl
    rw [e1] at h
    omega
  · obtain ⟨j, hj, rfl⟩ := nI_of h
    exact ⟨j, hj, fun i hi => nI_leI hj hi⟩
theorem lN_nz {n : Nat} (h0 : 0 < n) (h : n < 2 ^ 31) : ¬ lN n = 0 := fun q => by
  have h1 := (lN_eq (a := n) (b := 0) h (by decide)).mp q
  omega
theorem l_nz {x : Int32} (h : 0 < x) : ¬ x.toInt64 = 0 := fun q => by
  have h1 : x.toInt64 = (0 : Int32).toInt64 := q
  have h2 : ¬ (0 : Int32).toInt64 < x.toInt64 := by rw [h1]; decide
  exact h2 ((w_lt 0 x).mpr h)
theorem dX3_takeDraw_0 : decode cX3_takeDraw 0 = .ok (.aload_n 0, 1) := dq_42 (by decide +kernel)
theorem dX3_takeDraw_1 : decode cX3_takeDraw 1 = .ok (.getfield 46, 3) := dq_180 (b1 := 0) (b2 := 46) (by decide +kernel) (by decide)
theorem dX3_takeDraw_11 : decode cX3_takeDraw 11 = .ok (.ifCond .le 10, 3) := dq_158 (b1 := 0) (b2 := 10) (by decide +kernel) (by decide)
theorem dX3_takeDraw_14 : decode cX3_takeDraw 14 = .ok (.aload_n 0, 1) := dq_42 (by decide +kernel)
theorem dX3_takeDraw_15 : decode cX3_takeDraw 15 = .ok (.getfield 27, 3) := dq_180 (b1 := 0) (b2 := 27) (by decide +kernel) (by decide)
theorem dX3_takeDraw_18 : decode cX3_takeDraw 18 = .ok (.ifCond .gt 4, 3) := dq_157 (b1 := 0) (b2 := 4) (by decide +kernel) (by decide)
theorem dX3_takeDraw_21 : decode cX3_takeDraw 21 = .ok (.return_, 1) := dq_177 (by decide +kernel)
theorem dX3_takeDraw_22 : decode cX3_takeDraw 22 = .ok (.lload_n 1, 1) := dq_31 (by decide +kernel)
theorem dX3_takeDraw_23 : decode cX3_takeDraw 23 = .ok (.ldc2_w 97, 3) := dq_20 (b1 := 0) (b2 := 97) (by decide +kernel) (by decide)
theorem dX3_takeDraw_26 : decode cX3_takeDraw 26 = .ok (.lrem, 1) := dq_113 (by decide +kernel)
theorem dX3_takeDraw_27 : decode cX3_takeDraw 27 = .ok (.lconst 0, 1) := dq_9 (by decide +kernel)
theorem dX3_takeDraw_28 : decode cX3_takeDraw 28 = .ok (.lcmp, 1) := dq_148 (by decide +kernel)
theorem dX3_takeDraw_29 : decode cX3_takeDraw 29 = .ok (.ifCond .ne 22, 3) := dq_154 (b1 := 0) (b2 := 22) (by decide +kernel) (by decide)
theorem dX3_takeDraw_32 : decode cX3_takeDraw 32 = .ok (.aload_n 0, 1) := dq_42 (by decide +kernel)
theorem dX3_takeDraw_33 : decode cX3_takeDraw 33 = .ok (.getfield 9, 3) := dq_180 (b1 := 0) (b2 := 9) (by decide +kernel) (by decide)
theorem dX3_takeDraw_36 : decode cX3_takeDraw 36 = .ok (.lload_n 1, 1) := dq_31 (by decide +kernel)
theorem dX3_takeDraw_37 : decode cX3_takeDraw 37 = .ok (.aload_n 0, 1) := dq_42 (by decide +kernel)
theorem dX3_takeDraw_38 : decode cX3_takeDraw 38 = .ok (.getfield 46, 3) := dq_180 (b1 := 0) (b2 := 46) (by decide +kernel) (by decide)
theorem dX3_takeDraw_4 : decode cX3_takeDraw 4 = .ok (.ifCond .le 17, 3) := dq_158 (b1 := 0) (b2 := 17) (by decide +kernel) (by decide)
theorem dX3_takeDraw_41 : decode cX3_takeDraw 41 = .ok (.i2l, 1) := dq_133 (by decide +kernel)
theorem dX3_takeDraw_42 : decode cX3_takeDraw 42 = .ok (.lrem, 1) := dq_113 (by decide +kernel)
theorem dX3_takeDraw_43 : decode cX3_takeDraw 43 = .ok (.l2i, 1) := dq_136 (by decide +kernel)
theorem dX3_takeDraw_44 : decode cX3_takeDraw 44 = .ok (.lload_n 1, 1) := dq_31 (by decide +kernel)
theorem dX3_takeDraw_45 : decode cX3_takeDraw 45 = .ok (.ldc2_w 99, 3) := dq_20 (b1 := 0) (b2 := 99) (by decide +kernel) (by decide)
theorem dX3_takeDraw_48 : decode cX3_takeDraw 48 = .ok (.lrem, 1) := dq_113 (by decide +kernel)
theorem dX3_takeDraw_49 : decode cX3_takeDraw 49 = .ok (.l2i, 1) := dq_136 (by decide +kernel)
theorem dX3_takeDraw_50 : decode cX3_takeDraw 50 = .ok (.iastore, 1) := dq_79 (by decide +kernel)
theorem dX3_takeDraw_51 : decode cX3_takeDraw 51 = .ok (.aload_n 0, 1) := dq_42 (by decide +kernel)
theorem dX3_takeDraw_52 : decode cX3_takeDraw 52 = .ok (.lload_n 1, 1) := dq_31 (by decide +kernel)
theorem dX3_takeDraw_53 : decode cX3_takeDraw 53 = .ok (.ldc2_w 101, 3) := dq_20 (b1 := 0) (b2 := 101) (by decide +kernel) (by decide)
theorem dX3_takeDraw_56 : decode cX3_takeDraw 56 = .ok (.lrem, 1) := dq_113 (by decide +kernel)
theorem dX3_takeDraw_57 : decode cX3_takeDraw 57 = .ok (.l2i, 1) := dq_136 (by decide +kernel)
theorem dX3_takeDraw_58 : decode cX3_takeDraw 58 = .ok (.putfield 37, 3) := dq_181 (b1 := 0) (b2 := 37) (by decide +kernel) (by decide)
theorem dX3_takeDraw_61 : decode cX3_takeDraw 61 = .ok (.lload_n 1, 1) := dq_31 (by decide +kernel)
theorem dX3_takeDraw_62 : decode cX3_takeDraw 62 = .ok (.aload_n 0, 1) := dq_42 (by decide +kernel)
theorem dX3_takeDraw_63 : decode cX3_takeDraw 63 = .ok (.getfield 49, 3) := dq_180 (b1 := 0) (b2 := 49) (by decide +kernel) (by decide)
theorem dX3_takeDraw_66 : decode cX3_takeDraw 66 = .ok (.i2l, 1) := dq_133 (by decide +kernel)
theorem dX3_takeDraw_67 : decode cX3_takeDraw 67 = .ok (.lrem, 1) := dq_113 (by decide +kernel)
theorem dX3_takeDraw_68 : decode cX3_takeDraw 68 = .ok (.l2i, 1) := dq_136 (by decide +kernel)
theorem dX3_takeDraw_69 : decode cX3_takeDraw 69 = .ok (.istore_n 3, 1) := dq_62 (by decide +kernel)
theorem dX3_takeDraw_7 : decode cX3_takeDraw 7 = .ok (.aload_n 0, 1) := dq_42 (by decide +kernel)
theorem dX3_takeDraw_70 : decode cX3_takeDraw 70 = .ok (.aload_n 0, 1) := dq_42 (by decide +kernel)
theorem dX3_takeDraw_71 : decode cX3_takeDraw 71 = .ok (.iload_n 3, 1) := dq_29 (by decide +kernel)
theorem dX3_takeDraw_72 : decode cX3_takeDraw 72 = .ok (.invokevirtual 58, 3) := dq_182 (b1 := 0) (b2 := 58) (by decide +kernel) (by decide)
theorem dX3_takeDraw_75 : decode cX3_takeDraw 75 = .ok (.ifCond .ne 24, 3) := dq_154 (b1 := 0) (b2 := 24) (by decide +kernel) (by decide)
theorem dX3_takeDraw_78 : decode cX3_takeDraw 78 = .ok (.aload_n 0, 1) := dq_42 (by decide +kernel)
theorem dX3_takeDraw_79 : decode cX3_takeDraw 79 = .ok (.iload_n 3, 1) := dq_29 (by decide +kernel)
theorem dX3_takeDraw_8 : decode cX3_takeDraw 8 = .ok (.getfield 49, 3) := dq_180 (b1 := 0) (b2 := 49) (by decide +kernel) (by decide)
theorem dX3_takeDraw_80 : decode cX3_takeDraw 80 = .ok (.lload_n 1, 1) := dq_31 (by decide +kernel)
theorem dX3_takeDraw_81 : decode cX3_takeDraw 81 = .ok (.aload_n 0, 1) := dq_42 (by decide +kernel)
theorem dX3_takeDraw_82 : decode cX3_takeDraw 82 = .ok (.getfield 27, 3) := dq_180 (b1 := 0) (b2 := 27) (by decide +kernel) (by decide)
theorem dX3_takeDraw_85 : decode cX3_takeDraw 85 = .ok (.i2l, 1) := dq_133 (by decide +kernel)
theorem dX3_takeDraw_86 : decode cX3_takeDraw 86 = .ok (.lrem, 1) := dq_113 (by decide +kernel)
theorem dX3_takeDraw_87 : decode cX3_takeDraw 87 = .ok (.l2i, 1) := dq_136 (by decide +kernel)
theorem dX3_takeDraw_88 : decode cX3_takeDraw 88 = .ok (.lload_n 1, 1) := dq_31 (by decide +kernel)
theorem dX3_takeDraw_89 : decode cX3_takeDraw 89 = .ok (.ldc2_w 103, 3) := dq_20 (b1 := 0) (b2 := 103) (by decide +kernel) (by decide)
theorem dX3_takeDraw_92 : decode cX3_takeDraw 92 = .ok (.lrem, 1) := dq_113 (by decide +kernel)
theorem dX3_takeDraw_93 : decode cX3_takeDraw 93 = .ok (.l2i, 1) := dq_136 (by decide +kernel)
theorem dX3_takeDraw_94 : decode cX3_takeDraw 94 = .ok (.iconst 1, 1) := dq_4 (by decide +kernel)
theorem dX3_takeDraw_95 : decode cX3_takeDraw 95 = .ok (.iadd, 1) := dq_96 (by decide +kernel)
theorem dX3_takeDraw_96 : decode cX3_takeDraw 96 = .ok (.invokevirtual 79, 3) := dq_182 (b1 := 0) (b2 := 79) (by decide +kernel) (by decide)
theorem dX3_takeDraw_99 : decode cX3_takeDraw 99 = .ok (.return_, 1) := dq_177 (by decide +kernel)
theorem dX7_ahead_0 : decode cX7_ahead 0 = .ok (.aload_n 0, 1) := dq_42 (by decide +kernel)
theorem dX7_ahead_1 : decode cX7_ahead 1 = .ok (.getfield 26, 3) := dq_180 (b1 := 0) (b2 := 26) (by decide +kernel) (by decide)
theorem dX7_ahead_11 : decode cX7_ahead 11 = .ok (.iload_n 2, 1) := dq_28 (by decide +kernel)
theorem dX7_ahead_12 : decode cX7_ahead 12 = .ok (.invokestatic 207, 3) := dq_184 (b1 := 0) (b2 := 207) (by decide +kernel) (by decide)
theorem dX7_ahead_15 : decode cX7_ahead 15 = .ok (.ifCond .eq 12, 3) := dq_153 (b1 := 0) (b2 := 12) (by decide +kernel) (by decide)
theorem dX7_ahead_18 : decode cX7_ahead 18 = .ok (.iload_n 3, 1) := dq_29 (by decide +kernel)
theorem dX7_ahead_19 : decode cX7_ahead 19 = .ok (.ifCond .lt 8, 3) := dq_155 (b1 := 0) (b2 := 8) (by decide +kernel) (by decide)
theorem dX7_ahead_22 : decode cX7_ahead 22 = .ok (.iload_n 3, 1) := dq_29 (by decide +kernel)
theorem dX7_ahead_23 : decode cX7_ahead 23 = .ok (.iconst 2, 1) := dq_5 (by decide +kernel)
theorem dX7_ahead_24 : decode cX7_ahead 24 = .ok (.if_icmp .le 6, 3) := dq_164 (b1 := 0) (b2 := 6) (by decide +kernel) (by decide)
theorem dX7_ahead_27 : decode cX7_ahead 27 = .ok (.ldc 72, 2) := dq_18 (b1 := 72) (by decide +kernel) (by decide)
theorem dX7_ahead_29 : decode cX7_ahead 29 = .ok (.ireturn, 1) := dq_172 (by decide +kernel)
theorem dX7_ahead_30 : decode cX7_ahead 30 = .ok (.aload_n 0, 1) := dq_42 (by decide +kernel)
theorem dX7_ahead_31 : decode cX7_ahead 31 = .ok (.getfield 41, 3) := dq_180 (b1 := 0) (b2 := 41) (by decide +kernel) (by decide)
theorem dX7_ahead_34 : decode cX7_ahead 34 = .ok (.aload_n 0, 1) := dq_42 (by decide +kernel)
theorem dX7_ahead_35 : decode cX7_ahead 35 = .ok (.getfield 26, 3) := dq_180 (b1 := 0) (b2 := 26) (by decide +kernel) (by decide)
theorem dX7_ahead_38 : decode cX7_ahead 38 = .ok (.invokevirtual 128, 3) := dq_182 (b1 := 0) (b2 := 128) (by decide +kernel) (by decide)
theorem dX7_ahead_4 : decode cX7_ahead 4 = .ok (.iload_n 1, 1) := dq_27 (by decide +kernel)
theorem dX7_ahead_41 : decode cX7_ahead 41 = .ok (.aload_n 0, 1) := dq_42 (by decide +kernel)
theorem dX7_ahead_42 : decode cX7_ahead 42 = .ok (.getfield 41, 3) := dq_180 (b1 := 0) (b2 := 41) (by decide +kernel) (by decide)
theorem dX7_ahead_45 : decode cX7_ahead 45 = .ok (.iload_n 1, 1) := dq_27 (by decide +kernel)
theorem dX7_ahead_46 : decode cX7_ahead 46 = .ok (.iload_n 2, 1) := dq_28 (by decide +kernel)
theorem dX7_ahead_47 : decode cX7_ahead 47 = .ok (.invokevirtual 210, 3) := dq_182 (b1 := 0) (b2 := 210) (by decide +kernel) (by decide)
theorem dX7_ahead_5 : decode cX7_ahead 5 = .ok (.invokevirtual 173, 3) := dq_182 (b1 := 0) (b2 := 173) (by decide +kernel) (by decide)
theorem dX7_ahead_50 : decode cX7_ahead 50 = .ok (.aload_n 0, 1) := dq_42 (by decide +kernel)
theorem dX7_ahead_51 : decode cX7_ahead 51 = .ok (.getfield 41, 3) := dq_180 (b1 := 0) (b2 := 41) (by decide +kernel) (by decide)
theorem dX7_ahead_54 : decode cX7_ahead 54 = .ok (.iload_n 1, 1) := dq_27 (by decide +kernel)
theorem dX7_ahead_55 : decode cX7_ahead 55 = .ok (.iload_n 3, 1) := dq_29 (by decide +kernel)
theorem dX7_ahead_56 : decode cX7_ahead 56 = .ok (.invokevirtual 195, 3) := dq_182 (b1 := 0) (b2 := 195) (by decide +kernel) (by decide)
theorem dX7_ahead_59 : decode cX7_ahead 59 = .ok (.ireturn, 1) := dq_172 (by decide +kernel)
theorem dX7_ahead_8 : decode cX7_ahead 8 = .ok (.ifCond .eq 19, 3) := dq_153 (b1 := 0) (b2 := 19) (by decide +kernel) (by decide)
theorem dX7_calm_0 : decode cX7_calm 0 = .ok (.aload_n 0, 1) := dq_42 (by decide +kernel)
theorem dX7_calm_1 : decode cX7_calm 1 = .ok (.getfield 26, 3) := dq_180 (b1 := 0) (b2 := 26) (by decide +kernel) (by decide)
theorem dX7_calm_100 : decode cX7_calm 100 = .ok (.iload 8, 2) := dq_21 (b1 := 8) (by decide +kernel) (by decide)
theorem dX7_calm_102 : decode cX7_calm 102 = .ok (.iadd, 1) := dq_96 (by decide +kernel)
theorem dX7_calm_103 : decode cX7_calm 103 = .ok (.istore 5, 2) := dq_54 (b1 := 5) (by decide +kernel) (by decide)
theorem dX7_calm_105 : decode cX7_calm 105 = .ok (.iinc 7 1, 3) := dq_132 (b1 := 7) (b2 := 1) (by decide +kernel) (by decide) (by decide)
theorem dX7_calm_108 : decode cX7_calm 108 = .ok (.goto (-56), 3) := dq_167 (b1 := 255) (b2 := 200) (by decide +kernel) (by decide)
theorem dX7_calm_11 : decode cX7_calm 11 = .ok (.iload_n 2, 1) := dq_28 (by decide +kernel)
theorem dX7_calm_111 : decode cX7_calm 111 = .ok (.iload 5, 2) := dq_21 (b1 := 5) (by decide +kernel) (by decide)
theorem dX7_calm_113 : decode cX7_calm 113 = .ok (.iload 6, 2) := dq_21 (b1 := 6) (by decide +kernel) (by decide)
theorem dX7_calm_115 : decode cX7_calm 115 = .ok (.invokestatic 279, 3) := dq_184 (b1 := 1) (b2 := 23) (by decide +kernel) (by decide)
theorem dX7_calm_118 : decode cX7_calm 118 = .ok (.iconst 1, 1) := dq_4 (by decide +kernel)
theorem dX7_calm_119 : decode cX7_calm 119 = .ok (.invokestatic 282, 3) := dq_184 (b1 := 1) (b2 := 26) (by decide +kernel) (by decide)
theorem dX7_calm_12 : decode cX7_calm 12 = .ok (.invokestatic 207, 3) := dq_184 (b1 := 0) (b2 := 207) (by decide +kernel) (by decide)
theorem dX7_calm_122 : decode cX7_calm 122 = .ok (.istore 7, 2) := dq_54 (b1 := 7) (by decide +kernel) (by decide)
theorem dX7_calm_124 : decode cX7_calm 124 = .ok (.iload 4, 2) := dq_21 (b1 := 4) (by decide +kernel) (by decide)
theorem dX7_calm_126 : decode cX7_calm 126 = .ok (.ifCond .ne 8, 3) := dq_154 (b1 := 0) (b2 := 8) (by decide +kernel) (by decide)
theorem dX7_calm_129 : decode cX7_calm 129 = .ok (.iload 5, 2) := dq_21 (b1 := 5) (by decide +kernel) (by decide)
theorem dX7_calm_131 : decode cX7_calm 131 = .ok (.goto 5, 3) := dq_167 (b1 := 0) (b2 := 5) (by decide +kernel) (by decide)
theorem dX7_calm_134 : decode cX7_calm 134 = .ok (.iload 6, 2) := dq_21 (b1 := 6) (by decide +kernel) (by decide)
theorem dX7_calm_136 : decode cX7_calm 136 = .ok (.iload 7, 2) := dq_21 (b1 := 7) (by decide +kernel) (by decide)
theorem dX7_calm_138 : decode cX7_calm 138 = .ok (.idiv, 1) := dq_108 (by decide +kernel)
theorem dX7_calm_139 : decode cX7_calm 139 = .ok (.i2l, 1) := dq_133 (by decide +kernel)
theorem dX7_calm_140 : decode cX7_calm 140 = .ok (.lreturn, 1) := dq_173 (by decide +kernel)
theorem dX7_calm_15 : decode cX7_calm 15 = .ok (.ifCond .eq 24, 3) := dq_153 (b1 := 0) (b2 := 24) (by decide +kernel) (by decide)
theorem dX7_calm_18 : decode cX7_calm 18 = .ok (.iload_n 3, 1) := dq_29 (by decide +kernel)
theorem dX7_calm_19 : decode cX7_calm 19 = .ok (.ifCond .lt 20, 3) := dq_155 (b1 := 0) (b2 := 20) (by decide +kernel) (by decide)
theorem dX7_calm_22 : decode cX7_calm 22 = .ok (.iload_n 3, 1) := dq_29 (by decide +kernel)
theorem dX7_calm_23 : decode cX7_calm 23 = .ok (.bipush 10, 2) := dq_16 (b1 := 10) (by decide +kernel) (by decide)
theorem dX7_calm_25 : decode cX7_calm 25 = .ok (.if_icmp .gt 14, 3) := dq_163 (b1 := 0) (b2 := 14) (by decide +kernel) (by decide)
theorem dX7_calm_28 : decode cX7_calm 28 = .ok (.iload 4, 2) := dq_21 (b1 := 4) (by decide +kernel) (by decide)
theorem dX7_calm_30 : decode cX7_calm 30 = .ok (.ifCond .lt 9, 3) := dq_155 (b1 := 0) (b2 := 9) (by decide +kernel) (by decide)
theorem dX7_calm_33 : decode cX7_calm 33 = .ok (.iload 4, 2) := dq_21 (b1 := 4) (by decide +kernel) (by decide)
theorem dX7_calm_35 : decode cX7_calm 35 = .ok (.iconst 1, 1) := dq_4 (by decide +kernel)
theorem dX7_calm_36 : decode cX7_calm 36 = .ok (.if_icmp .le 7, 3) := dq_164 (b1 := 0) (b2 := 7) (by decide +kernel) (by decide)
theorem dX7_calm_39 : decode cX7_calm 39 = .ok (.ldc2_w 267, 3) := dq_20 (b1 := 1) (b2 := 11) (by decide +kernel) (by decide)
theorem dX7_calm_4 : decode cX7_calm 4 = .ok (.iload_n 1, 1) := dq_27 (by decide +kernel)
theorem dX7_calm_42 : decode cX7_calm 42 = .ok (.lreturn, 1) := dq_173 (by decide +kernel)
theorem dX7_calm_43 : decode cX7_calm 43 = .ok (.iconst 0, 1) := dq_3 (by decide +kernel)
theorem dX7_calm_44 : decode cX7_calm 44 = .ok (.istore 5, 2) := dq_54 (b1 := 5) (by decide +kernel) (by decide)
theorem dX7_calm_46 : decode cX7_calm 46 = .ok (.iconst 0, 1) := dq_3 (by decide +kernel)
theorem dX7_calm_47 : decode cX7_calm 47 = .ok (.istore 6, 2) := dq_54 (b1 := 6) (by decide +kernel) (by decide)
theorem dX7_calm_49 : decode cX7_calm 49 = .ok (.iconst 0, 1) := dq_3 (by decide +kernel)
theorem dX7_calm_5 : decode cX7_calm 5 = .ok (.invokevirtual 173, 3) := dq_182 (b1 := 0) (b2 := 173) (by decide +kernel) (by decide)
theorem dX7_calm_50 : decode cX7_calm 50 = .ok (.istore 7, 2) := dq_54 (b1 := 7) (by decide +kernel) (by decide)
theorem dX7_calm_52 : decode cX7_calm 52 = .ok (.iload 7, 2) := dq_21 (b1 := 7) (by decide +kernel) (by decide)
theorem dX7_calm_54 : decode cX7_calm 54 = .ok (.iconst 1, 1) := dq_4 (by decide +kernel)
theorem dX7_calm_55 : decode cX7_calm 55 = .ok (.aload_n 0, 1) := dq_42 (by decide +kernel)
theorem dX7_calm_56 : decode cX7_calm 56 = .ok (.getfield 26, 3) := dq_180 (b1 := 0) (b2 := 26) (by decide +kernel) (by decide)
theorem dX7_calm_59 : decode cX7_calm 59 = .ok (.getfield 269, 3) := dq_180 (b1 := 1) (b2 := 13) (by decide +kernel) (by decide)
theorem dX7_calm_62 : decode cX7_calm 62 = .ok (.ishl, 1) := dq_120 (by decide +kernel)
theorem dX7_calm_63 : decode cX7_calm 63 = .ok (.if_icmp .ge 48, 3) := dq_162 (b1 := 0) (b2 := 48) (by decide +kernel) (by decide)
theorem dX7_calm_66 : decode cX7_calm 66 = .ok (.aload_n 0, 1) := dq_42 (by decide +kernel)
theorem dX7_calm_67 : decode cX7_calm 67 = .ok (.iload 7, 2) := dq_21 (b1 := 7) (by decide +kernel) (by decide)
theorem dX7_calm_69 : decode cX7_calm 69 = .ok (.iload_n 3, 1) := dq_29 (by decide +kernel)
theorem dX7_calm_70 : decode cX7_calm 70 = .ok (.invokevirtual 272, 3) := dq_182 (b1 := 1) (b2 := 16) (by decide +kernel) (by decide)
theorem dX7_calm_73 : decode cX7_calm 73 = .ok (.istore 8, 2) := dq_54 (b1 := 8) (by decide +kernel) (by decide)
theorem dX7_calm_75 : decode cX7_calm 75 = .ok (.iload 6, 2) := dq_21 (b1 := 6) (by decide +kernel) (by decide)
theorem dX7_calm_77 : decode cX7_calm 77 = .ok (.iload 8, 2) := dq_21 (b1 := 8) (by decide +kernel) (by decide)
theorem dX7_calm_79 : decode cX7_calm 79 = .ok (.iadd, 1) := dq_96 (by decide +kernel)
theorem dX7_calm_8 : decode cX7_calm 8 = .ok (.ifCond .eq 31, 3) := dq_153 (b1 := 0) (b2 := 31) (by decide +kernel) (by decide)
theorem dX7_calm_80 : decode cX7_calm 80 = .ok (.istore 6, 2) := dq_54 (b1 := 6) (by decide +kernel) (by decide)
theorem dX7_calm_82 : decode cX7_calm 82 = .ok (.iload 8, 2) := dq_21 (b1 := 8) (by decide +kernel) (by decide)
theorem dX7_calm_84 : decode cX7_calm 84 = .ok (.ifCond .le 21, 3) := dq_158 (b1 := 0) (b2 := 21) (by decide +kernel) (by decide)
theorem dX7_calm_87 : decode cX7_calm 87 = .ok (.aload_n 0, 1) := dq_42 (by decide +kernel)
theorem dX7_calm_88 : decode cX7_calm 88 = .ok (.iload_n 1, 1) := dq_27 (by decide +kernel)
theorem dX7_calm_89 : decode cX7_calm 89 = .ok (.iload_n 2, 1) := dq_28 (by decide +kernel)
theorem dX7_calm_90 : decode cX7_calm 90 = .ok (.iload 7, 2) := dq_21 (b1 := 7) (by decide +kernel) (by decide)
theorem dX7_calm_92 : decode cX7_calm 92 = .ok (.invokevirtual 275, 3) := dq_182 (b1 := 1) (b2 := 19) (by decide +kernel) (by decide)
theorem dX7_calm_95 : decode cX7_calm 95 = .ok (.ifCond .eq 10, 3) := dq_153 (b1 := 0) (b2 := 10) (by decide +kernel) (by decide)
theorem dX7_calm_98 : decode cX7_calm 98 = .ok (.iload 5, 2) := dq_21 (b1 := 5) (by decide +kernel) (by decide)
theorem dX7_casesOf_0 : decode cX7_casesOf 0 = .ok (.iconst 1, 1) := dq_4 (by decide +kernel)
theorem dX7_casesOf_1 : decode cX7_casesOf 1 = .ok (.istore_n 3, 1) := dq_62 (by decide +kernel)
theorem dX7_casesOf_11 : decode cX7_casesOf 11 = .ok (.getfield 269, 3) := dq_180 (b1 := 1) (b2 := 13) (by decide +kernel) (by decide)
theorem dX7_casesOf_14 : decode cX7_casesOf 14 = .ok (.if_icmp .ge 30, 3) := dq_162 (b1 := 0) (b2 := 30) (by decide +kernel) (by decide)
theorem dX7_casesOf_17 : decode cX7_casesOf 17 = .ok (.iload_n 3, 1) := dq_29 (by decide +kernel)
theorem dX7_casesOf_18 : decode cX7_casesOf 18 = .ok (.iload_n 1, 1) := dq_27 (by decide +kernel)
theorem dX7_casesOf_19 : decode cX7_casesOf 19 = .ok (.iload 4, 2) := dq_21 (b1 := 4) (by decide +kernel) (by decide)
theorem dX7_casesOf_2 : decode cX7_casesOf 2 = .ok (.iconst 0, 1) := dq_3 (by decide +kernel)
theorem dX7_casesOf_21 : decode cX7_casesOf 21 = .ok (.ishr, 1) := dq_122 (by decide +kernel)
theorem dX7_casesOf_22 : decode cX7_casesOf 22 = .ok (.iconst 1, 1) := dq_4 (by decide +kernel)
theorem dX7_casesOf_23 : decode cX7_casesOf 23 = .ok (.iand, 1) := dq_126 (by decide +kernel)
theorem dX7_casesOf_24 : decode cX7_casesOf 24 = .ok (.iconst 1, 1) := dq_4 (by decide +kernel)
theorem dX7_casesOf_25 : decode cX7_casesOf 25 = .ok (.if_icmp .ne 7, 3) := dq_160 (b1 := 0) (b2 := 7) (by decide +kernel) (by decide)
theorem dX7_casesOf_28 : decode cX7_casesOf 28 = .ok (.iload_n 2, 1) := dq_28 (by decide +kernel)
theorem dX7_casesOf_29 : decode cX7_casesOf 29 = .ok (.goto 7, 3) := dq_167 (b1 := 0) (b2 := 7) (by decide +kernel) (by decide)
theorem dX7_casesOf_3 : decode cX7_casesOf 3 = .ok (.istore 4, 2) := dq_54 (b1 := 4) (by decide +kernel) (by decide)
theorem dX7_casesOf_32 : decode cX7_casesOf 32 = .ok (.bipush 10, 2) := dq_16 (b1 := 10) (by decide +kernel) (by decide)
theorem dX7_casesOf_34 : decode cX7_casesOf 34 = .ok (.iload_n 2, 1) := dq_28 (by decide +kernel)
theorem dX7_casesOf_35 : decode cX7_casesOf 35 = .ok (.isub, 1) := dq_100 (by decide +kernel)
theorem dX7_casesOf_36 : decode cX7_casesOf 36 = .ok (.imul, 1) := dq_104 (by decide +kernel)
theorem dX7_casesOf_37 : decode cX7_casesOf 37 = .ok (.istore_n 3, 1) := dq_62 (by decide +kernel)
theorem dX7_casesOf_38 : decode cX7_casesOf 38 = .ok (.iinc 4 1, 3) := dq_132 (b1 := 4) (b2 := 1) (by decide +kernel) (by decide) (by decide)
theorem dX7_casesOf_41 : decode cX7_casesOf 41 = .ok (.goto (-36), 3) := dq_167 (b1 := 255) (b2 := 220) (by decide +kernel) (by decide)
theorem dX7_casesOf_44 : decode cX7_casesOf 44 = .ok (.iload_n 3, 1) := dq_29 (by decide +kernel)
theorem dX7_casesOf_45 : decode cX7_casesOf 45 = .ok (.ireturn, 1) := dq_172 (by decide +kernel)
theorem dX7_casesOf_5 : decode cX7_casesOf 5 = .ok (.iload 4, 2) := dq_21 (b1 := 4) (by decide +kernel) (by decide)
theorem dX7_casesOf_7 : decode cX7_casesOf 7 = .ok (.aload_n 0, 1) := dq_42 (by decide +kernel)
theorem dX7_casesOf_8 : decode cX7_casesOf 8 = .ok (.getfield 26, 3) := dq_180 (b1 := 0) (b2 := 26) (by decide +kernel) (by decide)
theorem dX7_commonDivisor_0 : decode cX7_commonDivisor 0 = .ok (.iload_n 1, 1) := dq_27 (by decide +kernel)
theorem dX7_commonDivisor_1 : decode cX7_commonDivisor 1 = .ok (.istore_n 2, 1) := dq_61 (by decide +kernel)
theorem dX7_commonDivisor_11 : decode cX7_commonDivisor 11 = .ok (.if_icmp .ge 23, 3) := dq_162 (b1 := 0) (b2 := 23) (by decide +kernel) (by decide)
theorem dX7_commonDivisor_14 : decode cX7_commonDivisor 14 = .ok (.iload_n 3, 1) := dq_29 (by decide +kernel)
theorem dX7_commonDivisor_15 : decode cX7_commonDivisor 15 = .ok (.ifCond .le 19, 3) := dq_158 (b1 := 0) (b2 := 19) (by decide +kernel) (by decide)
theorem dX7_commonDivisor_18 : decode cX7_commonDivisor 18 = .ok (.iload_n 2, 1) := dq_28 (by decide +kernel)
theorem dX7_commonDivisor_19 : decode cX7_commonDivisor 19 = .ok (.iload_n 3, 1) := dq_29 (by decide +kernel)
theorem dX7_commonDivisor_2 : decode cX7_commonDivisor 2 = .ok (.iload_n 0, 1) := dq_26 (by decide +kernel)
theorem dX7_commonDivisor_20 : decode cX7_commonDivisor 20 = .ok (.irem, 1) := dq_112 (by decide +kernel)
theorem dX7_commonDivisor_21 : decode cX7_commonDivisor 21 = .ok (.istore 5, 2) := dq_54 (b1 := 5) (by decide +kernel) (by decide)
theorem dX7_commonDivisor_23 : decode cX7_commonDivisor 23 = .ok (.iload_n 3, 1) := dq_29 (by decide +kernel)
theorem dX7_commonDivisor_24 : decode cX7_commonDivisor 24 = .ok (.istore_n 2, 1) := dq_61 (by decide +kernel)
theorem dX7_commonDivisor_25 : decode cX7_commonDivisor 25 = .ok (.iload 5, 2) := dq_21 (b1 := 5) (by decide +kernel) (by decide)
theorem dX7_commonDivisor_27 : decode cX7_commonDivisor 27 = .ok (.istore_n 3, 1) := dq_62 (by decide +kernel)
theorem dX7_commonDivisor_28 : decode cX7_commonDivisor 28 = .ok (.iinc 4 1, 3) := dq_132 (b1 := 4) (b2 := 1) (by decide +kernel) (by decide) (by decide)
theorem dX7_commonDivisor_3 : decode cX7_commonDivisor 3 = .ok (.istore_n 3, 1) := dq_62 (by decide +kernel)
theorem dX7_commonDivisor_31 : decode cX7_commonDivisor 31 = .ok (.goto (-24), 3) := dq_167 (b1 := 255) (b2 := 232) (by decide +kernel) (by decide)
theorem dX7_commonDivisor_34 : decode cX7_commonDivisor 34 = .ok (.iload_n 2, 1) := dq_28 (by decide +kernel)
theorem dX7_commonDivisor_35 : decode cX7_commonDivisor 35 = .ok (.ireturn, 1) := dq_172 (by decide +kernel)
theorem dX7_commonDivisor_4 : decode cX7_commonDivisor 4 = .ok (.iconst 0, 1) := dq_3 (by decide +kernel)
theorem dX7_commonDivisor_5 : decode cX7_commonDivisor 5 = .ok (.istore 4, 2) := dq_54 (b1 := 4) (by decide +kernel) (by decide)
theorem dX7_commonDivisor_7 : decode cX7_commonDivisor 7 = .ok (.iload 4, 2) := dq_21 (b1 := 4) (by decide +kernel) (by decide)
theorem dX7_commonDivisor_9 : decode cX7_commonDivisor 9 = .ok (.bipush 64, 2) := dq_16 (b1 := 64) (by decide +kernel) (by decide)
theorem dX7_drawn_0 : decode cX7_drawn 0 = .ok (.aload_n 0, 1) := dq_42 (by decide +kernel)
theorem dX7_drawn_1 : decode cX7_drawn 1 = .ok (.getfield 26, 3) := dq_180 (b1 := 0) (b2 := 26) (by decide +kernel) (by decide)
theorem dX7_drawn_10 : decode cX7_drawn 10 = .ok (.ldc 141, 2) := dq_18 (b1 := 141) (by decide +kernel) (by decide)
theorem dX7_drawn_102 : decode cX7_drawn 102 = .ok (.iload_n 3, 1) := dq_29 (by decide +kernel)
theorem dX7_drawn_103 : decode cX7_drawn 103 = .ok (.ifCond .ne 21, 3) := dq_154 (b1 := 0) (b2 := 21) (by decide +kernel) (by decide)
theorem dX7_drawn_106 : decode cX7_drawn 106 = .ok (.aload_n 0, 1) := dq_42 (by decide +kernel)
theorem dX7_drawn_107 : decode cX7_drawn 107 = .ok (.getfield 41, 3) := dq_180 (b1 := 0) (b2 := 41) (by decide +kernel) (by decide)
theorem dX7_drawn_110 : decode cX7_drawn 110 = .ok (.getfield 157, 3) := dq_180 (b1 := 0) (b2 := 157) (by decide +kernel) (by decide)
theorem dX7_drawn_113 : decode cX7_drawn 113 = .ok (.aload_n 0, 1) := dq_42 (by decide +kernel)
theorem dX7_drawn_114 : decode cX7_drawn 114 = .ok (.getfield 26, 3) := dq_180 (b1 := 0) (b2 := 26) (by decide +kernel) (by decide)
theorem dX7_drawn_117 : decode cX7_drawn 117 = .ok (.getfield 157, 3) := dq_180 (b1 := 0) (b2 := 157) (by decide +kernel) (by decide)
theorem dX7_drawn_12 : decode cX7_drawn 12 = .ok (.ireturn, 1) := dq_172 (by decide +kernel)
theorem dX7_drawn_120 : decode cX7_drawn 120 = .ok (.isub, 1) := dq_100 (by decide +kernel)
theorem dX7_drawn_121 : decode cX7_drawn 121 = .ok (.goto 14, 3) := dq_167 (b1 := 0) (b2 := 14) (by decide +kernel) (by decide)
theorem dX7_drawn_124 : decode cX7_drawn 124 = .ok (.aload_n 0, 1) := dq_42 (by decide +kernel)
theorem dX7_drawn_125 : decode cX7_drawn 125 = .ok (.getfield 41, 3) := dq_180 (b1 := 0) (b2 := 41) (by decide +kernel) (by decide)
theorem dX7_drawn_128 : decode cX7_drawn 128 = .ok (.iconst 2, 1) := dq_5 (by decide +kernel)
theorem dX7_drawn_129 : decode cX7_drawn 129 = .ok (.invokevirtual 185, 3) := dq_182 (b1 := 0) (b2 := 185) (by decide +kernel) (by decide)
theorem dX7_drawn_13 : decode cX7_drawn 13 = .ok (.iload_n 1, 1) := dq_27 (by decide +kernel)
theorem dX7_drawn_132 : decode cX7_drawn 132 = .ok (.invokestatic 296, 3) := dq_184 (b1 := 1) (b2 := 40) (by decide +kernel) (by decide)
theorem dX7_drawn_135 : decode cX7_drawn 135 = .ok (.ireturn, 1) := dq_172 (by decide +kernel)
theorem dX7_drawn_14 : decode cX7_drawn 14 = .ok (.invokestatic 207, 3) := dq_184 (b1 := 0) (b2 := 207) (by decide +kernel) (by decide)
theorem dX7_drawn_17 : decode cX7_drawn 17 = .ok (.ifCond .eq 24, 3) := dq_153 (b1 := 0) (b2 := 24) (by decide +kernel) (by decide)
theorem dX7_drawn_20 : decode cX7_drawn 20 = .ok (.iload_n 2, 1) := dq_28 (by decide +kernel)
theorem dX7_drawn_21 : decode cX7_drawn 21 = .ok (.iconst 1, 1) := dq_4 (by decide +kernel)
theorem dX7_drawn_22 : decode cX7_drawn 22 = .ok (.if_icmp .lt 19, 3) := dq_161 (b1 := 0) (b2 := 19) (by decide +kernel) (by decide)
theorem dX7_drawn_25 : decode cX7_drawn 25 = .ok (.iload_n 2, 1) := dq_28 (by decide +kernel)
theorem dX7_drawn_26 : decode cX7_drawn 26 = .ok (.ldc_w 287, 3) := dq_19 (b1 := 1) (b2 := 31) (by decide +kernel) (by decide)
theorem dX7_drawn_29 : decode cX7_drawn 29 = .ok (.if_icmp .gt 12, 3) := dq_163 (b1 := 0) (b2 := 12) (by decide +kernel) (by decide)
theorem dX7_drawn_32 : decode cX7_drawn 32 = .ok (.iload_n 3, 1) := dq_29 (by decide +kernel)
theorem dX7_drawn_33 : decode cX7_drawn 33 = .ok (.ifCond .lt 8, 3) := dq_155 (b1 := 0) (b2 := 8) (by decide +kernel) (by decide)
theorem dX7_drawn_36 : decode cX7_drawn 36 = .ok (.iload_n 3, 1) := dq_29 (by decide +kernel)
theorem dX7_drawn_37 : decode cX7_drawn 37 = .ok (.iconst 1, 1) := dq_4 (by decide +kernel)
theorem dX7_drawn_38 : decode cX7_drawn 38 = .ok (.if_icmp .le 6, 3) := dq_164 (b1 := 0) (b2 := 6) (by decide +kernel) (by decide)
theorem dX7_drawn_4 : decode cX7_drawn 4 = .ok (.invokevirtual 145, 3) := dq_182 (b1 := 0) (b2 := 145) (by decide +kernel) (by decide)
theorem dX7_drawn_41 : decode cX7_drawn 41 = .ok (.ldc 72, 2) := dq_18 (b1 := 72) (by decide +kernel) (by decide)
theorem dX7_drawn_43 : decode cX7_drawn 43 = .ok (.ireturn, 1) := dq_172 (by decide +kernel)
theorem dX7_drawn_44 : decode cX7_drawn 44 = .ok (.aload_n 0, 1) := dq_42 (by decide +kernel)
theorem dX7_drawn_45 : decode cX7_drawn 45 = .ok (.getfield 41, 3) := dq_180 (b1 := 0) (b2 := 41) (by decide +kernel) (by decide)
theorem dX7_drawn_48 : decode cX7_drawn 48 = .ok (.aload_n 0, 1) := dq_42 (by decide +kernel)
theorem dX7_drawn_49 : decode cX7_drawn 49 = .ok (.getfield 26, 3) := dq_180 (b1 := 0) (b2 := 26) (by decide +kernel) (by decide)
theorem dX7_drawn_52 : decode cX7_drawn 52 = .ok (.invokevirtual 128, 3) := dq_182 (b1 := 0) (b2 := 128) (by decide +kernel) (by decide)
theorem dX7_drawn_55 : decode cX7_drawn 55 = .ok (.iload_n 2, 1) := dq_28 (by decide +kernel)
theorem dX7_drawn_56 : decode cX7_drawn 56 = .ok (.i2l, 1) := dq_133 (by decide +kernel)
theorem dX7_drawn_57 : decode cX7_drawn 57 = .ok (.lstore 4, 2) := dq_55 (b1 := 4) (by decide +kernel) (by decide)
theorem dX7_drawn_59 : decode cX7_drawn 59 = .ok (.iconst 0, 1) := dq_3 (by decide +kernel)
theorem dX7_drawn_60 : decode cX7_drawn 60 = .ok (.istore 6, 2) := dq_54 (b1 := 6) (by decide +kernel) (by decide)
theorem dX7_drawn_62 : decode cX7_drawn 62 = .ok (.iload 6, 2) := dq_21 (b1 := 6) (by decide +kernel) (by decide)
theorem dX7_drawn_64 : decode cX7_drawn 64 = .ok (.iload_n 1, 1) := dq_27 (by decide +kernel)
theorem dX7_drawn_65 : decode cX7_drawn 65 = .ok (.if_icmp .ge 37, 3) := dq_162 (b1 := 0) (b2 := 37) (by decide +kernel) (by decide)
theorem dX7_drawn_68 : decode cX7_drawn 68 = .ok (.lload 4, 2) := dq_22 (b1 := 4) (by decide +kernel) (by decide)
theorem dX7_drawn_7 : decode cX7_drawn 7 = .ok (.ifCond .ne 6, 3) := dq_154 (b1 := 0) (b2 := 6) (by decide +kernel) (by decide)
theorem dX7_drawn_70 : decode cX7_drawn 70 = .ok (.ldc2_w 288, 3) := dq_20 (b1 := 1) (b2 := 32) (by decide +kernel) (by decide)
theorem dX7_drawn_73 : decode cX7_drawn 73 = .ok (.lmul, 1) := dq_105 (by decide +kernel)
theorem dX7_drawn_74 : decode cX7_drawn 74 = .ok (.ldc2_w 290, 3) := dq_20 (b1 := 1) (b2 := 34) (by decide +kernel) (by decide)
theorem dX7_drawn_77 : decode cX7_drawn 77 = .ok (.lrem, 1) := dq_113 (by decide +kernel)
theorem dX7_drawn_78 : decode cX7_drawn 78 = .ok (.lstore 4, 2) := dq_55 (b1 := 4) (by decide +kernel) (by decide)
theorem dX7_drawn_80 : decode cX7_drawn 80 = .ok (.aload_n 0, 1) := dq_42 (by decide +kernel)
theorem dX7_drawn_81 : decode cX7_drawn 81 = .ok (.getfield 41, 3) := dq_180 (b1 := 0) (b2 := 41) (by decide +kernel) (by decide)
theorem dX7_drawn_84 : decode cX7_drawn 84 = .ok (.lload 4, 2) := dq_22 (b1 := 4) (by decide +kernel) (by decide)
theorem dX7_drawn_86 : decode cX7_drawn 86 = .ok (.invokevirtual 292, 3) := dq_182 (b1 := 1) (b2 := 36) (by decide +kernel) (by decide)
theorem dX7_drawn_89 : decode cX7_drawn 89 = .ok (.aload_n 0, 1) := dq_42 (by decide +kernel)
theorem dX7_drawn_90 : decode cX7_drawn 90 = .ok (.getfield 41, 3) := dq_180 (b1 := 0) (b2 := 41) (by decide +kernel) (by decide)
theorem dX7_drawn_93 : decode cX7_drawn 93 = .ok (.invokevirtual 154, 3) := dq_182 (b1 := 0) (b2 := 154) (by decide +kernel) (by decide)
theorem dX7_drawn_96 : decode cX7_drawn 96 = .ok (.iinc 6 1, 3) := dq_132 (b1 := 6) (b2 := 1) (by decide +kernel) (by decide) (by decide)
theorem dX7_drawn_99 : decode cX7_drawn 99 = .ok (.goto (-37), 3) := dq_167 (b1 := 255) (b2 := 219) (by decide +kernel) (by decide)
theorem dX7_gusts_0 : decode cX7_gusts 0 = .ok (.iload_n 1, 1) := dq_27 (by decide +kernel)
theorem dX7_gusts_1 : decode cX7_gusts 1 = .ok (.iconst (-1), 1) := dq_2 (by decide +kernel)
theorem dX7_gusts_10 : decode cX7_gusts 10 = .ok (.invokevirtual 166, 3) := dq_182 (b1 := 0) (b2 := 166) (by decide +kernel) (by decide)
theorem dX7_gusts_13 : decode cX7_gusts 13 = .ok (.ifCond .eq 23, 3) := dq_153 (b1 := 0) (b2 := 23) (by decide +kernel) (by decide)
theorem dX7_gusts_16 : decode cX7_gusts 16 = .ok (.aload_n 0, 1) := dq_42 (by decide +kernel)
theorem dX7_gusts_17 : decode cX7_gusts 17 = .ok (.getfield 26, 3) := dq_180 (b1 := 0) (b2 := 26) (by decide +kernel) (by decide)
theorem dX7_gusts_2 : decode cX7_gusts 2 = .ok (.if_icmp .eq 14, 3) := dq_159 (b1 := 0) (b2 := 14) (by decide +kernel) (by decide)
theorem dX7_gusts_20 : decode cX7_gusts 20 = .ok (.iload_n 2, 1) := dq_28 (by decide +kernel)
theorem dX7_gusts_21 : decode cX7_gusts 21 = .ok (.invokevirtual 173, 3) := dq_182 (b1 := 0) (b2 := 173) (by decide +kernel) (by decide)
theorem dX7_gusts_24 : decode cX7_gusts 24 = .ok (.ifCond .eq 12, 3) := dq_153 (b1 := 0) (b2 := 12) (by decide +kernel) (by decide)
theorem dX7_gusts_27 : decode cX7_gusts 27 = .ok (.iload_n 3, 1) := dq_29 (by decide +kernel)
theorem dX7_gusts_28 : decode cX7_gusts 28 = .ok (.iload 5, 2) := dq_21 (b1 := 5) (by decide +kernel) (by decide)
theorem dX7_gusts_30 : decode cX7_gusts 30 = .ok (.invokestatic 247, 3) := dq_184 (b1 := 0) (b2 := 247) (by decide +kernel) (by decide)
theorem dX7_gusts_33 : decode cX7_gusts 33 = .ok (.ifCond .ne 6, 3) := dq_154 (b1 := 0) (b2 := 6) (by decide +kernel) (by decide)
theorem dX7_gusts_36 : decode cX7_gusts 36 = .ok (.ldc 72, 2) := dq_18 (b1 := 72) (by decide +kernel) (by decide)
theorem dX7_gusts_38 : decode cX7_gusts 38 = .ok (.ireturn, 1) := dq_172 (by decide +kernel)
theorem dX7_gusts_39 : decode cX7_gusts 39 = .ok (.aload_n 0, 1) := dq_42 (by decide +kernel)
theorem dX7_gusts_40 : decode cX7_gusts 40 = .ok (.iload_n 2, 1) := dq_28 (by decide +kernel)
theorem dX7_gusts_41 : decode cX7_gusts 41 = .ok (.iload_n 3, 1) := dq_29 (by decide +kernel)
theorem dX7_gusts_42 : decode cX7_gusts 42 = .ok (.iload 4, 2) := dq_21 (b1 := 4) (by decide +kernel) (by decide)
theorem dX7_gusts_44 : decode cX7_gusts 44 = .ok (.iload 5, 2) := dq_21 (b1 := 5) (by decide +kernel) (by decide)
theorem dX7_gusts_46 : decode cX7_gusts 46 = .ok (.invokevirtual 251, 3) := dq_182 (b1 := 0) (b2 := 251) (by decide +kernel) (by decide)
theorem dX7_gusts_49 : decode cX7_gusts 49 = .ok (.istore 6, 2) := dq_54 (b1 := 6) (by decide +kernel) (by decide)
theorem dX7_gusts_5 : decode cX7_gusts 5 = .ok (.aload_n 0, 1) := dq_42 (by decide +kernel)
theorem dX7_gusts_51 : decode cX7_gusts 51 = .ok (.iload 6, 2) := dq_21 (b1 := 6) (by decide +kernel) (by decide)
theorem dX7_gusts_53 : decode cX7_gusts 53 = .ok (.ifCond .eq 6, 3) := dq_153 (b1 := 0) (b2 := 6) (by decide +kernel) (by decide)
theorem dX7_gusts_56 : decode cX7_gusts 56 = .ok (.iload 6, 2) := dq_21 (b1 := 6) (by decide +kernel) (by decide)
theorem dX7_gusts_58 : decode cX7_gusts 58 = .ok (.ireturn, 1) := dq_172 (by decide +kernel)
theorem dX7_gusts_59 : decode cX7_gusts 59 = .ok (.aload_n 0, 1) := dq_42 (by decide +kernel)
theorem dX7_gusts_6 : decode cX7_gusts 6 = .ok (.getfield 26, 3) := dq_180 (b1 := 0) (b2 := 26) (by decide +kernel) (by decide)
theorem dX7_gusts_60 : decode cX7_gusts 60 = .ok (.iload_n 1, 1) := dq_27 (by decide +kernel)
theorem dX7_gusts_61 : decode cX7_gusts 61 = .ok (.iconst (-1), 1) := dq_2 (by decide +kernel)
theorem dX7_gusts_62 : decode cX7_gusts 62 = .ok (.if_icmp .ne 16, 3) := dq_160 (b1 := 0) (b2 := 16) (by decide +kernel) (by decide)
theorem dX7_gusts_65 : decode cX7_gusts 65 = .ok (.aload_n 0, 1) := dq_42 (by decide +kernel)
theorem dX7_gusts_66 : decode cX7_gusts 66 = .ok (.iload_n 2, 1) := dq_28 (by decide +kernel)
theorem dX7_gusts_67 : decode cX7_gusts 67 = .ok (.iload_n 3, 1) := dq_29 (by decide +kernel)
theorem dX7_gusts_68 : decode cX7_gusts 68 = .ok (.iload 4, 2) := dq_21 (b1 := 4) (by decide +kernel) (by decide)
theorem dX7_gusts_70 : decode cX7_gusts 70 = .ok (.iload 5, 2) := dq_21 (b1 := 5) (by decide +kernel) (by decide)
theorem dX7_gusts_72 : decode cX7_gusts 72 = .ok (.invokevirtual 261, 3) := dq_182 (b1 := 1) (b2 := 5) (by decide +kernel) (by decide)
theorem dX7_gusts_75 : decode cX7_gusts 75 = .ok (.goto 14, 3) := dq_167 (b1 := 0) (b2 := 14) (by decide +kernel) (by decide)
theorem dX7_gusts_78 : decode cX7_gusts 78 = .ok (.aload_n 0, 1) := dq_42 (by decide +kernel)
theorem dX7_gusts_79 : decode cX7_gusts 79 = .ok (.iload_n 1, 1) := dq_27 (by decide +kernel)
theorem dX7_gusts_80 : decode cX7_gusts 80 = .ok (.iload_n 2, 1) := dq_28 (by decide +kernel)
theorem dX7_gusts_81 : decode cX7_gusts 81 = .ok (.iload_n 3, 1) := dq_29 (by decide +kernel)
theorem dX7_gusts_82 : decode cX7_gusts 82 = .ok (.iload 4, 2) := dq_21 (b1 := 4) (by decide +kernel) (by decide)
theorem dX7_gusts_84 : decode cX7_gusts 84 = .ok (.iload 5, 2) := dq_21 (b1 := 5) (by decide +kernel) (by decide)
theorem dX7_gusts_86 : decode cX7_gusts 86 = .ok (.invokevirtual 264, 3) := dq_182 (b1 := 1) (b2 := 8) (by decide +kernel) (by decide)
theorem dX7_gusts_89 : decode cX7_gusts 89 = .ok (.invokevirtual 81, 3) := dq_182 (b1 := 0) (b2 := 81) (by decide +kernel) (by decide)
theorem dX7_gusts_9 : decode cX7_gusts 9 = .ok (.iload_n 1, 1) := dq_27 (by decide +kernel)
theorem dX7_gusts_92 : decode cX7_gusts 92 = .ok (.ireturn, 1) := dq_172 (by decide +kernel)
theorem dX7_isGroundIfDropped_0 : decode cX7_isGroundIfDropped 0 = .ok (.aload_n 0, 1) := dq_42 (by decide +kernel)
theorem dX7_isGroundIfDropped_1 : decode cX7_isGroundIfDropped 1 = .ok (.getfield 41, 3) := dq_180 (b1 := 0) (b2 := 41) (by decide +kernel) (by decide)
theorem dX7_isGroundIfDropped_11 : decode cX7_isGroundIfDropped 11 = .ok (.iconst 0, 1) := dq_3 (by decide +kernel)
theorem dX7_isGroundIfDropped_12 : decode cX7_isGroundIfDropped 12 = .ok (.istore 4, 2) := dq_54 (b1 := 4) (by decide +kernel) (by decide)
theorem dX7_isGroundIfDropped_14 : decode cX7_isGroundIfDropped 14 = .ok (.iload 4, 2) := dq_21 (b1 := 4) (by decide +kernel) (by decide)
theorem dX7_isGroundIfDropped_16 : decode cX7_isGroundIfDropped 16 = .ok (.aload_n 0, 1) := dq_42 (by decide +kernel)
theorem dX7_isGroundIfDropped_17 : decode cX7_isGroundIfDropped 17 = .ok (.getfield 41, 3) := dq_180 (b1 := 0) (b2 := 41) (by decide +kernel) (by decide)
theorem dX7_isGroundIfDropped_20 : decode cX7_isGroundIfDropped 20 = .ok (.getfield 269, 3) := dq_180 (b1 := 1) (b2 := 13) (by decide +kernel) (by decide)
theorem dX7_isGroundIfDropped_23 : decode cX7_isGroundIfDropped 23 = .ok (.if_icmp .ge 30, 3) := dq_162 (b1 := 0) (b2 := 30) (by decide +kernel) (by decide)
theorem dX7_isGroundIfDropped_26 : decode cX7_isGroundIfDropped 26 = .ok (.iload_n 3, 1) := dq_29 (by decide +kernel)
theorem dX7_isGroundIfDropped_27 : decode cX7_isGroundIfDropped 27 = .ok (.iload 4, 2) := dq_21 (b1 := 4) (by decide +kernel) (by decide)
theorem dX7_isGroundIfDropped_29 : decode cX7_isGroundIfDropped 29 = .ok (.ishr, 1) := dq_122 (by decide +kernel)
theorem dX7_isGroundIfDropped_30 : decode cX7_isGroundIfDropped 30 = .ok (.iconst 1, 1) := dq_4 (by decide +kernel)
theorem dX7_isGroundIfDropped_31 : decode cX7_isGroundIfDropped 31 = .ok (.iand, 1) := dq_126 (by decide +kernel)
theorem dX7_isGroundIfDropped_32 : decode cX7_isGroundIfDropped 32 = .ok (.iconst 1, 1) := dq_4 (by decide +kernel)
theorem dX7_isGroundIfDropped_33 : decode cX7_isGroundIfDropped 33 = .ok (.if_icmp .ne 14, 3) := dq_160 (b1 := 0) (b2 := 14) (by decide +kernel) (by decide)
theorem dX7_isGroundIfDropped_36 : decode cX7_isGroundIfDropped 36 = .ok (.aload_n 0, 1) := dq_42 (by decide +kernel)
theorem dX7_isGroundIfDropped_37 : decode cX7_isGroundIfDropped 37 = .ok (.getfield 41, 3) := dq_180 (b1 := 0) (b2 := 41) (by decide +kernel) (by decide)
theorem dX7_isGroundIfDropped_4 : decode cX7_isGroundIfDropped 4 = .ok (.aload_n 0, 1) := dq_42 (by decide +kernel)
theorem dX7_isGroundIfDropped_40 : decode cX7_isGroundIfDropped 40 = .ok (.getfield 169, 3) := dq_180 (b1 := 0) (b2 := 169) (by decide +kernel) (by decide)
theorem dX7_isGroundIfDropped_43 : decode cX7_isGroundIfDropped 43 = .ok (.iload 4, 2) := dq_21 (b1 := 4) (by decide +kernel) (by decide)
theorem dX7_isGroundIfDropped_45 : decode cX7_isGroundIfDropped 45 = .ok (.iconst 2, 1) := dq_5 (by decide +kernel)
theorem dX7_isGroundIfDropped_46 : decode cX7_isGroundIfDropped 46 = .ok (.iastore, 1) := dq_79 (by decide +kernel)
theorem dX7_isGroundIfDropped_47 : decode cX7_isGroundIfDropped 47 = .ok (.iinc 4 1, 3) := dq_132 (b1 := 4) (b2 := 1) (by decide +kernel) (by decide) (by decide)
theorem dX7_isGroundIfDropped_5 : decode cX7_isGroundIfDropped 5 = .ok (.getfield 26, 3) := dq_180 (b1 := 0) (b2 := 26) (by decide +kernel) (by decide)
theorem dX7_isGroundIfDropped_50 : decode cX7_isGroundIfDropped 50 = .ok (.goto (-36), 3) := dq_167 (b1 := 255) (b2 := 220) (by decide +kernel) (by decide)
theorem dX7_isGroundIfDropped_53 : decode cX7_isGroundIfDropped 53 = .ok (.aload_n 0, 1) := dq_42 (by decide +kernel)
theorem dX7_isGroundIfDropped_54 : decode cX7_isGroundIfDropped 54 = .ok (.getfield 41, 3) := dq_180 (b1 := 0) (b2 := 41) (by decide +kernel) (by decide)
theorem dX7_isGroundIfDropped_57 : decode cX7_isGroundIfDropped 57 = .ok (.iload_n 1, 1) := dq_27 (by decide +kernel)
theorem dX7_isGroundIfDropped_58 : decode cX7_isGroundIfDropped 58 = .ok (.iload_n 2, 1) := dq_28 (by decide +kernel)
theorem dX7_isGroundIfDropped_59 : decode cX7_isGroundIfDropped 59 = .ok (.invokevirtual 210, 3) := dq_182 (b1 := 0) (b2 := 210) (by decide +kernel) (by decide)
theorem dX7_isGroundIfDropped_62 : decode cX7_isGroundIfDropped 62 = .ok (.aload_n 0, 1) := dq_42 (by decide +kernel)
theorem dX7_isGroundIfDropped_63 : decode cX7_isGroundIfDropped 63 = .ok (.getfield 41, 3) := dq_180 (b1 := 0) (b2 := 41) (by decide +kernel) (by decide)
theorem dX7_isGroundIfDropped_66 : decode cX7_isGroundIfDropped 66 = .ok (.getfield 217, 3) := dq_180 (b1 := 0) (b2 := 217) (by decide +kernel) (by decide)
theorem dX7_isGroundIfDropped_69 : decode cX7_isGroundIfDropped 69 = .ok (.iload_n 1, 1) := dq_27 (by decide +kernel)
theorem dX7_isGroundIfDropped_70 : decode cX7_isGroundIfDropped 70 = .ok (.iaload, 1) := dq_46 (by decide +kernel)
theorem dX7_isGroundIfDropped_71 : decode cX7_isGroundIfDropped 71 = .ok (.iconst 1, 1) := dq_4 (by decide +kernel)
theorem dX7_isGroundIfDropped_72 : decode cX7_isGroundIfDropped 72 = .ok (.if_icmp .ne 7, 3) := dq_160 (b1 := 0) (b2 := 7) (by decide +kernel) (by decide)
theorem dX7_isGroundIfDropped_75 : decode cX7_isGroundIfDropped 75 = .ok (.iconst 1, 1) := dq_4 (by decide +kernel)
theorem dX7_isGroundIfDropped_76 : decode cX7_isGroundIfDropped 76 = .ok (.goto 4, 3) := dq_167 (b1 := 0) (b2 := 4) (by decide +kernel) (by decide)
theorem dX7_isGroundIfDropped_79 : decode cX7_isGroundIfDropped 79 = .ok (.iconst 0, 1) := dq_3 (by decide +kernel)
theorem dX7_isGroundIfDropped_8 : decode cX7_isGroundIfDropped 8 = .ok (.invokevirtual 128, 3) := dq_182 (b1 := 0) (b2 := 128) (by decide +kernel) (by decide)
theorem dX7_isGroundIfDropped_80 : decode cX7_isGroundIfDropped 80 = .ok (.ireturn, 1) := dq_172 (by decide +kernel)
theorem dX7_kindsThatFit_0 : decode cX7_kindsThatFit 0 = .ok (.iconst 0, 1) := dq_3 (by decide +kernel)
theorem dX7_kindsThatFit_1 : decode cX7_kindsThatFit 1 = .ok (.istore 5, 2) := dq_54 (b1 := 5) (by decide +kernel) (by decide)
theorem dX7_kindsThatFit_12 : decode cX7_kindsThatFit 12 = .ok (.aload_n 0, 1) := dq_42 (by decide +kernel)
theorem dX7_kindsThatFit_13 : decode cX7_kindsThatFit 13 = .ok (.getfield 41, 3) := dq_180 (b1 := 0) (b2 := 41) (by decide +kernel) (by decide)
theorem dX7_kindsThatFit_16 : decode cX7_kindsThatFit 16 = .ok (.aload_n 0, 1) := dq_42 (by decide +kernel)
theorem dX7_kindsThatFit_17 : decode cX7_kindsThatFit 17 = .ok (.getfield 26, 3) := dq_180 (b1 := 0) (b2 := 26) (by decide +kernel) (by decide)
theorem dX7_kindsThatFit_20 : decode cX7_kindsThatFit 20 = .ok (.invokevirtual 128, 3) := dq_182 (b1 := 0) (b2 := 128) (by decide +kernel) (by decide)
theorem dX7_kindsThatFit_23 : decode cX7_kindsThatFit 23 = .ok (.aload_n 0, 1) := dq_42 (by decide +kernel)
theorem dX7_kindsThatFit_24 : decode cX7_kindsThatFit 24 = .ok (.getfield 41, 3) := dq_180 (b1 := 0) (b2 := 41) (by decide +kernel) (by decide)
theorem dX7_kindsThatFit_27 : decode cX7_kindsThatFit 27 = .ok (.getfield 301, 3) := dq_180 (b1 := 1) (b2 := 45) (by decide +kernel) (by decide)
theorem dX7_kindsThatFit_3 : decode cX7_kindsThatFit 3 = .ok (.iconst 1, 1) := dq_4 (by decide +kernel)
theorem dX7_kindsThatFit_30 : decode cX7_kindsThatFit 30 = .ok (.iload_n 1, 1) := dq_27 (by decide +kernel)
theorem dX7_kindsThatFit_31 : decode cX7_kindsThatFit 31 = .ok (.iload 6, 2) := dq_21 (b1 := 6) (by decide +kernel) (by decide)
theorem dX7_kindsThatFit_33 : decode cX7_kindsThatFit 33 = .ok (.iastore, 1) := dq_79 (by decide +kernel)
theorem dX7_kindsThatFit_34 : decode cX7_kindsThatFit 34 = .ok (.iload 5, 2) := dq_21 (b1 := 5) (by decide +kernel) (by decide)
theorem dX7_kindsThatFit_36 : decode cX7_kindsThatFit 36 = .ok (.aload_n 0, 1) := dq_42 (by decide +kernel)
theorem dX7_kindsThatFit_37 : decode cX7_kindsThatFit 37 = .ok (.iload_n 1, 1) := dq_27 (by decide +kernel)
theorem dX7_kindsThatFit_38 : decode cX7_kindsThatFit 38 = .ok (.iload_n 2, 1) := dq_28 (by decide +kernel)
theorem dX7_kindsThatFit_39 : decode cX7_kindsThatFit 39 = .ok (.iload_n 3, 1) := dq_29 (by decide +kernel)
theorem dX7_kindsThatFit_4 : decode cX7_kindsThatFit 4 = .ok (.istore 6, 2) := dq_54 (b1 := 6) (by decide +kernel) (by decide)
theorem dX7_kindsThatFit_40 : decode cX7_kindsThatFit 40 = .ok (.iload 4, 2) := dq_21 (b1 := 4) (by decide +kernel) (by decide)
theorem dX7_kindsThatFit_42 : decode cX7_kindsThatFit 42 = .ok (.invokevirtual 330, 3) := dq_182 (b1 := 1) (b2 := 74) (by decide +kernel) (by decide)
theorem dX7_kindsThatFit_45 : decode cX7_kindsThatFit 45 = .ok (.ifCond .eq 10, 3) := dq_153 (b1 := 0) (b2 := 10) (by decide +kernel) (by decide)
theorem dX7_kindsThatFit_48 : decode cX7_kindsThatFit 48 = .ok (.iconst 1, 1) := dq_4 (by decide +kernel)
theorem dX7_kindsThatFit_49 : decode cX7_kindsThatFit 49 = .ok (.iload 6, 2) := dq_21 (b1 := 6) (by decide +kernel) (by decide)
theorem dX7_kindsThatFit_51 : decode cX7_kindsThatFit 51 = .ok (.ishl, 1) := dq_120 (by decide +kernel)
theorem dX7_kindsThatFit_52 : decode cX7_kindsThatFit 52 = .ok (.goto 4, 3) := dq_167 (b1 := 0) (b2 := 4) (by decide +kernel) (by decide)
theorem dX7_kindsThatFit_55 : decode cX7_kindsThatFit 55 = .ok (.iconst 0, 1) := dq_3 (by decide +kernel)
theorem dX7_kindsThatFit_56 : decode cX7_kindsThatFit 56 = .ok (.ior, 1) := dq_128 (by decide +kernel)
theorem dX7_kindsThatFit_57 : decode cX7_kindsThatFit 57 = .ok (.istore 5, 2) := dq_54 (b1 := 5) (by decide +kernel) (by decide)
theorem dX7_kindsThatFit_59 : decode cX7_kindsThatFit 59 = .ok (.iinc 6 1, 3) := dq_132 (b1 := 6) (b2 := 1) (by decide +kernel) (by decide) (by decide)
theorem dX7_kindsThatFit_6 : decode cX7_kindsThatFit 6 = .ok (.iload 6, 2) := dq_21 (b1 := 6) (by decide +kernel) (by decide)
theorem dX7_kindsThatFit_62 : decode cX7_kindsThatFit 62 = .ok (.goto (-56), 3) := dq_167 (b1 := 255) (b2 := 200) (by decide +kernel) (by decide)
theorem dX7_kindsThatFit_65 : decode cX7_kindsThatFit 65 = .ok (.iload 5, 2) := dq_21 (b1 := 5) (by decide +kernel) (by decide)
theorem dX7_kindsThatFit_67 : decode cX7_kindsThatFit 67 = .ok (.ireturn, 1) := dq_172 (by decide +kernel)
theorem dX7_kindsThatFit_8 : decode cX7_kindsThatFit 8 = .ok (.iconst 5, 1) := dq_8 (by decide +kernel)
theorem dX7_kindsThatFit_9 : decode cX7_kindsThatFit 9 = .ok (.if_icmp .gt 56, 3) := dq_163 (b1 := 0) (b2 := 56) (by decide +kernel) (by decide)
theorem dX7_meal_0 : decode cX7_meal 0 = .ok (.aload_n 0, 1) := dq_42 (by decide +kernel)
theorem dX7_meal_1 : decode cX7_meal 1 = .ok (.getfield 26, 3) := dq_180 (b1 := 0) (b2 := 26) (by decide +kernel) (by decide)
theorem dX7_meal_10 : decode cX7_meal 10 = .ok (.ldc 141, 2) := dq_18 (b1 := 141) (by decide +kernel) (by decide)
theorem dX7_meal_12 : decode cX7_meal 12 = .ok (.ireturn, 1) := dq_172 (by decide +kernel)
theorem dX7_meal_13 : decode cX7_meal 13 = .ok (.iload_n 1, 1) := dq_27 (by decide +kernel)
theorem dX7_meal_14 : decode cX7_meal 14 = .ok (.invokestatic 207, 3) := dq_184 (b1 := 0) (b2 := 207) (by decide +kernel) (by decide)
theorem dX7_meal_17 : decode cX7_meal 17 = .ok (.ifCond .ne 6, 3) := dq_154 (b1 := 0) (b2 := 6) (by decide +kernel) (by decide)
theorem dX7_meal_20 : decode cX7_meal 20 = .ok (.ldc 72, 2) := dq_18 (b1 := 72) (by decide +kernel) (by decide)
theorem dX7_meal_22 : decode cX7_meal 22 = .ok (.ireturn, 1) := dq_172 (by decide +kernel)
theorem dX7_meal_23 : decode cX7_meal 23 = .ok (.aload_n 0, 1) := dq_42 (by decide +kernel)
theorem dX7_meal_24 : decode cX7_meal 24 = .ok (.getfield 41, 3) := dq_180 (b1 := 0) (b2 := 41) (by decide +kernel) (by decide)
theorem dX7_meal_27 : decode cX7_meal 27 = .ok (.aload_n 0, 1) := dq_42 (by decide +kernel)
theorem dX7_meal_28 : decode cX7_meal 28 = .ok (.getfield 26, 3) := dq_180 (b1 := 0) (b2 := 26) (by decide +kernel) (by decide)
theorem dX7_meal_31 : decode cX7_meal 31 = .ok (.invokevirtual 128, 3) := dq_182 (b1 := 0) (b2 := 128) (by decide +kernel) (by decide)
theorem dX7_meal_34 : decode cX7_meal 34 = .ok (.aload_n 0, 1) := dq_42 (by decide +kernel)
theorem dX7_meal_35 : decode cX7_meal 35 = .ok (.getfield 41, 3) := dq_180 (b1 := 0) (b2 := 41) (by decide +kernel) (by decide)
theorem dX7_meal_38 : decode cX7_meal 38 = .ok (.iload_n 1, 1) := dq_27 (by decide +kernel)
theorem dX7_meal_39 : decode cX7_meal 39 = .ok (.invokevirtual 214, 3) := dq_182 (b1 := 0) (b2 := 214) (by decide +kernel) (by decide)
theorem dX7_meal_4 : decode cX7_meal 4 = .ok (.invokevirtual 145, 3) := dq_182 (b1 := 0) (b2 := 145) (by decide +kernel) (by decide)
theorem dX7_meal_42 : decode cX7_meal 42 = .ok (.ireturn, 1) := dq_172 (by decide +kernel)
theorem dX7_meal_7 : decode cX7_meal 7 = .ok (.ifCond .ne 6, 3) := dq_154 (b1 := 0) (b2 := 6) (by decide +kernel) (by decide)
theorem dX7_reachesThatFit_0 : decode cX7_reachesThatFit 0 = .ok (.iconst 0, 1) := dq_3 (by decide +kernel)
theorem dX7_reachesThatFit_1 : decode cX7_reachesThatFit 1 = .ok (.istore 5, 2) := dq_54 (b1 := 5) (by decide +kernel) (by decide)
theorem dX7_reachesThatFit_12 : decode cX7_reachesThatFit 12 = .ok (.aload_n 0, 1) := dq_42 (by decide +kernel)
theorem dX7_reachesThatFit_13 : decode cX7_reachesThatFit 13 = .ok (.getfield 41, 3) := dq_180 (b1 := 0) (b2 := 41) (by decide +kernel) (by decide)
theorem dX7_reachesThatFit_16 : decode cX7_reachesThatFit 16 = .ok (.aload_n 0, 1) := dq_42 (by decide +kernel)
theorem dX7_reachesThatFit_17 : decode cX7_reachesThatFit 17 = .ok (.getfield 26, 3) := dq_180 (b1 := 0) (b2 := 26) (by decide +kernel) (by decide)
theorem dX7_reachesThatFit_20 : decode cX7_reachesThatFit 20 = .ok (.invokevirtual 128, 3) := dq_182 (b1 := 0) (b2 := 128) (by decide +kernel) (by decide)
theorem dX7_reachesThatFit_23 : decode cX7_reachesThatFit 23 = .ok (.aload_n 0, 1) := dq_42 (by decide +kernel)
theorem dX7_reachesThatFit_24 : decode cX7_reachesThatFit 24 = .ok (.getfield 41, 3) := dq_180 (b1 := 0) (b2 := 41) (by decide +kernel) (by decide)
theorem dX7_reachesThatFit_27 : decode cX7_reachesThatFit 27 = .ok (.iload 6, 2) := dq_21 (b1 := 6) (by decide +kernel) (by decide)
theorem dX7_reachesThatFit_29 : decode cX7_reachesThatFit 29 = .ok (.putfield 204, 3) := dq_181 (b1 := 0) (b2 := 204) (by decide +kernel) (by decide)
theorem dX7_reachesThatFit_3 : decode cX7_reachesThatFit 3 = .ok (.iconst 0, 1) := dq_3 (by decide +kernel)
theorem dX7_reachesThatFit_32 : decode cX7_reachesThatFit 32 = .ok (.iload 5, 2) := dq_21 (b1 := 5) (by decide +kernel) (by decide)
theorem dX7_reachesThatFit_34 : decode cX7_reachesThatFit 34 = .ok (.aload_n 0, 1) := dq_42 (by decide +kernel)
theorem dX7_reachesThatFit_35 : decode cX7_reachesThatFit 35 = .ok (.iload_n 1, 1) := dq_27 (by decide +kernel)
theorem dX7_reachesThatFit_36 : decode cX7_reachesThatFit 36 = .ok (.iload_n 2, 1) := dq_28 (by decide +kernel)
theorem dX7_reachesThatFit_37 : decode cX7_reachesThatFit 37 = .ok (.iload_n 3, 1) := dq_29 (by decide +kernel)
theorem dX7_reachesThatFit_38 : decode cX7_reachesThatFit 38 = .ok (.iload 4, 2) := dq_21 (b1 := 4) (by decide +kernel) (by decide)
theorem dX7_reachesThatFit_4 : decode cX7_reachesThatFit 4 = .ok (.istore 6, 2) := dq_54 (b1 := 6) (by decide +kernel) (by decide)
theorem dX7_reachesThatFit_40 : decode cX7_reachesThatFit 40 = .ok (.invokevirtual 330, 3) := dq_182 (b1 := 1) (b2 := 74) (by decide +kernel) (by decide)
theorem dX7_reachesThatFit_43 : decode cX7_reachesThatFit 43 = .ok (.ifCond .eq 10, 3) := dq_153 (b1 := 0) (b2 := 10) (by decide +kernel) (by decide)
theorem dX7_reachesThatFit_46 : decode cX7_reachesThatFit 46 = .ok (.iconst 1, 1) := dq_4 (by decide +kernel)
theorem dX7_reachesThatFit_47 : decode cX7_reachesThatFit 47 = .ok (.iload 6, 2) := dq_21 (b1 := 6) (by decide +kernel) (by decide)
theorem dX7_reachesThatFit_49 : decode cX7_reachesThatFit 49 = .ok (.ishl, 1) := dq_120 (by decide +kernel)
theorem dX7_reachesThatFit_50 : decode cX7_reachesThatFit 50 = .ok (.goto 4, 3) := dq_167 (b1 := 0) (b2 := 4) (by decide +kernel) (by decide)
theorem dX7_reachesThatFit_53 : decode cX7_reachesThatFit 53 = .ok (.iconst 0, 1) := dq_3 (by decide +kernel)
theorem dX7_reachesThatFit_54 : decode cX7_reachesThatFit 54 = .ok (.ior, 1) := dq_128 (by decide +kernel)
theorem dX7_reachesThatFit_55 : decode cX7_reachesThatFit 55 = .ok (.istore 5, 2) := dq_54 (b1 := 5) (by decide +kernel) (by decide)
theorem dX7_reachesThatFit_57 : decode cX7_reachesThatFit 57 = .ok (.iinc 6 1, 3) := dq_132 (b1 := 6) (b2 := 1) (by decide +kernel) (by decide) (by decide)
theorem dX7_reachesThatFit_6 : decode cX7_reachesThatFit 6 = .ok (.iload 6, 2) := dq_21 (b1 := 6) (by decide +kernel) (by decide)
theorem dX7_reachesThatFit_60 : decode cX7_reachesThatFit 60 = .ok (.goto (-54), 3) := dq_167 (b1 := 255) (b2 := 202) (by decide +kernel) (by decide)
theorem dX7_reachesThatFit_63 : decode cX7_reachesThatFit 63 = .ok (.iload 5, 2) := dq_21 (b1 := 5) (by decide +kernel) (by decide)
theorem dX7_reachesThatFit_65 : decode cX7_reachesThatFit 65 = .ok (.ireturn, 1) := dq_172 (by decide +kernel)
theorem dX7_reachesThatFit_8 : decode cX7_reachesThatFit 8 = .ok (.iconst 4, 1) := dq_7 (by decide +kernel)
theorem dX7_reachesThatFit_9 : decode cX7_reachesThatFit 9 = .ok (.if_icmp .gt 54, 3) := dq_163 (b1 := 0) (b2 := 54) (by decide +kernel) (by decide)
theorem dX7_refusalToHear_0 : decode cX7_refusalToHear 0 = .ok (.aload_n 0, 1) := dq_42 (by decide +kernel)
theorem dX7_refusalToHear_1 : decode cX7_refusalToHear 1 = .ok (.getfield 26, 3) := dq_180 (b1 := 0) (b2 := 26) (by decide +kernel) (by decide)
theorem dX7_refusalToHear_11 : decode cX7_refusalToHear 11 = .ok (.ldc 141, 2) := dq_18 (b1 := 141) (by decide +kernel) (by decide)
theorem dX7_refusalToHear_13 : decode cX7_refusalToHear 13 = .ok (.ireturn, 1) := dq_172 (by decide +kernel)
theorem dX7_refusalToHear_14 : decode cX7_refusalToHear 14 = .ok (.aload_n 0, 1) := dq_42 (by decide +kernel)
theorem dX7_refusalToHear_15 : decode cX7_refusalToHear 15 = .ok (.getfield 10, 3) := dq_180 (b1 := 0) (b2 := 10) (by decide +kernel) (by decide)
theorem dX7_refusalToHear_18 : decode cX7_refusalToHear 18 = .ok (.iload_n 2, 1) := dq_28 (by decide +kernel)
theorem dX7_refusalToHear_19 : decode cX7_refusalToHear 19 = .ok (.iload_n 3, 1) := dq_29 (by decide +kernel)
theorem dX7_refusalToHear_20 : decode cX7_refusalToHear 20 = .ok (.iload 4, 2) := dq_21 (b1 := 4) (by decide +kernel) (by decide)
theorem dX7_refusalToHear_22 : decode cX7_refusalToHear 22 = .ok (.invokevirtual 84, 3) := dq_182 (b1 := 0) (b2 := 84) (by decide +kernel) (by decide)
theorem dX7_refusalToHear_25 : decode cX7_refusalToHear 25 = .ok (.istore 5, 2) := dq_54 (b1 := 5) (by decide +kernel) (by decide)
theorem dX7_refusalToHear_27 : decode cX7_refusalToHear 27 = .ok (.iload 5, 2) := dq_21 (b1 := 5) (by decide +kernel) (by decide)
theorem dX7_refusalToHear_29 : decode cX7_refusalToHear 29 = .ok (.ifCond .ne 7, 3) := dq_154 (b1 := 0) (b2 := 7) (by decide +kernel) (by decide)
theorem dX7_refusalToHear_32 : decode cX7_refusalToHear 32 = .ok (.iconst 0, 1) := dq_3 (by decide +kernel)
theorem dX7_refusalToHear_33 : decode cX7_refusalToHear 33 = .ok (.goto 9, 3) := dq_167 (b1 := 0) (b2 := 9) (by decide +kernel) (by decide)
theorem dX7_refusalToHear_36 : decode cX7_refusalToHear 36 = .ok (.aload_n 0, 1) := dq_42 (by decide +kernel)
theorem dX7_refusalToHear_37 : decode cX7_refusalToHear 37 = .ok (.iload 5, 2) := dq_21 (b1 := 5) (by decide +kernel) (by decide)
theorem dX7_refusalToHear_39 : decode cX7_refusalToHear 39 = .ok (.invokevirtual 73, 3) := dq_182 (b1 := 0) (b2 := 73) (by decide +kernel) (by decide)
theorem dX7_refusalToHear_4 : decode cX7_refusalToHear 4 = .ok (.iload_n 1, 1) := dq_27 (by decide +kernel)
theorem dX7_refusalToHear_42 : decode cX7_refusalToHear 42 = .ok (.ireturn, 1) := dq_172 (by decide +kernel)
theorem dX7_refusalToHear_5 : decode cX7_refusalToHear 5 = .ok (.invokevirtual 179, 3) := dq_182 (b1 := 0) (b2 := 179) (by decide +kernel) (by decide)
theorem dX7_refusalToHear_8 : decode cX7_refusalToHear 8 = .ok (.ifCond .ne 6, 3) := dq_154 (b1 := 0) (b2 := 6) (by decide +kernel) (by decide)
theorem dX7_site_0 : decode cX7_site 0 = .ok (.aload_n 0, 1) := dq_42 (by decide +kernel)
theorem dX7_site_1 : decode cX7_site 1 = .ok (.getfield 26, 3) := dq_180 (b1 := 0) (b2 := 26) (by decide +kernel) (by decide)
theorem dX7_site_10 : decode cX7_site 10 = .ok (.ldc 141, 2) := dq_18 (b1 := 141) (by decide +kernel) (by decide)
theorem dX7_site_100 : decode cX7_site 100 = .ok (.iinc 5 1, 3) := dq_132 (b1 := 5) (b2 := 1) (by decide +kernel) (by decide) (by decide)
theorem dX7_site_103 : decode cX7_site 103 = .ok (.goto (-59), 3) := dq_167 (b1 := 255) (b2 := 197) (by decide +kernel) (by decide)
theorem dX7_site_106 : decode cX7_site 106 = .ok (.iload_n 2, 1) := dq_28 (by decide +kernel)
theorem dX7_site_107 : decode cX7_site 107 = .ok (.ifCond .ne 7, 3) := dq_154 (b1 := 0) (b2 := 7) (by decide +kernel) (by decide)
theorem dX7_site_110 : decode cX7_site 110 = .ok (.iload_n 3, 1) := dq_29 (by decide +kernel)
theorem dX7_site_111 : decode cX7_site 111 = .ok (.goto 5, 3) := dq_167 (b1 := 0) (b2 := 5) (by decide +kernel) (by decide)
theorem dX7_site_114 : decode cX7_site 114 = .ok (.iload 4, 2) := dq_21 (b1 := 4) (by decide +kernel) (by decide)
theorem dX7_site_116 : decode cX7_site 116 = .ok (.ireturn, 1) := dq_172 (by decide +kernel)
theorem dX7_site_12 : decode cX7_site 12 = .ok (.ireturn, 1) := dq_172 (by decide +kernel)
theorem dX7_site_13 : decode cX7_site 13 = .ok (.iload_n 1, 1) := dq_27 (by decide +kernel)
theorem dX7_site_14 : decode cX7_site 14 = .ok (.iconst 1, 1) := dq_4 (by decide +kernel)
theorem dX7_site_15 : decode cX7_site 15 = .ok (.if_icmp .lt 18, 3) := dq_161 (b1 := 0) (b2 := 18) (by decide +kernel) (by decide)
theorem dX7_site_18 : decode cX7_site 18 = .ok (.iload_n 1, 1) := dq_27 (by decide +kernel)
theorem dX7_site_19 : decode cX7_site 19 = .ok (.bipush 30, 2) := dq_16 (b1 := 30) (by decide +kernel) (by decide)
theorem dX7_site_21 : decode cX7_site 21 = .ok (.if_icmp .gt 12, 3) := dq_163 (b1 := 0) (b2 := 12) (by decide +kernel) (by decide)
theorem dX7_site_24 : decode cX7_site 24 = .ok (.iload_n 2, 1) := dq_28 (by decide +kernel)
theorem dX7_site_25 : decode cX7_site 25 = .ok (.ifCond .lt 8, 3) := dq_155 (b1 := 0) (b2 := 8) (by decide +kernel) (by decide)
theorem dX7_site_28 : decode cX7_site 28 = .ok (.iload_n 2, 1) := dq_28 (by decide +kernel)
theorem dX7_site_29 : decode cX7_site 29 = .ok (.iconst 1, 1) := dq_4 (by decide +kernel)
theorem dX7_site_30 : decode cX7_site 30 = .ok (.if_icmp .le 6, 3) := dq_164 (b1 := 0) (b2 := 6) (by decide +kernel) (by decide)
theorem dX7_site_33 : decode cX7_site 33 = .ok (.ldc 72, 2) := dq_18 (b1 := 72) (by decide +kernel) (by decide)
theorem dX7_site_35 : decode cX7_site 35 = .ok (.ireturn, 1) := dq_172 (by decide +kernel)
theorem dX7_site_36 : decode cX7_site 36 = .ok (.iconst 0, 1) := dq_3 (by decide +kernel)
theorem dX7_site_37 : decode cX7_site 37 = .ok (.istore_n 3, 1) := dq_62 (by decide +kernel)
theorem dX7_site_38 : decode cX7_site 38 = .ok (.iconst (-1), 1) := dq_2 (by decide +kernel)
theorem dX7_site_39 : decode cX7_site 39 = .ok (.istore 4, 2) := dq_54 (b1 := 4) (by decide +kernel) (by decide)
theorem dX7_site_4 : decode cX7_site 4 = .ok (.invokevirtual 145, 3) := dq_182 (b1 := 0) (b2 := 145) (by decide +kernel) (by decide)
theorem dX7_site_41 : decode cX7_site 41 = .ok (.iconst 0, 1) := dq_3 (by decide +kernel)
theorem dX7_site_42 : decode cX7_site 42 = .ok (.istore 5, 2) := dq_54 (b1 := 5) (by decide +kernel) (by decide)
theorem dX7_site_44 : decode cX7_site 44 = .ok (.iload 5, 2) := dq_21 (b1 := 5) (by decide +kernel) (by decide)
theorem dX7_site_46 : decode cX7_site 46 = .ok (.aload_n 0, 1) := dq_42 (by decide +kernel)
theorem dX7_site_47 : decode cX7_site 47 = .ok (.getfield 26, 3) := dq_180 (b1 := 0) (b2 := 26) (by decide +kernel) (by decide)
theorem dX7_site_50 : decode cX7_site 50 = .ok (.getfield 198, 3) := dq_180 (b1 := 0) (b2 := 198) (by decide +kernel) (by decide)
theorem dX7_site_53 : decode cX7_site 53 = .ok (.if_icmp .ge 53, 3) := dq_162 (b1 := 0) (b2 := 53) (by decide +kernel) (by decide)
theorem dX7_site_56 : decode cX7_site 56 = .ok (.aload_n 0, 1) := dq_42 (by decide +kernel)
theorem dX7_site_57 : decode cX7_site 57 = .ok (.getfield 41, 3) := dq_180 (b1 := 0) (b2 := 41) (by decide +kernel) (by decide)
theorem dX7_site_60 : decode cX7_site 60 = .ok (.aload_n 0, 1) := dq_42 (by decide +kernel)
theorem dX7_site_61 : decode cX7_site 61 = .ok (.getfield 26, 3) := dq_180 (b1 := 0) (b2 := 26) (by decide +kernel) (by decide)
theorem dX7_site_64 : decode cX7_site 64 = .ok (.invokevirtual 128, 3) := dq_182 (b1 := 0) (b2 := 128) (by decide +kernel) (by decide)
theorem dX7_site_67 : decode cX7_site 67 = .ok (.aload_n 0, 1) := dq_42 (by decide +kernel)
theorem dX7_site_68 : decode cX7_site 68 = .ok (.getfield 41, 3) := dq_180 (b1 := 0) (b2 := 41) (by decide +kernel) (by decide)
theorem dX7_site_7 : decode cX7_site 7 = .ok (.ifCond .ne 6, 3) := dq_154 (b1 := 0) (b2 := 6) (by decide +kernel) (by decide)
theorem dX7_site_71 : decode cX7_site 71 = .ok (.iload 5, 2) := dq_21 (b1 := 5) (by decide +kernel) (by decide)
theorem dX7_site_73 : decode cX7_site 73 = .ok (.putfield 201, 3) := dq_181 (b1 := 0) (b2 := 201) (by decide +kernel) (by decide)
theorem dX7_site_76 : decode cX7_site 76 = .ok (.aload_n 0, 1) := dq_42 (by decide +kernel)
theorem dX7_site_77 : decode cX7_site 77 = .ok (.getfield 41, 3) := dq_180 (b1 := 0) (b2 := 41) (by decide +kernel) (by decide)
theorem dX7_site_80 : decode cX7_site 80 = .ok (.iload_n 1, 1) := dq_27 (by decide +kernel)
theorem dX7_site_81 : decode cX7_site 81 = .ok (.invokevirtual 214, 3) := dq_182 (b1 := 0) (b2 := 214) (by decide +kernel) (by decide)
theorem dX7_site_84 : decode cX7_site 84 = .ok (.istore 6, 2) := dq_54 (b1 := 6) (by decide +kernel) (by decide)
theorem dX7_site_86 : decode cX7_site 86 = .ok (.iload 6, 2) := dq_21 (b1 := 6) (by decide +kernel) (by decide)
theorem dX7_site_88 : decode cX7_site 88 = .ok (.iload 4, 2) := dq_21 (b1 := 4) (by decide +kernel) (by decide)
theorem dX7_site_90 : decode cX7_site 90 = .ok (.if_icmp .le 10, 3) := dq_164 (b1 := 0) (b2 := 10) (by decide +kernel) (by decide)
theorem dX7_site_93 : decode cX7_site 93 = .ok (.iload 6, 2) := dq_21 (b1 := 6) (by decide +kernel) (by decide)
theorem dX7_site_95 : decode cX7_site 95 = .ok (.istore 4, 2) := dq_54 (b1 := 4) (by decide +kernel) (by decide)
theorem dX7_site_97 : decode cX7_site 97 = .ok (.iload 5, 2) := dq_21 (b1 := 5) (by decide +kernel) (by decide)
theorem dX7_site_99 : decode cX7_site 99 = .ok (.istore_n 3, 1) := dq_62 (by decide +kernel)
theorem dX7_startsThatFit_0 : decode cX7_startsThatFit 0 = .ok (.iconst 0, 1) := dq_3 (by decide +kernel)
theorem dX7_startsThatFit_1 : decode cX7_startsThatFit 1 = .ok (.istore 5, 2) := dq_54 (b1 := 5) (by decide +kernel) (by decide)
theorem dX7_startsThatFit_12 : decode cX7_startsThatFit 12 = .ok (.getfield 198, 3) := dq_180 (b1 := 0) (b2 := 198) (by decide +kernel) (by decide)
theorem dX7_startsThatFit_15 : decode cX7_startsThatFit 15 = .ok (.if_icmp .ge 56, 3) := dq_162 (b1 := 0) (b2 := 56) (by decide +kernel) (by decide)
theorem dX7_startsThatFit_18 : decode cX7_startsThatFit 18 = .ok (.aload_n 0, 1) := dq_42 (by decide +kernel)
theorem dX7_startsThatFit_19 : decode cX7_startsThatFit 19 = .ok (.getfield 41, 3) := dq_180 (b1 := 0) (b2 := 41) (by decide +kernel) (by decide)
theorem dX7_startsThatFit_22 : decode cX7_startsThatFit 22 = .ok (.aload_n 0, 1) := dq_42 (by decide +kernel)
theorem dX7_startsThatFit_23 : decode cX7_startsThatFit 23 = .ok (.getfield 26, 3) := dq_180 (b1 := 0) (b2 := 26) (by decide +kernel) (by decide)
theorem dX7_startsThatFit_26 : decode cX7_startsThatFit 26 = .ok (.invokevirtual 128, 3) := dq_182 (b1 := 0) (b2 := 128) (by decide +kernel) (by decide)
theorem dX7_startsThatFit_29 : decode cX7_startsThatFit 29 = .ok (.aload_n 0, 1) := dq_42 (by decide +kernel)
theorem dX7_startsThatFit_3 : decode cX7_startsThatFit 3 = .ok (.iconst 0, 1) := dq_3 (by decide +kernel)
theorem dX7_startsThatFit_30 : decode cX7_startsThatFit 30 = .ok (.getfield 41, 3) := dq_180 (b1 := 0) (b2 := 41) (by decide +kernel) (by decide)
theorem dX7_startsThatFit_33 : decode cX7_startsThatFit 33 = .ok (.getfield 334, 3) := dq_180 (b1 := 1) (b2 := 78) (by decide +kernel) (by decide)
theorem dX7_startsThatFit_36 : decode cX7_startsThatFit 36 = .ok (.iload_n 1, 1) := dq_27 (by decide +kernel)
theorem dX7_startsThatFit_37 : decode cX7_startsThatFit 37 = .ok (.iload 6, 2) := dq_21 (b1 := 6) (by decide +kernel) (by decide)
theorem dX7_startsThatFit_39 : decode cX7_startsThatFit 39 = .ok (.iastore, 1) := dq_79 (by decide +kernel)
theorem dX7_startsThatFit_4 : decode cX7_startsThatFit 4 = .ok (.istore 6, 2) := dq_54 (b1 := 6) (by decide +kernel) (by decide)
theorem dX7_startsThatFit_40 : decode cX7_startsThatFit 40 = .ok (.iload 5, 2) := dq_21 (b1 := 5) (by decide +kernel) (by decide)
theorem dX7_startsThatFit_42 : decode cX7_startsThatFit 42 = .ok (.aload_n 0, 1) := dq_42 (by decide +kernel)
theorem dX7_startsThatFit_43 : decode cX7_startsThatFit 43 = .ok (.iload_n 1, 1) := dq_27 (by decide +kernel)
theorem dX7_startsThatFit_44 : decode cX7_startsThatFit 44 = .ok (.iload_n 2, 1) := dq_28 (by decide +kernel)
theorem dX7_startsThatFit_45 : decode cX7_startsThatFit 45 = .ok (.iload_n 3, 1) := dq_29 (by decide +kernel)
theorem dX7_startsThatFit_46 : decode cX7_startsThatFit 46 = .ok (.iload 4, 2) := dq_21 (b1 := 4) (by decide +kernel) (by decide)
theorem dX7_startsThatFit_48 : decode cX7_startsThatFit 48 = .ok (.invokevirtual 330, 3) := dq_182 (b1 := 1) (b2 := 74) (by decide +kernel) (by decide)
theorem dX7_startsThatFit_51 : decode cX7_startsThatFit 51 = .ok (.ifCond .eq 10, 3) := dq_153 (b1 := 0) (b2 := 10) (by decide +kernel) (by decide)
theorem dX7_startsThatFit_54 : decode cX7_startsThatFit 54 = .ok (.iconst 1, 1) := dq_4 (by decide +kernel)
theorem dX7_startsThatFit_55 : decode cX7_startsThatFit 55 = .ok (.iload 6, 2) := dq_21 (b1 := 6) (by decide +kernel) (by decide)
theorem dX7_startsThatFit_57 : decode cX7_startsThatFit 57 = .ok (.ishl, 1) := dq_120 (by decide +kernel)
theorem dX7_startsThatFit_58 : decode cX7_startsThatFit 58 = .ok (.goto 4, 3) := dq_167 (b1 := 0) (b2 := 4) (by decide +kernel) (by decide)
theorem dX7_startsThatFit_6 : decode cX7_startsThatFit 6 = .ok (.iload 6, 2) := dq_21 (b1 := 6) (by decide +kernel) (by decide)
theorem dX7_startsThatFit_61 : decode cX7_startsThatFit 61 = .ok (.iconst 0, 1) := dq_3 (by decide +kernel)
theorem dX7_startsThatFit_62 : decode cX7_startsThatFit 62 = .ok (.ior, 1) := dq_128 (by decide +kernel)
theorem dX7_startsThatFit_63 : decode cX7_startsThatFit 63 = .ok (.istore 5, 2) := dq_54 (b1 := 5) (by decide +kernel) (by decide)
theorem dX7_startsThatFit_65 : decode cX7_startsThatFit 65 = .ok (.iinc 6 1, 3) := dq_132 (b1 := 6) (b2 := 1) (by decide +kernel) (by decide) (by decide)
theorem dX7_startsThatFit_68 : decode cX7_startsThatFit 68 = .ok (.goto (-62), 3) := dq_167 (b1 := 255) (b2 := 194) (by decide +kernel) (by decide)
theorem dX7_startsThatFit_71 : decode cX7_startsThatFit 71 = .ok (.iload 5, 2) := dq_21 (b1 := 5) (by decide +kernel) (by decide)
theorem dX7_startsThatFit_73 : decode cX7_startsThatFit 73 = .ok (.ireturn, 1) := dq_172 (by decide +kernel)
theorem dX7_startsThatFit_8 : decode cX7_startsThatFit 8 = .ok (.aload_n 0, 1) := dq_42 (by decide +kernel)
theorem dX7_startsThatFit_9 : decode cX7_startsThatFit 9 = .ok (.getfield 26, 3) := dq_180 (b1 := 0) (b2 := 26) (by decide +kernel) (by decide)
theorem dX7_trialFits_0 : decode cX7_trialFits 0 = .ok (.iconst 0, 1) := dq_3 (by decide +kernel)
theorem dX7_trialFits_1 : decode cX7_trialFits 1 = .ok (.istore 5, 2) := dq_54 (b1 := 5) (by decide +kernel) (by decide)
theorem dX7_trialFits_10 : decode cX7_trialFits 10 = .ok (.aload_n 0, 1) := dq_42 (by decide +kernel)
theorem dX7_trialFits_11 : decode cX7_trialFits 11 = .ok (.getfield 41, 3) := dq_180 (b1 := 0) (b2 := 41) (by decide +kernel) (by decide)
theorem dX7_trialFits_14 : decode cX7_trialFits 14 = .ok (.iload_n 1, 1) := dq_27 (by decide +kernel)
theorem dX7_trialFits_15 : decode cX7_trialFits 15 = .ok (.iconst 1, 1) := dq_4 (by decide +kernel)
theorem dX7_trialFits_16 : decode cX7_trialFits 16 = .ok (.invokevirtual 210, 3) := dq_182 (b1 := 0) (b2 := 210) (by decide +kernel) (by decide)
theorem dX7_trialFits_19 : decode cX7_trialFits 19 = .ok (.aload_n 0, 1) := dq_42 (by decide +kernel)
theorem dX7_trialFits_20 : decode cX7_trialFits 20 = .ok (.getfield 41, 3) := dq_180 (b1 := 0) (b2 := 41) (by decide +kernel) (by decide)
theorem dX7_trialFits_23 : decode cX7_trialFits 23 = .ok (.iload_n 1, 1) := dq_27 (by decide +kernel)
theorem dX7_trialFits_24 : decode cX7_trialFits 24 = .ok (.invokevirtual 179, 3) := dq_182 (b1 := 0) (b2 := 179) (by decide +kernel) (by decide)
theorem dX7_trialFits_27 : decode cX7_trialFits 27 = .ok (.ifCond .eq 15, 3) := dq_153 (b1 := 0) (b2 := 15) (by decide +kernel) (by decide)
theorem dX7_trialFits_3 : decode cX7_trialFits 3 = .ok (.iload 5, 2) := dq_21 (b1 := 5) (by decide +kernel) (by decide)
theorem dX7_trialFits_30 : decode cX7_trialFits 30 = .ok (.aload_n 0, 1) := dq_42 (by decide +kernel)
theorem dX7_trialFits_31 : decode cX7_trialFits 31 = .ok (.getfield 41, 3) := dq_180 (b1 := 0) (b2 := 41) (by decide +kernel) (by decide)
theorem dX7_trialFits_34 : decode cX7_trialFits 34 = .ok (.getfield 334, 3) := dq_180 (b1 := 1) (b2 := 78) (by decide +kernel) (by decide)
theorem dX7_trialFits_37 : decode cX7_trialFits 37 = .ok (.iload_n 1, 1) := dq_27 (by decide +kernel)
theorem dX7_trialFits_38 : decode cX7_trialFits 38 = .ok (.iaload, 1) := dq_46 (by decide +kernel)
theorem dX7_trialFits_39 : decode cX7_trialFits 39 = .ok (.goto 5, 3) := dq_167 (b1 := 0) (b2 := 5) (by decide +kernel) (by decide)
theorem dX7_trialFits_42 : decode cX7_trialFits 42 = .ok (.bipush 99, 2) := dq_16 (b1 := 99) (by decide +kernel) (by decide)
theorem dX7_trialFits_44 : decode cX7_trialFits 44 = .ok (.istore 6, 2) := dq_54 (b1 := 6) (by decide +kernel) (by decide)
theorem dX7_trialFits_46 : decode cX7_trialFits 46 = .ok (.iload 6, 2) := dq_21 (b1 := 6) (by decide +kernel) (by decide)
theorem dX7_trialFits_48 : decode cX7_trialFits 48 = .ok (.aload_n 0, 1) := dq_42 (by decide +kernel)
theorem dX7_trialFits_49 : decode cX7_trialFits 49 = .ok (.getfield 10, 3) := dq_180 (b1 := 0) (b2 := 10) (by decide +kernel) (by decide)
theorem dX7_trialFits_5 : decode cX7_trialFits 5 = .ok (.iload 4, 2) := dq_21 (b1 := 4) (by decide +kernel) (by decide)
theorem dX7_trialFits_52 : decode cX7_trialFits 52 = .ok (.iload_n 2, 1) := dq_28 (by decide +kernel)
theorem dX7_trialFits_53 : decode cX7_trialFits 53 = .ok (.iload_n 3, 1) := dq_29 (by decide +kernel)
theorem dX7_trialFits_54 : decode cX7_trialFits 54 = .ok (.iload 5, 2) := dq_21 (b1 := 5) (by decide +kernel) (by decide)
theorem dX7_trialFits_56 : decode cX7_trialFits 56 = .ok (.iadd, 1) := dq_96 (by decide +kernel)
theorem dX7_trialFits_57 : decode cX7_trialFits 57 = .ok (.invokevirtual 337, 3) := dq_182 (b1 := 1) (b2 := 81) (by decide +kernel) (by decide)
theorem dX7_trialFits_60 : decode cX7_trialFits 60 = .ok (.if_icmp .eq 5, 3) := dq_159 (b1 := 0) (b2 := 5) (by decide +kernel) (by decide)
theorem dX7_trialFits_63 : decode cX7_trialFits 63 = .ok (.iconst 0, 1) := dq_3 (by decide +kernel)
theorem dX7_trialFits_64 : decode cX7_trialFits 64 = .ok (.ireturn, 1) := dq_172 (by decide +kernel)
theorem dX7_trialFits_65 : decode cX7_trialFits 65 = .ok (.iinc 5 1, 3) := dq_132 (b1 := 5) (b2 := 1) (by decide +kernel) (by decide) (by decide)
theorem dX7_trialFits_68 : decode cX7_trialFits 68 = .ok (.goto (-65), 3) := dq_167 (b1 := 255) (b2 := 191) (by decide +kernel) (by decide)
theorem dX7_trialFits_7 : decode cX7_trialFits 7 = .ok (.if_icmp .ge 64, 3) := dq_162 (b1 := 0) (b2 := 64) (by decide +kernel) (by decide)
theorem dX7_trialFits_71 : decode cX7_trialFits 71 = .ok (.iconst 1, 1) := dq_4 (by decide +kernel)
theorem dX7_trialFits_72 : decode cX7_trialFits 72 = .ok (.ireturn, 1) := dq_172 (by decide +kernel)
theorem dX7_when_0 : decode cX7_when 0 = .ok (.aload_n 0, 1) := dq_42 (by decide +kernel)
theorem dX7_when_1 : decode cX7_when 1 = .ok (.getfield 26, 3) := dq_180 (b1 := 0) (b2 := 26) (by decide +kernel) (by decide)
theorem dX7_when_11 : decode cX7_when 11 = .ok (.iload_n 2, 1) := dq_28 (by decide +kernel)
theorem dX7_when_12 : decode cX7_when 12 = .ok (.iconst 1, 1) := dq_4 (by decide +kernel)
theorem dX7_when_13 : decode cX7_when 13 = .ok (.if_icmp .lt 8, 3) := dq_161 (b1 := 0) (b2 := 8) (by decide +kernel) (by decide)
theorem dX7_when_16 : decode cX7_when 16 = .ok (.iload_n 2, 1) := dq_28 (by decide +kernel)
theorem dX7_when_17 : decode cX7_when 17 = .ok (.iconst 2, 1) := dq_5 (by decide +kernel)
theorem dX7_when_18 : decode cX7_when 18 = .ok (.if_icmp .le 6, 3) := dq_164 (b1 := 0) (b2 := 6) (by decide +kernel) (by decide)
theorem dX7_when_21 : decode cX7_when 21 = .ok (.ldc 72, 2) := dq_18 (b1 := 72) (by decide +kernel) (by decide)
theorem dX7_when_23 : decode cX7_when 23 = .ok (.ireturn, 1) := dq_172 (by decide +kernel)
theorem dX7_when_24 : decode cX7_when 24 = .ok (.aload_n 0, 1) := dq_42 (by decide +kernel)
theorem dX7_when_25 : decode cX7_when 25 = .ok (.getfield 41, 3) := dq_180 (b1 := 0) (b2 := 41) (by decide +kernel) (by decide)
theorem dX7_when_28 : decode cX7_when 28 = .ok (.aload_n 0, 1) := dq_42 (by decide +kernel)
theorem dX7_when_29 : decode cX7_when 29 = .ok (.getfield 26, 3) := dq_180 (b1 := 0) (b2 := 26) (by decide +kernel) (by decide)
theorem dX7_when_32 : decode cX7_when 32 = .ok (.invokevirtual 128, 3) := dq_182 (b1 := 0) (b2 := 128) (by decide +kernel) (by decide)
theorem dX7_when_35 : decode cX7_when 35 = .ok (.iconst 0, 1) := dq_3 (by decide +kernel)
theorem dX7_when_36 : decode cX7_when 36 = .ok (.istore_n 3, 1) := dq_62 (by decide +kernel)
theorem dX7_when_37 : decode cX7_when 37 = .ok (.iload_n 3, 1) := dq_29 (by decide +kernel)
theorem dX7_when_38 : decode cX7_when 38 = .ok (.bipush 60, 2) := dq_16 (b1 := 60) (by decide +kernel) (by decide)
theorem dX7_when_4 : decode cX7_when 4 = .ok (.iload_n 1, 1) := dq_27 (by decide +kernel)
theorem dX7_when_40 : decode cX7_when 40 = .ok (.if_icmp .gt 33, 3) := dq_163 (b1 := 0) (b2 := 33) (by decide +kernel) (by decide)
theorem dX7_when_43 : decode cX7_when 43 = .ok (.aload_n 0, 1) := dq_42 (by decide +kernel)
theorem dX7_when_44 : decode cX7_when 44 = .ok (.getfield 41, 3) := dq_180 (b1 := 0) (b2 := 41) (by decide +kernel) (by decide)
theorem dX7_when_47 : decode cX7_when 47 = .ok (.getfield 217, 3) := dq_180 (b1 := 0) (b2 := 217) (by decide +kernel) (by decide)
theorem dX7_when_5 : decode cX7_when 5 = .ok (.invokevirtual 173, 3) := dq_182 (b1 := 0) (b2 := 173) (by decide +kernel) (by decide)
theorem dX7_when_50 : decode cX7_when 50 = .ok (.iload_n 1, 1) := dq_27 (by decide +kernel)
theorem dX7_when_51 : decode cX7_when 51 = .ok (.iaload, 1) := dq_46 (by decide +kernel)
theorem dX7_when_52 : decode cX7_when 52 = .ok (.iload_n 2, 1) := dq_28 (by decide +kernel)
theorem dX7_when_53 : decode cX7_when 53 = .ok (.if_icmp .ne 5, 3) := dq_160 (b1 := 0) (b2 := 5) (by decide +kernel) (by decide)
theorem dX7_when_56 : decode cX7_when 56 = .ok (.iload_n 3, 1) := dq_29 (by decide +kernel)
theorem dX7_when_57 : decode cX7_when 57 = .ok (.ireturn, 1) := dq_172 (by decide +kernel)
theorem dX7_when_58 : decode cX7_when 58 = .ok (.aload_n 0, 1) := dq_42 (by decide +kernel)
theorem dX7_when_59 : decode cX7_when 59 = .ok (.getfield 41, 3) := dq_180 (b1 := 0) (b2 := 41) (by decide +kernel) (by decide)
theorem dX7_when_62 : decode cX7_when 62 = .ok (.iload_n 1, 1) := dq_27 (by decide +kernel)
theorem dX7_when_63 : decode cX7_when 63 = .ok (.iconst 1, 1) := dq_4 (by decide +kernel)
theorem dX7_when_64 : decode cX7_when 64 = .ok (.invokevirtual 210, 3) := dq_182 (b1 := 0) (b2 := 210) (by decide +kernel) (by decide)
theorem dX7_when_67 : decode cX7_when 67 = .ok (.iinc 3 1, 3) := dq_132 (b1 := 3) (b2 := 1) (by decide +kernel) (by decide) (by decide)
theorem dX7_when_70 : decode cX7_when 70 = .ok (.goto (-33), 3) := dq_167 (b1 := 255) (b2 := 223) (by decide +kernel) (by decide)
theorem dX7_when_73 : decode cX7_when 73 = .ok (.ldc 220, 2) := dq_18 (b1 := 220) (by decide +kernel) (by decide)
theorem dX7_when_75 : decode cX7_when 75 = .ok (.ireturn, 1) := dq_172 (by decide +kernel)
theorem dX7_when_8 : decode cX7_when 8 = .ok (.ifCond .eq 13, 3) := dq_153 (b1 := 0) (b2 := 13) (by decide +kernel) (by decide)
theorem dX7_who_0 : decode cX7_who 0 = .ok (.aload_n 0, 1) := dq_42 (by decide +kernel)
theorem dX7_who_1 : decode cX7_who 1 = .ok (.getfield 26, 3) := dq_180 (b1 := 0) (b2 := 26) (by decide +kernel) (by decide)
theorem dX7_who_11 : decode cX7_who 11 = .ok (.iload_n 2, 1) := dq_28 (by decide +kernel)
theorem dX7_who_12 : decode cX7_who 12 = .ok (.ifCond .lt 17, 3) := dq_155 (b1 := 0) (b2 := 17) (by decide +kernel) (by decide)
theorem dX7_who_15 : decode cX7_who 15 = .ok (.iload_n 2, 1) := dq_28 (by decide +kernel)
theorem dX7_who_16 : decode cX7_who 16 = .ok (.iconst 1, 1) := dq_4 (by decide +kernel)
theorem dX7_who_17 : decode cX7_who 17 = .ok (.if_icmp .gt 12, 3) := dq_163 (b1 := 0) (b2 := 12) (by decide +kernel) (by decide)
theorem dX7_who_20 : decode cX7_who 20 = .ok (.iload_n 3, 1) := dq_29 (by decide +kernel)
theorem dX7_who_21 : decode cX7_who 21 = .ok (.iload 5, 2) := dq_21 (b1 := 5) (by decide +kernel) (by decide)
theorem dX7_who_23 : decode cX7_who 23 = .ok (.invokestatic 247, 3) := dq_184 (b1 := 0) (b2 := 247) (by decide +kernel) (by decide)
theorem dX7_who_26 : decode cX7_who 26 = .ok (.ifCond .ne 6, 3) := dq_154 (b1 := 0) (b2 := 6) (by decide +kernel) (by decide)
theorem dX7_who_29 : decode cX7_who 29 = .ok (.ldc 72, 2) := dq_18 (b1 := 72) (by decide +kernel) (by decide)
theorem dX7_who_31 : decode cX7_who 31 = .ok (.ireturn, 1) := dq_172 (by decide +kernel)
theorem dX7_who_32 : decode cX7_who 32 = .ok (.aload_n 0, 1) := dq_42 (by decide +kernel)
theorem dX7_who_33 : decode cX7_who 33 = .ok (.iload_n 1, 1) := dq_27 (by decide +kernel)
theorem dX7_who_34 : decode cX7_who 34 = .ok (.iload_n 3, 1) := dq_29 (by decide +kernel)
theorem dX7_who_35 : decode cX7_who 35 = .ok (.iload 4, 2) := dq_21 (b1 := 4) (by decide +kernel) (by decide)
theorem dX7_who_37 : decode cX7_who 37 = .ok (.iload 5, 2) := dq_21 (b1 := 5) (by decide +kernel) (by decide)
theorem dX7_who_39 : decode cX7_who 39 = .ok (.invokevirtual 251, 3) := dq_182 (b1 := 0) (b2 := 251) (by decide +kernel) (by decide)
theorem dX7_who_4 : decode cX7_who 4 = .ok (.iload_n 1, 1) := dq_27 (by decide +kernel)
theorem dX7_who_42 : decode cX7_who 42 = .ok (.istore 6, 2) := dq_54 (b1 := 6) (by decide +kernel) (by decide)
theorem dX7_who_44 : decode cX7_who 44 = .ok (.iload 6, 2) := dq_21 (b1 := 6) (by decide +kernel) (by decide)
theorem dX7_who_46 : decode cX7_who 46 = .ok (.ifCond .eq 6, 3) := dq_153 (b1 := 0) (b2 := 6) (by decide +kernel) (by decide)
theorem dX7_who_49 : decode cX7_who 49 = .ok (.iload 6, 2) := dq_21 (b1 := 6) (by decide +kernel) (by decide)
theorem dX7_who_5 : decode cX7_who 5 = .ok (.invokevirtual 173, 3) := dq_182 (b1 := 0) (b2 := 173) (by decide +kernel) (by decide)
theorem dX7_who_51 : decode cX7_who 51 = .ok (.ireturn, 1) := dq_172 (by decide +kernel)
theorem dX7_who_52 : decode cX7_who 52 = .ok (.aload_n 0, 1) := dq_42 (by decide +kernel)
theorem dX7_who_53 : decode cX7_who 53 = .ok (.iload_n 2, 1) := dq_28 (by decide +kernel)
theorem dX7_who_54 : decode cX7_who 54 = .ok (.ifCond .ne 16, 3) := dq_154 (b1 := 0) (b2 := 16) (by decide +kernel) (by decide)
theorem dX7_who_57 : decode cX7_who 57 = .ok (.aload_n 0, 1) := dq_42 (by decide +kernel)
theorem dX7_who_58 : decode cX7_who 58 = .ok (.iload_n 1, 1) := dq_27 (by decide +kernel)
theorem dX7_who_59 : decode cX7_who 59 = .ok (.iload_n 3, 1) := dq_29 (by decide +kernel)
theorem dX7_who_60 : decode cX7_who 60 = .ok (.iload 4, 2) := dq_21 (b1 := 4) (by decide +kernel) (by decide)
theorem dX7_who_62 : decode cX7_who 62 = .ok (.iload 5, 2) := dq_21 (b1 := 5) (by decide +kernel) (by decide)
theorem dX7_who_64 : decode cX7_who 64 = .ok (.invokevirtual 255, 3) := dq_182 (b1 := 0) (b2 := 255) (by decide +kernel) (by decide)
theorem dX7_who_67 : decode cX7_who 67 = .ok (.goto 13, 3) := dq_167 (b1 := 0) (b2 := 13) (by decide +kernel) (by decide)
theorem dX7_who_70 : decode cX7_who 70 = .ok (.aload_n 0, 1) := dq_42 (by decide +kernel)
theorem dX7_who_71 : decode cX7_who 71 = .ok (.iload_n 1, 1) := dq_27 (by decide +kernel)
theorem dX7_who_72 : decode cX7_who 72 = .ok (.iload_n 3, 1) := dq_29 (by decide +kernel)
theorem dX7_who_73 : decode cX7_who 73 = .ok (.iload 4, 2) := dq_21 (b1 := 4) (by decide +kernel) (by decide)
theorem dX7_who_75 : decode cX7_who 75 = .ok (.iload 5, 2) := dq_21 (b1 := 5) (by decide +kernel) (by decide)
theorem dX7_who_77 : decode cX7_who 77 = .ok (.invokevirtual 258, 3) := dq_182 (b1 := 1) (b2 := 2) (by decide +kernel) (by decide)
theorem dX7_who_8 : decode cX7_who 8 = .ok (.ifCond .eq 21, 3) := dq_153 (b1 := 0) (b2 := 21) (by decide +kernel) (by decide)
theorem dX7_who_80 : decode cX7_who 80 = .ok (.invokevirtual 81, 3) := dq_182 (b1 := 0) (b2 := 81) (by decide +kernel) (by decide)
theorem dX7_who_83 : decode cX7_who 83 = .ok (.ireturn, 1) := dq_172 (by decide +kernel)
theorem dX7_windsThatFit_0 : decode cX7_windsThatFit 0 = .ok (.iconst 0, 1) := dq_3 (by decide +kernel)
theorem dX7_windsThatFit_1 : decode cX7_windsThatFit 1 = .ok (.istore 6, 2) := dq_54 (b1 := 6) (by decide +kernel) (by decide)
theorem dX7_windsThatFit_12 : decode cX7_windsThatFit 12 = .ok (.aload_n 0, 1) := dq_42 (by decide +kernel)
theorem dX7_windsThatFit_13 : decode cX7_windsThatFit 13 = .ok (.getfield 41, 3) := dq_180 (b1 := 0) (b2 := 41) (by decide +kernel) (by decide)
theorem dX7_windsThatFit_16 : decode cX7_windsThatFit 16 = .ok (.aload_n 0, 1) := dq_42 (by decide +kernel)
theorem dX7_windsThatFit_17 : decode cX7_windsThatFit 17 = .ok (.getfield 26, 3) := dq_180 (b1 := 0) (b2 := 26) (by decide +kernel) (by decide)
theorem dX7_windsThatFit_20 : decode cX7_windsThatFit 20 = .ok (.invokevirtual 128, 3) := dq_182 (b1 := 0) (b2 := 128) (by decide +kernel) (by decide)
theorem dX7_windsThatFit_23 : decode cX7_windsThatFit 23 = .ok (.aload_n 0, 1) := dq_42 (by decide +kernel)
theorem dX7_windsThatFit_24 : decode cX7_windsThatFit 24 = .ok (.getfield 41, 3) := dq_180 (b1 := 0) (b2 := 41) (by decide +kernel) (by decide)
theorem dX7_windsThatFit_27 : decode cX7_windsThatFit 27 = .ok (.getfield 169, 3) := dq_180 (b1 := 0) (b2 := 169) (by decide +kernel) (by decide)
theorem dX7_windsThatFit_3 : decode cX7_windsThatFit 3 = .ok (.iconst 0, 1) := dq_3 (by decide +kernel)
theorem dX7_windsThatFit_30 : decode cX7_windsThatFit 30 = .ok (.iload_n 1, 1) := dq_27 (by decide +kernel)
theorem dX7_windsThatFit_31 : decode cX7_windsThatFit 31 = .ok (.iload 7, 2) := dq_21 (b1 := 7) (by decide +kernel) (by decide)
theorem dX7_windsThatFit_33 : decode cX7_windsThatFit 33 = .ok (.iastore, 1) := dq_79 (by decide +kernel)
theorem dX7_windsThatFit_34 : decode cX7_windsThatFit 34 = .ok (.iload 6, 2) := dq_21 (b1 := 6) (by decide +kernel) (by decide)
theorem dX7_windsThatFit_36 : decode cX7_windsThatFit 36 = .ok (.aload_n 0, 1) := dq_42 (by decide +kernel)
theorem dX7_windsThatFit_37 : decode cX7_windsThatFit 37 = .ok (.iload_n 2, 1) := dq_28 (by decide +kernel)
theorem dX7_windsThatFit_38 : decode cX7_windsThatFit 38 = .ok (.iload_n 3, 1) := dq_29 (by decide +kernel)
theorem dX7_windsThatFit_39 : decode cX7_windsThatFit 39 = .ok (.iload 4, 2) := dq_21 (b1 := 4) (by decide +kernel) (by decide)
theorem dX7_windsThatFit_4 : decode cX7_windsThatFit 4 = .ok (.istore 7, 2) := dq_54 (b1 := 7) (by decide +kernel) (by decide)
theorem dX7_windsThatFit_41 : decode cX7_windsThatFit 41 = .ok (.iload 5, 2) := dq_21 (b1 := 5) (by decide +kernel) (by decide)
theorem dX7_windsThatFit_43 : decode cX7_windsThatFit 43 = .ok (.invokevirtual 330, 3) := dq_182 (b1 := 1) (b2 := 74) (by decide +kernel) (by decide)
theorem dX7_windsThatFit_46 : decode cX7_windsThatFit 46 = .ok (.ifCond .eq 10, 3) := dq_153 (b1 := 0) (b2 := 10) (by decide +kernel) (by decide)
theorem dX7_windsThatFit_49 : decode cX7_windsThatFit 49 = .ok (.iconst 1, 1) := dq_4 (by decide +kernel)
theorem dX7_windsThatFit_50 : decode cX7_windsThatFit 50 = .ok (.iload 7, 2) := dq_21 (b1 := 7) (by decide +kernel) (by decide)
theorem dX7_windsThatFit_52 : decode cX7_windsThatFit 52 = .ok (.ishl, 1) := dq_120 (by decide +kernel)
theorem dX7_windsThatFit_53 : decode cX7_windsThatFit 53 = .ok (.goto 4, 3) := dq_167 (b1 := 0) (b2 := 4) (by decide +kernel) (by decide)
theorem dX7_windsThatFit_56 : decode cX7_windsThatFit 56 = .ok (.iconst 0, 1) := dq_3 (by decide +kernel)
theorem dX7_windsThatFit_57 : decode cX7_windsThatFit 57 = .ok (.ior, 1) := dq_128 (by decide +kernel)
theorem dX7_windsThatFit_58 : decode cX7_windsThatFit 58 = .ok (.istore 6, 2) := dq_54 (b1 := 6) (by decide +kernel) (by decide)
theorem dX7_windsThatFit_6 : decode cX7_windsThatFit 6 = .ok (.iload 7, 2) := dq_21 (b1 := 7) (by decide +kernel) (by decide)
theorem dX7_windsThatFit_60 : decode cX7_windsThatFit 60 = .ok (.iinc 7 1, 3) := dq_132 (b1 := 7) (b2 := 1) (by decide +kernel) (by decide) (by decide)
theorem dX7_windsThatFit_63 : decode cX7_windsThatFit 63 = .ok (.goto (-57), 3) := dq_167 (b1 := 255) (b2 := 199) (by decide +kernel) (by decide)
theorem dX7_windsThatFit_66 : decode cX7_windsThatFit 66 = .ok (.iload 6, 2) := dq_21 (b1 := 6) (by decide +kernel) (by decide)
theorem dX7_windsThatFit_68 : decode cX7_windsThatFit 68 = .ok (.ireturn, 1) := dq_172 (by decide +kernel)
theorem dX7_windsThatFit_8 : decode cX7_windsThatFit 8 = .ok (.iconst 4, 1) := dq_7 (by decide +kernel)
theorem dX7_windsThatFit_9 : decode cX7_windsThatFit 9 = .ok (.if_icmp .gt 57, 3) := dq_163 (b1 := 0) (b2 := 57) (by decide +kernel) (by decide)
theorem mx_X3_takeDraw_14 : Cond.code yX3_isLoose cX3_isLoose 2 (some .boolean) ∈ wsX3_takeDraw := by unfold wsX3_takeDraw; exact List.mem_cons_of_mem _ (List.mem_append_left _ (List.mem_of_getElem? (i := 13) rfl))
theorem mx_X3_takeDraw_15 : Cond.fieldLink RX3 24 "MillTalk$Level" "hows" "[I" ∈ wsX3_takeDraw := by unfold wsX3_takeDraw; exact List.mem_cons_of_mem _ (List.mem_append_left _ (List.mem_of_getElem? (i := 14) rfl))
theorem mb_X3_takeDraw_wsX30 {w : Cond} (h : w ∈ wsX30) : w ∈ wsX3_takeDraw := by unfold wsX3_takeDraw; exact List.mem_cons_of_mem _ (List.mem_append_right _ (h))
theorem ggX3_takeDraw_X3_isLoose : GoodIn wsX3_takeDraw wsX3_isLoose := goodIn_sub (by unfold wsX3_isLoose; exact List.forall_mem_cons.mpr ⟨mx_X3_takeDraw_14, List.forall_mem_append.mpr ⟨List.forall_mem_cons.mpr ⟨mx_X3_takeDraw_15, fun _ h_ => absurd h_ List.not_mem_nil⟩, (fun _ h_ => mb_X3_takeDraw_wsX30 h_)⟩⟩) (by decide +kernel)
theorem mx_X3_takeDraw_10 : Cond.methodLink RX3 58 yX3_isLoose ∈ wsX3_takeDraw := by unfold wsX3_takeDraw; exact List.mem_cons_of_mem _ (List.mem_append_left _ (List.mem_of_getElem? (i := 9) rfl))
theorem mx_X3_takeDraw_11 : Cond.instanceMethod yX3_isLoose ∈ wsX3_takeDraw := by unfold wsX3_takeDraw; exact List.mem_cons_of_mem _ (List.mem_append_left _ (List.mem_of_getElem? (i := 10) rfl))
theorem mx_X3_takeDraw_12 : Cond.selects RX3 yX3_isLoose yX3_isLoose ∈ wsX3_takeDraw := by unfold wsX3_takeDraw; exact List.mem_cons_of_mem _ (List.mem_append_left _ (List.mem_of_getElem? (i := 11) rfl))
theorem mx_X3_takeDraw_13 : Cond.initialized RX3 ∈ wsX3_takeDraw := by unfold wsX3_takeDraw; exact List.mem_cons_of_mem _ (List.mem_append_left _ (List.mem_of_getElem? (i := 12) rfl))
theorem gX3_takeDraw_X3_isLoose : GoodIn wsX3_takeDraw (wsV RX3 58 RX3 yX3_isLoose wsX3_isLoose) := goodIn_app (goodIn_sub (List.forall_mem_cons.mpr ⟨mx_X3_takeDraw_10, List.forall_mem_cons.mpr ⟨mx_X3_takeDraw_11, List.forall_mem_cons.mpr ⟨mx_X3_takeDraw_12, List.forall_mem_cons.mpr ⟨mx_X3_takeDraw_13, fun _ h_ => absurd h_ List.not_mem_nil⟩⟩⟩⟩) (by decide +kernel)) ggX3_takeDraw_X3_isLoose
theorem mx_X3_takeDraw_19 : Cond.code yX3_letLoose cX3_letLoose 4 none ∈ wsX3_takeDraw := by unfold wsX3_takeDraw; exact List.mem_cons_of_mem _ (List.mem_append_left _ (List.mem_of_getElem? (i := 18) rfl))
theorem mx_X3_takeDraw_20 : Cond.fieldLink RX3 18 "MillTalk$Level" "places" "[I" ∈ wsX3_takeDraw := by unfold wsX3_takeDraw; exact List.mem_cons_of_mem _ (List.mem_append_left _ (List.mem_of_getElem? (i := 19) rfl))
theorem mx_X3_takeDraw_21 : Cond.fieldLink RX3 21 "MillTalk$Level" "louds" "[I" ∈ wsX3_takeDraw := by unfold wsX3_takeDraw; exact List.mem_cons_of_mem _ (List.mem_append_left _ (List.mem_of_getElem? (i := 20) rfl))
theorem ggX3_takeDraw_X3_letLoose : GoodIn wsX3_takeDraw wsX3_letLoose := goodIn_sub (by unfold wsX3_letLoose; exact List.forall_mem_cons.mpr ⟨mx_X3_takeDraw_19, List.forall_mem_append.mpr ⟨List.forall_mem_cons.mpr ⟨mx_X3_takeDraw_20, List.forall_mem_cons.mpr ⟨mx_X3_takeDraw_21, List.forall_mem_cons.mpr ⟨mx_X3_takeDraw_15, fun _ h_ => absurd h_ List.not_mem_nil⟩⟩⟩, (fun _ h_ => mb_X3_takeDraw_wsX30 h_)⟩⟩) (by decide +kernel)
theorem mx_X3_takeDraw_16 : Cond.methodLink RX3 79 yX3_letLoose ∈ wsX3_takeDraw := by unfold wsX3_takeDraw; exact List.mem_cons_of_mem _ (List.mem_append_left _ (List.mem_of_getElem? (i := 15) rfl))
theorem mx_X3_takeDraw_17 : Cond.instanceMethod yX3_letLoose ∈ wsX3_takeDraw := by unfold wsX3_takeDraw; exact List.mem_cons_of_mem _ (List.mem_append_left _ (List.mem_of_getElem? (i := 16) rfl))
theorem mx_X3_takeDraw_18 : Cond.selects RX3 yX3_letLoose yX3_letLoose ∈ wsX3_takeDraw := by unfold wsX3_takeDraw; exact List.mem_cons_of_mem _ (List.mem_append_left _ (List.mem_of_getElem? (i := 17) rfl))
theorem gX3_takeDraw_X3_letLoose : GoodIn wsX3_takeDraw (wsV RX3 79 RX3 yX3_letLoose wsX3_letLoose) := goodIn_app (goodIn_sub (List.forall_mem_cons.mpr ⟨mx_X3_takeDraw_16, List.forall_mem_cons.mpr ⟨mx_X3_takeDraw_17, List.forall_mem_cons.mpr ⟨mx_X3_takeDraw_18, List.forall_mem_cons.mpr ⟨mx_X3_takeDraw_13, fun _ h_ => absurd h_ List.not_mem_nil⟩⟩⟩⟩) (by decide +kernel)) ggX3_takeDraw_X3_letLoose
theorem mb_X7_ahead_wsX7_ahead_r1 {w : Cond} (h : w ∈ wsX7_ahead_r1) : w ∈ wsX7_ahead := by unfold wsX7_ahead; exact List.mem_cons_of_mem _ (List.mem_append_left _ (List.mem_append_left _ (List.mem_append_left _ (h))))
theorem mx_X7_ahead_17 : Cond.code yX3_becomeLike cX3_becomeLike 2 none ∈ wsX7_ahead := mb_X7_ahead_wsX7_ahead_r1 (List.mem_of_getElem? (i := 16) rfl)
theorem mx_X7_ahead_18 : Cond.fieldLink RX3 27 "MillTalk$Level" "cells" "I" ∈ wsX7_ahead := mb_X7_ahead_wsX7_ahead_r1 (List.mem_of_getElem? (i := 17) rfl)
theorem mx_X7_ahead_19 : Cond.fieldLink RX3 31 "MillTalk$Level" "mill" "I" ∈ wsX7_ahead := mb_X7_ahead_wsX7_ahead_r1 (List.mem_of_getElem? (i := 18) rfl)
theorem mx_X7_ahead_20 : Cond.fieldLink RX3 34 "MillTalk$Level" "reach" "I" ∈ wsX7_ahead := mb_X7_ahead_wsX7_ahead_r1 (List.mem_of_getElem? (i := 19) rfl)
theorem mx_X7_ahead_21 : Cond.fieldLink RX3 37 "MillTalk$Level" "cap" "I" ∈ wsX7_ahead := mb_X7_ahead_wsX7_ahead_r1 (List.mem_of_getElem? (i := 20) rfl)
theorem mx_X7_ahead_22 : Cond.fieldLink RX3 40 "MillTalk$Level" "hour" "I" ∈ wsX7_ahead := mb_X7_ahead_wsX7_ahead_r1 (List.mem_of_getElem? (i := 21) rfl)
theorem mx_X7_ahead_23 : Cond.fieldLink RX3 43 "MillTalk$Level" "meal" "I" ∈ wsX7_ahead := mb_X7_ahead_wsX7_ahead_r1 (List.mem_of_getElem? (i := 22) rfl)
theorem mx_X7_ahead_24 : Cond.fieldLink RX3 46 "MillTalk$Level" "windCount" "I" ∈ wsX7_ahead := mb_X7_ahead_wsX7_ahead_r1 (List.mem_of_getElem? (i := 23) rfl)
theorem mx_X7_ahead_9 : Cond.fieldLink RX3 49 "MillTalk$Level" "soundCount" "I" ∈ wsX7_ahead := mb_X7_ahead_wsX7_ahead_r1 (List.mem_of_getElem? (i := 8) rfl)
theorem mb_X7_ahead_wsX7_ahead_r2 {w : Cond} (h : w ∈ wsX7_ahead_r2) : w ∈ wsX7_ahead := by unfold wsX7_ahead; exact List.mem_cons_of_mem _ (List.mem_append_left _ (List.mem_append_left _ (List.mem_append_right _ (List.mem_append_left _ (h)))))
theorem mx_X7_ahead_25 : Cond.fieldLink RX3 9 "MillTalk$Level" "winds" "[I" ∈ wsX7_ahead := mb_X7_ahead_wsX7_ahead_r2 (List.mem_of_getElem? (i := 0) rfl)
theorem mx_X7_ahead_26 : Cond.methodLink RX3 52 arraycopyName ∈ wsX7_ahead := mb_X7_ahead_wsX7_ahead_r2 (List.mem_of_getElem? (i := 1) rfl)
theorem mx_X7_ahead_27 : Cond.native arraycopyName ∈ wsX7_ahead := mb_X7_ahead_wsX7_ahead_r2 (List.mem_of_getElem? (i := 2) rfl)
theorem mx_X7_ahead_28 : Cond.static arraycopyName ∈ wsX7_ahead := mb_X7_ahead_wsX7_ahead_r2 (List.mem_of_getElem? (i := 3) rfl)
theorem mx_X7_ahead_29 : Cond.initialized "java/lang/System" ∈ wsX7_ahead := mb_X7_ahead_wsX7_ahead_r2 (List.mem_of_getElem? (i := 4) rfl)
theorem mx_X7_ahead_30 : Cond.fieldLink RX3 15 "MillTalk$Level" "kinds" "[I" ∈ wsX7_ahead := mb_X7_ahead_wsX7_ahead_r2 (List.mem_of_getElem? (i := 5) rfl)
theorem mx_X7_ahead_31 : Cond.fieldLink RX3 18 "MillTalk$Level" "places" "[I" ∈ wsX7_ahead := mb_X7_ahead_wsX7_ahead_r2 (List.mem_of_getElem? (i := 6) rfl)
theorem mx_X7_ahead_32 : Cond.fieldLink RX3 21 "MillTalk$Level" "louds" "[I" ∈ wsX7_ahead := mb_X7_ahead_wsX7_ahead_r2 (List.mem_of_getElem? (i := 7) rfl)
theorem mx_X7_ahead_33 : Cond.fieldLink RX3 24 "MillTalk$Level" "hows" "[I" ∈ wsX7_ahead := mb_X7_ahead_wsX7_ahead_r2 (List.mem_of_getElem? (i := 8) rfl)
theorem mb_X7_ahead_wsX30 {w : Cond} (h : w ∈ wsX30) : w ∈ wsX7_ahead := by unfold wsX7_ahead; exact List.mem_cons_of_mem _ (List.mem_append_right _ (h))
theorem ggX7_ahead_X3_becomeLike : GoodIn wsX7_ahead wsX3_becomeLike := goodIn_sub (by unfold wsX3_becomeLike; exact List.forall_mem_cons.mpr ⟨mx_X7_ahead_17, List.forall_mem_append.mpr ⟨List.forall_mem_cons.mpr ⟨mx_X7_ahead_18, List.forall_mem_cons.mpr ⟨mx_X7_ahead_19, List.forall_mem_cons.mpr ⟨mx_X7_ahead_20, List.forall_mem_cons.mpr ⟨mx_X7_ahead_21, List.forall_mem_cons.mpr ⟨mx_X7_ahead_22, List.forall_mem_cons.mpr ⟨mx_X7_ahead_23, List.forall_mem_cons.mpr ⟨mx_X7_ahead_24, List.forall_mem_cons.mpr ⟨mx_X7_ahead_9, List.forall_mem_cons.mpr ⟨mx_X7_ahead_25, List.forall_mem_cons.mpr ⟨mx_X7_ahead_26, List.forall_mem_cons.mpr ⟨mx_X7_ahead_27, List.forall_mem_cons.mpr ⟨mx_X7_ahead_28, List.forall_mem_cons.mpr ⟨mx_X7_ahead_29, List.forall_mem_cons.mpr ⟨mx_X7_ahead_30, List.forall_mem_cons.mpr ⟨mx_X7_ahead_31, List.forall_mem_cons.mpr ⟨mx_X7_ahead_32, List.forall_mem_cons.mpr ⟨mx_X7_ahead_33, fun _ h_ => absurd h_ List.not_mem_nil⟩⟩⟩⟩⟩⟩⟩⟩⟩⟩⟩⟩⟩⟩⟩⟩⟩, (fun _ h_ => mb_X7_ahead_wsX30 h_)⟩⟩) (by decide +kernel)
theorem mx_X7_ahead_14 : Cond.methodLink RX7 128 yX3_becomeLike ∈ wsX7_ahead := mb_X7_ahead_wsX7_ahead_r1 (List.mem_of_getElem? (i := 13) rfl)
theorem mx_X7_ahead_15 : Cond.instanceMethod yX3_becomeLike ∈ wsX7_ahead := mb_X7_ahead_wsX7_ahead_r1 (List.mem_of_getElem? (i := 14) rfl)
theorem mx_X7_ahead_16 : Cond.selects RX3 yX3_becomeLike yX3_becomeLike ∈ wsX7_ahead := mb_X7_ahead_wsX7_ahead_r1 (List.mem_of_getElem? (i := 15) rfl)
theorem mx_X7_ahead_7 : Cond.initialized RX3 ∈ wsX7_ahead := mb_X7_ahead_wsX7_ahead_r1 (List.mem_of_getElem? (i := 6) rfl)
theorem gX7_ahead_X3_becomeLike : GoodIn wsX7_ahead (wsV RX7 128 RX3 yX3_becomeLike wsX3_becomeLike) := goodIn_app (goodIn_sub (List.forall_mem_cons.mpr ⟨mx_X7_ahead_14, List.forall_mem_cons.mpr ⟨mx_X7_ahead_15, List.forall_mem_cons.mpr ⟨mx_X7_ahead_16, List.forall_mem_cons.mpr ⟨mx_X7_ahead_7, fun _ h_ => absurd h_ List.not_mem_nil⟩⟩⟩⟩) (by decide +kernel)) ggX7_ahead_X3_becomeLike
theorem mx_X7_ahead_8 : Cond.code yX3_hasSound cX3_hasSound 2 (some .boolean) ∈ wsX7_ahead := mb_X7_ahead_wsX7_ahead_r1 (List.mem_of_getElem? (i := 7) rfl)
theorem ggX7_ahead_X3_hasSound : GoodIn wsX7_ahead wsX3_hasSound := goodIn_sub (by unfold wsX3_hasSound; exact List.forall_mem_cons.mpr ⟨mx_X7_ahead_8, List.forall_mem_append.mpr ⟨List.forall_mem_cons.mpr ⟨mx_X7_ahead_9, fun _ h_ => absurd h_ List.not_mem_nil⟩, (fun _ h_ => mb_X7_ahead_wsX30 h_)⟩⟩) (by decide +kernel)
theorem mx_X7_ahead_4 : Cond.methodLink RX7 173 yX3_hasSound ∈ wsX7_ahead := mb_X7_ahead_wsX7_ahead_r1 (List.mem_of_getElem? (i := 3) rfl)
theorem mx_X7_ahead_5 : Cond.instanceMethod yX3_hasSound ∈ wsX7_ahead := mb_X7_ahead_wsX7_ahead_r1 (List.mem_of_getElem? (i := 4) rfl)
theorem mx_X7_ahead_6 : Cond.selects RX3 yX3_hasSound yX3_hasSound ∈ wsX7_ahead := mb_X7_ahead_wsX7_ahead_r1 (List.mem_of_getElem? (i := 5) rfl)
theorem gX7_ahead_X3_hasSound : GoodIn wsX7_ahead (wsV RX7 173 RX3 yX3_hasSound wsX3_hasSound) := goodIn_app (goodIn_sub (List.forall_mem_cons.mpr ⟨mx_X7_ahead_4, List.forall_mem_cons.mpr ⟨mx_X7_ahead_5, List.forall_mem_cons.mpr ⟨mx_X7_ahead_6, List.forall_mem_cons.mpr ⟨mx_X7_ahead_7, fun _ h_ => absurd h_ List.not_mem_nil⟩⟩⟩⟩) (by decide +kernel)) ggX7_ahead_X3_hasSound
theorem mx_X7_ahead_37 : Cond.code yX3_passOnly cX3_passOnly 4 none ∈ wsX7_ahead := mb_X7_ahead_wsX7_ahead_r2 (List.mem_of_getElem? (i := 12) rfl)
theorem mx_X7_ahead_38 : Cond.methodLink RX3 87 yX3_windOn ∈ wsX7_ahead := mb_X7_ahead_wsX7_ahead_r2 (List.mem_of_getElem? (i := 13) rfl)
theorem mx_X7_ahead_39 : Cond.instanceMethod yX3_windOn ∈ wsX7_ahead := mb_X7_ahead_wsX7_ahead_r2 (List.mem_of_getElem? (i := 14) rfl)
theorem mx_X7_ahead_40 : Cond.selects RX3 yX3_windOn yX3_windOn ∈ wsX7_ahead := mb_X7_ahead_wsX7_ahead_r2 (List.mem_of_getElem? (i := 15) rfl)
theorem mx_X7_ahead_41 : Cond.code yX3_windOn cX3_windOn 2 (some .int) ∈ wsX7_ahead := mb_X7_ahead_wsX7_ahead_r2 (List.mem_of_getElem? (i := 16) rfl)
theorem mx_X7_ahead_42 : Cond.methodLink RX3 90 yX3_passSound ∈ wsX7_ahead := mb_X7_ahead_wsX7_ahead_r2 (List.mem_of_getElem? (i := 17) rfl)
theorem mx_X7_ahead_43 : Cond.instanceMethod yX3_passSound ∈ wsX7_ahead := mb_X7_ahead_wsX7_ahead_r2 (List.mem_of_getElem? (i := 18) rfl)
theorem mx_X7_ahead_44 : Cond.selects RX3 yX3_passSound yX3_passSound ∈ wsX7_ahead := mb_X7_ahead_wsX7_ahead_r2 (List.mem_of_getElem? (i := 19) rfl)
theorem mx_X7_ahead_45 : Cond.code yX3_passSound cX3_passSound 5 none ∈ wsX7_ahead := mb_X7_ahead_wsX7_ahead_r2 (List.mem_of_getElem? (i := 20) rfl)
theorem mx_X7_ahead_46 : Cond.methodLink RX3 63 Lib.Math.min.name ∈ wsX7_ahead := mb_X7_ahead_wsX7_ahead_r2 (List.mem_of_getElem? (i := 21) rfl)
theorem mx_X7_ahead_47 : Cond.static Lib.Math.min.name ∈ wsX7_ahead := mb_X7_ahead_wsX7_ahead_r2 (List.mem_of_getElem? (i := 22) rfl)
theorem mx_X7_ahead_48 : Cond.initialized "java/lang/Math" ∈ wsX7_ahead := mb_X7_ahead_wsX7_ahead_r2 (List.mem_of_getElem? (i := 23) rfl)
theorem mb_X7_ahead_wsX7_ahead_r3 {w : Cond} (h : w ∈ wsX7_ahead_r3) : w ∈ wsX7_ahead := by unfold wsX7_ahead; exact List.mem_cons_of_mem _ (List.mem_append_left _ (List.mem_append_left _ (List.mem_append_right _ (List.mem_append_right _ (List.mem_append_left _ (h))))))
theorem mx_X7_ahead_49 : Cond.code Lib.Math.min.name Lib.Math.min.code 2 (some .int) ∈ wsX7_ahead := mb_X7_ahead_wsX7_ahead_r3 (List.mem_of_getElem? (i := 0) rfl)
theorem mx_X7_ahead_50 : Cond.methodLink RX3 58 yX3_isLoose ∈ wsX7_ahead := mb_X7_ahead_wsX7_ahead_r3 (List.mem_of_getElem? (i := 1) rfl)
theorem mx_X7_ahead_51 : Cond.instanceMethod yX3_isLoose ∈ wsX7_ahead := mb_X7_ahead_wsX7_ahead_r3 (List.mem_of_getElem? (i := 2) rfl)
theorem mx_X7_ahead_52 : Cond.selects RX3 yX3_isLoose yX3_isLoose ∈ wsX7_ahead := mb_X7_ahead_wsX7_ahead_r3 (List.mem_of_getElem? (i := 3) rfl)
theorem mx_X7_ahead_53 : Cond.code yX3_isLoose cX3_isLoose 2 (some .boolean) ∈ wsX7_ahead := mb_X7_ahead_wsX7_ahead_r3 (List.mem_of_getElem? (i := 4) rfl)
theorem mx_X7_ahead_54 : Cond.methodLink RX3 69 yX3_driftOf ∈ wsX7_ahead := mb_X7_ahead_wsX7_ahead_r3 (List.mem_of_getElem? (i := 5) rfl)
theorem mx_X7_ahead_55 : Cond.instanceMethod yX3_driftOf ∈ wsX7_ahead := mb_X7_ahead_wsX7_ahead_r3 (List.mem_of_getElem? (i := 6) rfl)
theorem mx_X7_ahead_56 : Cond.selects RX3 yX3_driftOf yX3_driftOf ∈ wsX7_ahead := mb_X7_ahead_wsX7_ahead_r3 (List.mem_of_getElem? (i := 7) rfl)
theorem mx_X7_ahead_57 : Cond.code yX3_driftOf cX3_driftOf 4 (some .int) ∈ wsX7_ahead := mb_X7_ahead_wsX7_ahead_r3 (List.mem_of_getElem? (i := 8) rfl)
theorem mx_X7_ahead_58 : Cond.methodLink RX3 72 yX3_loudBehindHour ∈ wsX7_ahead := mb_X7_ahead_wsX7_ahead_r3 (List.mem_of_getElem? (i := 9) rfl)
theorem mx_X7_ahead_59 : Cond.instanceMethod yX3_loudBehindHour ∈ wsX7_ahead := mb_X7_ahead_wsX7_ahead_r3 (List.mem_of_getElem? (i := 10) rfl)
theorem mx_X7_ahead_60 : Cond.selects RX3 yX3_loudBehindHour yX3_loudBehindHour ∈ wsX7_ahead := mb_X7_ahead_wsX7_ahead_r3 (List.mem_of_getElem? (i := 11) rfl)
theorem mx_X7_ahead_61 : Cond.code yX3_loudBehindHour cX3_loudBehindHour 2 (some .int) ∈ wsX7_ahead := mb_X7_ahead_wsX7_ahead_r3 (List.mem_of_getElem? (i := 12) rfl)
theorem mx_X7_ahead_62 : Cond.methodLink RX3 76 yX3_hasCell ∈ wsX7_ahead := mb_X7_ahead_wsX7_ahead_r3 (List.mem_of_getElem? (i := 13) rfl)
theorem mx_X7_ahead_63 : Cond.instanceMethod yX3_hasCell ∈ wsX7_ahead := mb_X7_ahead_wsX7_ahead_r3 (List.mem_of_getElem? (i := 14) rfl)
theorem mx_X7_ahead_64 : Cond.selects RX3 yX3_hasCell yX3_hasCell ∈ wsX7_ahead := mb_X7_ahead_wsX7_ahead_r3 (List.mem_of_getElem? (i := 15) rfl)
theorem mx_X7_ahead_65 : Cond.code yX3_hasCell cX3_hasCell 2 (some .boolean) ∈ wsX7_ahead := mb_X7_ahead_wsX7_ahead_r3 (List.mem_of_getElem? (i := 16) rfl)
theorem mx_X7_ahead_66 : Cond.methodLink RX3 79 yX3_letLoose ∈ wsX7_ahead := mb_X7_ahead_wsX7_ahead_r3 (List.mem_of_getElem? (i := 17) rfl)
theorem mx_X7_ahead_67 : Cond.instanceMethod yX3_letLoose ∈ wsX7_ahead := mb_X7_ahead_wsX7_ahead_r3 (List.mem_of_getElem? (i := 18) rfl)
theorem mx_X7_ahead_68 : Cond.selects RX3 yX3_letLoose yX3_letLoose ∈ wsX7_ahead := mb_X7_ahead_wsX7_ahead_r3 (List.mem_of_getElem? (i := 19) rfl)
theorem mx_X7_ahead_69 : Cond.code yX3_letLoose cX3_letLoose 4 none ∈ wsX7_ahead := mb_X7_ahead_wsX7_ahead_r3 (List.mem_of_getElem? (i := 20) rfl)
theorem mx_X7_ahead_70 : Cond.methodLink RX3 83 yX3_grindsAt ∈ wsX7_ahead := mb_X7_ahead_wsX7_ahead_r3 (List.mem_of_getElem? (i := 21) rfl)
theorem mx_X7_ahead_71 : Cond.instanceMethod yX3_grindsAt ∈ wsX7_ahead := mb_X7_ahead_wsX7_ahead_r3 (List.mem_of_getElem? (i := 22) rfl)
theorem mx_X7_ahead_72 : Cond.selects RX3 yX3_grindsAt yX3_grindsAt ∈ wsX7_ahead := mb_X7_ahead_wsX7_ahead_r3 (List.mem_of_getElem? (i := 23) rfl)
theorem mb_X7_ahead_wsX7_ahead_r4 {w : Cond} (h : w ∈ wsX7_ahead_r4) : w ∈ wsX7_ahead := by unfold wsX7_ahead; exact List.mem_cons_of_mem _ (List.mem_append_left _ (List.mem_append_left _ (List.mem_append_right _ (List.mem_append_right _ (List.mem_append_right _ (h))))))
theorem mx_X7_ahead_73 : Cond.code yX3_grindsAt cX3_grindsAt 4 (some .boolean) ∈ wsX7_ahead := mb_X7_ahead_wsX7_ahead_r4 (List.mem_of_getElem? (i := 0) rfl)
theorem ggX7_ahead_X3_passOnly : GoodIn wsX7_ahead wsX3_passOnly := goodIn_sub (by unfold wsX3_passOnly; exact List.forall_mem_cons.mpr ⟨mx_X7_ahead_37, List.forall_mem_append.mpr ⟨List.forall_mem_append.mpr ⟨(by unfold wsX3_passOnly_r1; exact List.forall_mem_cons.mpr ⟨mx_X7_ahead_22, List.forall_mem_cons.mpr ⟨mx_X7_ahead_38, List.forall_mem_cons.mpr ⟨mx_X7_ahead_39, List.forall_mem_cons.mpr ⟨mx_X7_ahead_40, List.forall_mem_cons.mpr ⟨mx_X7_ahead_7, List.forall_mem_cons.mpr ⟨mx_X7_ahead_41, List.forall_mem_cons.mpr ⟨mx_X7_ahead_24, List.forall_mem_cons.mpr ⟨mx_X7_ahead_25, List.forall_mem_cons.mpr ⟨mx_X7_ahead_42, List.forall_mem_cons.mpr ⟨mx_X7_ahead_43, List.forall_mem_cons.mpr ⟨mx_X7_ahead_44, List.forall_mem_cons.mpr ⟨mx_X7_ahead_45, List.forall_mem_cons.mpr ⟨mx_X7_ahead_31, List.forall_mem_cons.mpr ⟨mx_X7_ahead_33, List.forall_mem_cons.mpr ⟨mx_X7_ahead_23, List.forall_mem_cons.mpr ⟨mx_X7_ahead_46, List.forall_mem_cons.mpr ⟨mx_X7_ahead_47, List.forall_mem_cons.mpr ⟨mx_X7_ahead_48, List.forall_mem_cons.mpr ⟨mx_X7_ahead_49, List.forall_mem_cons.mpr ⟨mx_X7_ahead_50, List.forall_mem_cons.mpr ⟨mx_X7_ahead_51, List.forall_mem_cons.mpr ⟨mx_X7_ahead_52, List.forall_mem_cons.mpr ⟨mx_X7_ahead_53, List.forall_mem_cons.mpr ⟨mx_X7_ahead_54, fun _ h_ => absurd h_ List.not_mem_nil⟩⟩⟩⟩⟩⟩⟩⟩⟩⟩⟩⟩⟩⟩⟩⟩⟩⟩⟩⟩⟩⟩⟩⟩), List.forall_mem_append.mpr ⟨(by unfold wsX3_passOnly_r2; exact List.forall_mem_cons.mpr ⟨mx_X7_ahead_55, List.forall_mem_cons.mpr ⟨mx_X7_ahead_56, List.forall_mem_cons.mpr ⟨mx_X7_ahead_57, List.forall_mem_cons.mpr ⟨mx_X7_ahead_30, List.forall_mem_cons.mpr ⟨mx_X7_ahead_58, List.forall_mem_cons.mpr ⟨mx_X7_ahead_59, List.forall_mem_cons.mpr ⟨mx_X7_ahead_60, List.forall_mem_cons.mpr ⟨mx_X7_ahead_61, List.forall_mem_cons.mpr ⟨mx_X7_ahead_32, List.forall_mem_cons.mpr ⟨mx_X7_ahead_62, List.forall_mem_cons.mpr ⟨mx_X7_ahead_63, List.forall_mem_cons.mpr ⟨mx_X7_ahead_64, List.forall_mem_cons.mpr ⟨mx_X7_ahead_65, List.forall_mem_cons.mpr ⟨mx_X7_ahead_18, List.forall_mem_cons.mpr ⟨mx_X7_ahead_66, List.forall_mem_cons.mpr ⟨mx_X7_ahead_67, List.forall_mem_cons.mpr ⟨mx_X7_ahead_68, List.forall_mem_cons.mpr ⟨mx_X7_ahead_69, List.forall_mem_cons.mpr ⟨mx_X7_ahead_70, List.forall_mem_cons.mpr ⟨mx_X7_ahead_71, List.forall_mem_cons.mpr ⟨mx_X7_ahead_72, List.forall_mem_cons.mpr ⟨mx_X7_ahead_73, List.forall_mem_cons.mpr ⟨mx_X7_ahead_21, List.forall_mem_cons.mpr ⟨mx_X7_ahead_19, fun _ h_ => absurd h_ List.not_mem_nil⟩⟩⟩⟩⟩⟩⟩⟩⟩⟩⟩⟩⟩⟩⟩⟩⟩⟩⟩⟩⟩⟩⟩⟩), (by unfold wsX3_passOnly_r3; exact List.forall_mem_cons.mpr ⟨mx_X7_ahead_20, fun _ h_ => absurd h_ List.not_mem_nil⟩)⟩⟩, (fun _ h_ => mb_X7_ahead_wsX30 h_)⟩⟩) (by decide +kernel)
theorem mx_X7_ahead_34 : Cond.methodLink RX7 210 yX3_passOnly ∈ wsX7_ahead := mb_X7_ahead_wsX7_ahead_r2 (List.mem_of_getElem? (i := 9) rfl)
theorem mx_X7_ahead_35 : Cond.instanceMethod yX3_passOnly ∈ wsX7_ahead := mb_X7_ahead_wsX7_ahead_r2 (List.mem_of_getElem? (i := 10) rfl)
theorem mx_X7_ahead_36 : Cond.selects RX3 yX3_passOnly yX3_passOnly ∈ wsX7_ahead := mb_X7_ahead_wsX7_ahead_r2 (List.mem_of_getElem? (i := 11) rfl)
theorem gX7_ahead_X3_passOnly : GoodIn wsX7_ahead (wsV RX7 210 RX3 yX3_passOnly wsX3_passOnly) := goodIn_app (goodIn_sub (List.forall_mem_cons.mpr ⟨mx_X7_ahead_34, List.forall_mem_cons.mpr ⟨mx_X7_ahead_35, List.forall_mem_cons.mpr ⟨mx_X7_ahead_36, List.forall_mem_cons.mpr ⟨mx_X7_ahead_7, fun _ h_ => absurd h_ List.not_mem_nil⟩⟩⟩⟩) (by decide +kernel)) ggX7_ahead_X3_passOnly
theorem mx_X7_ahead_77 : Cond.code yX3_tellOf cX3_tellOf 3 (some .int) ∈ wsX7_ahead := mb_X7_ahead_wsX7_ahead_r4 (List.mem_of_getElem? (i := 4) rfl)
theorem mx_X7_ahead_78 : Cond.constant RX3 62 (-1000000) ∈ wsX7_ahead := mb_X7_ahead_wsX7_ahead_r4 (List.mem_of_getElem? (i := 5) rfl)
theorem ggX7_ahead_X3_tellOf : GoodIn wsX7_ahead wsX3_tellOf := goodIn_sub (by unfold wsX3_tellOf; exact List.forall_mem_cons.mpr ⟨mx_X7_ahead_77, List.forall_mem_append.mpr ⟨List.forall_mem_cons.mpr ⟨mx_X7_ahead_31, List.forall_mem_cons.mpr ⟨mx_X7_ahead_78, List.forall_mem_cons.mpr ⟨mx_X7_ahead_33, List.forall_mem_cons.mpr ⟨mx_X7_ahead_32, List.forall_mem_cons.mpr ⟨mx_X7_ahead_50, List.forall_mem_cons.mpr ⟨mx_X7_ahead_51, List.forall_mem_cons.mpr ⟨mx_X7_ahead_52, List.forall_mem_cons.mpr ⟨mx_X7_ahead_7, List.forall_mem_cons.mpr ⟨mx_X7_ahead_53, fun _ h_ => absurd h_ List.not_mem_nil⟩⟩⟩⟩⟩⟩⟩⟩⟩, (fun _ h_ => mb_X7_ahead_wsX30 h_)⟩⟩) (by decide +kernel)
theorem mx_X7_ahead_74 : Cond.methodLink RX7 195 yX3_tellOf ∈ wsX7_ahead := mb_X7_ahead_wsX7_ahead_r4 (List.mem_of_getElem? (i := 1) rfl)
theorem mx_X7_ahead_75 : Cond.instanceMethod yX3_tellOf ∈ wsX7_ahead := mb_X7_ahead_wsX7_ahead_r4 (List.mem_of_getElem? (i := 2) rfl)
theorem mx_X7_ahead_76 : Cond.selects RX3 yX3_tellOf yX3_tellOf ∈ wsX7_ahead := mb_X7_ahead_wsX7_ahead_r4 (List.mem_of_getElem? (i := 3) rfl)
theorem gX7_ahead_X3_tellOf : GoodIn wsX7_ahead (wsV RX7 195 RX3 yX3_tellOf wsX3_tellOf) := goodIn_app (goodIn_sub (List.forall_mem_cons.mpr ⟨mx_X7_ahead_74, List.forall_mem_cons.mpr ⟨mx_X7_ahead_75, List.forall_mem_cons.mpr ⟨mx_X7_ahead_76, List.forall_mem_cons.mpr ⟨mx_X7_ahead_7, fun _ h_ => absurd h_ List.not_mem_nil⟩⟩⟩⟩) (by decide +kernel)) ggX7_ahead_X3_tellOf
theorem mx_X7_ahead_13 : Cond.code yX7_isForetold cX7_isForetold 1 (some .boolean) ∈ wsX7_ahead := mb_X7_ahead_wsX7_ahead_r1 (List.mem_of_getElem? (i := 12) rfl)
theorem ggX7_ahead_X7_isForetold : GoodIn wsX7_ahead wsX7_isForetold := goodIn_sub (by unfold wsX7_isForetold; exact List.forall_mem_cons.mpr ⟨mx_X7_ahead_13, fun _ h_ => absurd h_ List.not_mem_nil⟩) (by decide +kernel)
set_option maxRecDepth 20000 in
theorem gX7_ahead_X7_isForetold : GoodIn wsX7_ahead (va_wsS RX7 207 yX7_isForetold wsX7_isForetold) := goodIn_app (goodIn_of _ (by decide +kernel)) ggX7_ahead_X7_isForetold
theorem mb_X7_calm_wsX7_calm_r1 {w : Cond} (h : w ∈ wsX7_calm_r1) : w ∈ wsX7_calm := by unfold wsX7_calm; exact List.mem_cons_of_mem _ (List.mem_append_left _ (List.mem_append_left _ (List.mem_append_left _ (h))))
theorem mx_X7_calm_12 : Cond.code yX3_hasSound cX3_hasSound 2 (some .boolean) ∈ wsX7_calm := mb_X7_calm_wsX7_calm_r1 (List.mem_of_getElem? (i := 11) rfl)
theorem mx_X7_calm_13 : Cond.fieldLink RX3 49 "MillTalk$Level" "soundCount" "I" ∈ wsX7_calm := mb_X7_calm_wsX7_calm_r1 (List.mem_of_getElem? (i := 12) rfl)
theorem mb_X7_calm_wsX30 {w : Cond} (h : w ∈ wsX30) : w ∈ wsX7_calm := by unfold wsX7_calm; exact List.mem_cons_of_mem _ (List.mem_append_right _ (h))
theorem ggX7_calm_X3_hasSound : GoodIn wsX7_calm wsX3_hasSound := goodIn_sub (by unfold wsX3_hasSound; exact List.forall_mem_cons.mpr ⟨mx_X7_calm_12, List.forall_mem_append.mpr ⟨List.forall_mem_cons.mpr ⟨mx_X7_calm_13, fun _ h_ => absurd h_ List.not_mem_nil⟩, (fun _ h_ => mb_X7_calm_wsX30 h_)⟩⟩) (by decide +kernel)
theorem mx_X7_calm_8 : Cond.methodLink RX7 173 yX3_hasSound ∈ wsX7_calm := mb_X7_calm_wsX7_calm_r1 (List.mem_of_getElem? (i := 7) rfl)
theorem mx_X7_calm_9 : Cond.instanceMethod yX3_hasSound ∈ wsX7_calm := mb_X7_calm_wsX7_calm_r1 (List.mem_of_getElem? (i := 8) rfl)
theorem mx_X7_calm_10 : Cond.selects RX3 yX3_hasSound yX3_hasSound ∈ wsX7_calm := mb_X7_calm_wsX7_calm_r1 (List.mem_of_getElem? (i := 9) rfl)
theorem mx_X7_calm_11 : Cond.initialized RX3 ∈ wsX7_calm := mb_X7_calm_wsX7_calm_r1 (List.mem_of_getElem? (i := 10) rfl)
theorem gX7_calm_X3_hasSound : GoodIn wsX7_calm (wsV RX7 173 RX3 yX3_hasSound wsX3_hasSound) := goodIn_app (goodIn_sub (List.forall_mem_cons.mpr ⟨mx_X7_calm_8, List.forall_mem_cons.mpr ⟨mx_X7_calm_9, List.forall_mem_cons.mpr ⟨mx_X7_calm_10, List.forall_mem_cons.mpr ⟨mx_X7_calm_11, fun _ h_ => absurd h_ List.not_mem_nil⟩⟩⟩⟩) (by decide +kernel)) ggX7_calm_X3_hasSound
theorem mx_X7_calm_21 : Cond.code yX7_casesOf cX7_casesOf 5 (some .int) ∈ wsX7_calm := mb_X7_calm_wsX7_calm_r1 (List.mem_of_getElem? (i := 20) rfl)
theorem mx_X7_calm_1 : Cond.fieldLink RX7 26 "MillTalk" "now" "LMillTalk$Level;" ∈ wsX7_calm := mb_X7_calm_wsX7_calm_r1 (List.mem_of_getElem? (i := 0) rfl)
theorem mx_X7_calm_3 : Cond.fieldLink RX7 269 "MillTalk$Level" "windCount" "I" ∈ wsX7_calm := mb_X7_calm_wsX7_calm_r1 (List.mem_of_getElem? (i := 2) rfl)
theorem mb_X7_calm_wsX70 {w : Cond} (h : w ∈ wsX70) : w ∈ wsX7_calm := by unfold wsX7_calm; exact List.mem_cons_of_mem _ (List.mem_append_left _ (List.mem_append_right _ (h)))
theorem ggX7_calm_X7_casesOf : GoodIn wsX7_calm wsX7_casesOf := goodIn_sub (by unfold wsX7_casesOf; exact List.forall_mem_cons.mpr ⟨mx_X7_calm_21, List.forall_mem_append.mpr ⟨List.forall_mem_append.mpr ⟨List.forall_mem_cons.mpr ⟨mx_X7_calm_1, List.forall_mem_cons.mpr ⟨mx_X7_calm_3, fun _ h_ => absurd h_ List.not_mem_nil⟩⟩, (fun _ h_ => mb_X7_calm_wsX70 h_)⟩, (fun _ h_ => mb_X7_calm_wsX30 h_)⟩⟩) (by decide +kernel)
theorem mx_X7_calm_18 : Cond.methodLink RX7 272 yX7_casesOf ∈ wsX7_calm := mb_X7_calm_wsX7_calm_r1 (List.mem_of_getElem? (i := 17) rfl)
theorem mx_X7_calm_19 : Cond.instanceMethod yX7_casesOf ∈ wsX7_calm := mb_X7_calm_wsX7_calm_r1 (List.mem_of_getElem? (i := 18) rfl)
theorem mx_X7_calm_20 : Cond.selects RX7 yX7_casesOf yX7_casesOf ∈ wsX7_calm := mb_X7_calm_wsX7_calm_r1 (List.mem_of_getElem? (i := 19) rfl)
theorem mx_X7_calm_16 : Cond.initialized RX7 ∈ wsX7_calm := mb_X7_calm_wsX7_calm_r1 (List.mem_of_getElem? (i := 15) rfl)
theorem gX7_calm_X7_casesOf : GoodIn wsX7_calm (wsV RX7 272 RX7 yX7_casesOf wsX7_casesOf) := goodIn_app (goodIn_sub (List.forall_mem_cons.mpr ⟨mx_X7_calm_18, List.forall_mem_cons.mpr ⟨mx_X7_calm_19, List.forall_mem_cons.mpr ⟨mx_X7_calm_20, List.forall_mem_cons.mpr ⟨mx_X7_calm_16, fun _ h_ => absurd h_ List.not_mem_nil⟩⟩⟩⟩) (by decide +kernel)) ggX7_calm_X7_casesOf
theorem mb_X7_calm_wsX7_calm_r4 {w : Cond} (h : w ∈ wsX7_calm_r4) : w ∈ wsX7_calm := by unfold wsX7_calm; exact List.mem_cons_of_mem _ (List.mem_append_left _ (List.mem_append_left _ (List.mem_append_right _ (List.mem_append_right _ (List.mem_append_right _ (h))))))
theorem mx_X7_calm_90 : Cond.code yX7_commonDivisor cX7_commonDivisor 6 (some .int) ∈ wsX7_calm := mb_X7_calm_wsX7_calm_r4 (List.mem_of_getElem? (i := 17) rfl)
theorem ggX7_calm_X7_commonDivisor : GoodIn wsX7_calm wsX7_commonDivisor := goodIn_sub (by unfold wsX7_commonDivisor; exact List.forall_mem_cons.mpr ⟨mx_X7_calm_90, fun _ h_ => absurd h_ List.not_mem_nil⟩) (by decide +kernel)
set_option maxRecDepth 20000 in
theorem gX7_calm_X7_commonDivisor : GoodIn wsX7_calm (va_wsS RX7 279 yX7_commonDivisor wsX7_commonDivisor) := goodIn_app (goodIn_of _ (by decide +kernel)) ggX7_calm_X7_commonDivisor
theorem mx_X7_calm_17 : Cond.code yX7_isForetold cX7_isForetold 1 (some .boolean) ∈ wsX7_calm := mb_X7_calm_wsX7_calm_r1 (List.mem_of_getElem? (i := 16) rfl)
theorem ggX7_calm_X7_isForetold : GoodIn wsX7_calm wsX7_isForetold := goodIn_sub (by unfold wsX7_isForetold; exact List.forall_mem_cons.mpr ⟨mx_X7_calm_17, fun _ h_ => absurd h_ List.not_mem_nil⟩) (by decide +kernel)
set_option maxRecDepth 20000 in
theorem gX7_calm_X7_isForetold : GoodIn wsX7_calm (va_wsS RX7 207 yX7_isForetold wsX7_isForetold) := goodIn_app (goodIn_of _ (by decide +kernel)) ggX7_calm_X7_isForetold
theorem mb_X7_calm_wsX7_calm_r2 {w : Cond} (h : w ∈ wsX7_calm_r2) : w ∈ wsX7_calm := by unfold wsX7_calm; exact List.mem_cons_of_mem _ (List.mem_append_left _ (List.mem_append_left _ (List.mem_append_right _ (List.mem_append_left _ (h)))))
theorem mx_X7_calm_25 : Cond.code yX7_isGroundIfDropped cX7_isGroundIfDropped 5 (some .boolean) ∈ wsX7_calm := mb_X7_calm_wsX7_calm_r2 (List.mem_of_getElem? (i := 0) rfl)
theorem mx_X7_calm_26 : Cond.fieldLink RX7 41 "MillTalk" "trial" "LMillTalk$Level;" ∈ wsX7_calm := mb_X7_calm_wsX7_calm_r2 (List.mem_of_getElem? (i := 1) rfl)
theorem mx_X7_calm_27 : Cond.fieldLink RX7 169 "MillTalk$Level" "winds" "[I" ∈ wsX7_calm := mb_X7_calm_wsX7_calm_r2 (List.mem_of_getElem? (i := 2) rfl)
theorem mx_X7_calm_28 : Cond.fieldLink RX7 217 "MillTalk$Level" "hows" "[I" ∈ wsX7_calm := mb_X7_calm_wsX7_calm_r2 (List.mem_of_getElem? (i := 3) rfl)
theorem mx_X7_calm_29 : Cond.methodLink RX7 128 yX3_becomeLike ∈ wsX7_calm := mb_X7_calm_wsX7_calm_r2 (List.mem_of_getElem? (i := 4) rfl)
theorem mx_X7_calm_30 : Cond.instanceMethod yX3_becomeLike ∈ wsX7_calm := mb_X7_calm_wsX7_calm_r2 (List.mem_of_getElem? (i := 5) rfl)
theorem mx_X7_calm_31 : Cond.selects RX3 yX3_becomeLike yX3_becomeLike ∈ wsX7_calm := mb_X7_calm_wsX7_calm_r2 (List.mem_of_getElem? (i := 6) rfl)
theorem mx_X7_calm_32 : Cond.code yX3_becomeLike cX3_becomeLike 2 none ∈ wsX7_calm := mb_X7_calm_wsX7_calm_r2 (List.mem_of_getElem? (i := 7) rfl)
theorem mx_X7_calm_33 : Cond.fieldLink RX3 27 "MillTalk$Level" "cells" "I" ∈ wsX7_calm := mb_X7_calm_wsX7_calm_r2 (List.mem_of_getElem? (i := 8) rfl)
theorem mx_X7_calm_34 : Cond.fieldLink RX3 31 "MillTalk$Level" "mill" "I" ∈ wsX7_calm := mb_X7_calm_wsX7_calm_r2 (List.mem_of_getElem? (i := 9) rfl)
theorem mx_X7_calm_35 : Cond.fieldLink RX3 34 "MillTalk$Level" "reach" "I" ∈ wsX7_calm := mb_X7_calm_wsX7_calm_r2 (List.mem_of_getElem? (i := 10) rfl)
theorem mx_X7_calm_36 : Cond.fieldLink RX3 37 "MillTalk$Level" "cap" "I" ∈ wsX7_calm := mb_X7_calm_wsX7_calm_r2 (List.mem_of_getElem? (i := 11) rfl)
theorem mx_X7_calm_37 : Cond.fieldLink RX3 40 "MillTalk$Level" "hour" "I" ∈ wsX7_calm := mb_X7_calm_wsX7_calm_r2 (List.mem_of_getElem? (i := 12) rfl)
theorem mx_X7_calm_38 : Cond.fieldLink RX3 43 "MillTalk$Level" "meal" "I" ∈ wsX7_calm := mb_X7_calm_wsX7_calm_r2 (List.mem_of_getElem? (i := 13) rfl)
theorem mx_X7_calm_39 : Cond.fieldLink RX3 46 "MillTalk$Level" "windCount" "I" ∈ wsX7_calm := mb_X7_calm_wsX7_calm_r2 (List.mem_of_getElem? (i := 14) rfl)
theorem mx_X7_calm_40 : Cond.fieldLink RX3 9 "MillTalk$Level" "winds" "[I" ∈ wsX7_calm := mb_X7_calm_wsX7_calm_r2 (List.mem_of_getElem? (i := 15) rfl)
theorem mx_X7_calm_41 : Cond.methodLink RX3 52 arraycopyName ∈ wsX7_calm := mb_X7_calm_wsX7_calm_r2 (List.mem_of_getElem? (i := 16) rfl)
theorem mx_X7_calm_42 : Cond.native arraycopyName ∈ wsX7_calm := mb_X7_calm_wsX7_calm_r2 (List.mem_of_getElem? (i := 17) rfl)
theorem mx_X7_calm_43 : Cond.static arraycopyName ∈ wsX7_calm := mb_X7_calm_wsX7_calm_r2 (List.mem_of_getElem? (i := 18) rfl)
theorem mx_X7_calm_44 : Cond.initialized "java/lang/System" ∈ wsX7_calm := mb_X7_calm_wsX7_calm_r2 (List.mem_of_getElem? (i := 19) rfl)
theorem mx_X7_calm_45 : Cond.fieldLink RX3 15 "MillTalk$Level" "kinds" "[I" ∈ wsX7_calm := mb_X7_calm_wsX7_calm_r2 (List.mem_of_getElem? (i := 20) rfl)
theorem mx_X7_calm_46 : Cond.fieldLink RX3 18 "MillTalk$Level" "places" "[I" ∈ wsX7_calm := mb_X7_calm_wsX7_calm_r2 (List.mem_of_getElem? (i := 21) rfl)
theorem mx_X7_calm_47 : Cond.fieldLink RX3 21 "MillTalk$Level" "louds" "[I" ∈ wsX7_calm := mb_X7_calm_wsX7_calm_r2 (List.mem_of_getElem? (i := 22) rfl)
theorem mx_X7_calm_48 : Cond.fieldLink RX3 24 "MillTalk$Level" "hows" "[I" ∈ wsX7_calm := mb_X7_calm_wsX7_calm_r2 (List.mem_of_getElem? (i := 23) rfl)
theorem mb_X7_calm_wsX7_calm_r3 {w : Cond} (h : w ∈ wsX7_calm_r3) : w ∈ wsX7_calm := by unfold wsX7_calm; exact List.mem_cons_of_mem _ (List.mem_append_left _ (List.mem_append_left _ (List.mem_append_right _ (List.mem_append_right _ (List.mem_append_left _ (h))))))
theorem mx_X7_calm_49 : Cond.methodLink RX7 210 yX3_passOnly ∈ wsX7_calm := mb_X7_calm_wsX7_calm_r3 (List.mem_of_getElem? (i := 0) rfl)
theorem mx_X7_calm_50 : Cond.instanceMethod yX3_passOnly ∈ wsX7_calm := mb_X7_calm_wsX7_calm_r3 (List.mem_of_getElem? (i := 1) rfl)
theorem mx_X7_calm_51 : Cond.selects RX3 yX3_passOnly yX3_passOnly ∈ wsX7_calm := mb_X7_calm_wsX7_calm_r3 (List.mem_of_getElem? (i := 2) rfl)
theorem mx_X7_calm_52 : Cond.code yX3_passOnly cX3_passOnly 4 none ∈ wsX7_calm := mb_X7_calm_wsX7_calm_r3 (List.mem_of_getElem? (i := 3) rfl)
theorem mx_X7_calm_53 : Cond.methodLink RX3 87 yX3_windOn ∈ wsX7_calm := mb_X7_calm_wsX7_calm_r3 (List.mem_of_getElem? (i := 4) rfl)
theorem mx_X7_calm_54 : Cond.instanceMethod yX3_windOn ∈ wsX7_calm := mb_X7_calm_wsX7_calm_r3 (List.mem_of_getElem? (i := 5) rfl)
theorem mx_X7_calm_55 : Cond.selects RX3 yX3_windOn yX3_windOn ∈ wsX7_calm := mb_X7_calm_wsX7_calm_r3 (List.mem_of_getElem? (i := 6) rfl)
theorem mx_X7_calm_56 : Cond.code yX3_windOn cX3_windOn 2 (some .int) ∈ wsX7_calm := mb_X7_calm_wsX7_calm_r3 (List.mem_of_getElem? (i := 7) rfl)
theorem mx_X7_calm_57 : Cond.methodLink RX3 90 yX3_passSound ∈ wsX7_calm := mb_X7_calm_wsX7_calm_r3 (List.mem_of_getElem? (i := 8) rfl)
theorem mx_X7_calm_58 : Cond.instanceMethod yX3_passSound ∈ wsX7_calm := mb_X7_calm_wsX7_calm_r3 (List.mem_of_getElem? (i := 9) rfl)
theorem mx_X7_calm_59 : Cond.selects RX3 yX3_passSound yX3_passSound ∈ wsX7_calm := mb_X7_calm_wsX7_calm_r3 (List.mem_of_getElem? (i := 10) rfl)
theorem mx_X7_calm_60 : Cond.code yX3_passSound cX3_passSound 5 none ∈ wsX7_calm := mb_X7_calm_wsX7_calm_r3 (List.mem_of_getElem? (i := 11) rfl)
theorem mx_X7_calm_61 : Cond.methodLink RX3 63 Lib.Math.min.name ∈ wsX7_calm := mb_X7_calm_wsX7_calm_r3 (List.mem_of_getElem? (i := 12) rfl)
theorem mx_X7_calm_62 : Cond.static Lib.Math.min.name ∈ wsX7_calm := mb_X7_calm_wsX7_calm_r3 (List.mem_of_getElem? (i := 13) rfl)
theorem mx_X7_calm_6 : Cond.initialized "java/lang/Math" ∈ wsX7_calm := mb_X7_calm_wsX7_calm_r1 (List.mem_of_getElem? (i := 5) rfl)
theorem mx_X7_calm_63 : Cond.code Lib.Math.min.name Lib.Math.min.code 2 (some .int) ∈ wsX7_calm := mb_X7_calm_wsX7_calm_r3 (List.mem_of_getElem? (i := 14) rfl)
theorem mx_X7_calm_64 : Cond.methodLink RX3 58 yX3_isLoose ∈ wsX7_calm := mb_X7_calm_wsX7_calm_r3 (List.mem_of_getElem? (i := 15) rfl)
theorem mx_X7_calm_65 : Cond.instanceMethod yX3_isLoose ∈ wsX7_calm := mb_X7_calm_wsX7_calm_r3 (List.mem_of_getElem? (i := 16) rfl)
theorem mx_X7_calm_66 : Cond.selects RX3 yX3_isLoose yX3_isLoose ∈ wsX7_calm := mb_X7_calm_wsX7_calm_r3 (List.mem_of_getElem? (i := 17) rfl)
theorem mx_X7_calm_67 : Cond.code yX3_isLoose cX3_isLoose 2 (some .boolean) ∈ wsX7_calm := mb_X7_calm_wsX7_calm_r3 (List.mem_of_getElem? (i := 18) rfl)
theorem mx_X7_calm_68 : Cond.methodLink RX3 69 yX3_driftOf ∈ wsX7_calm := mb_X7_calm_wsX7_calm_r3 (List.mem_of_getElem? (i := 19) rfl)
theorem mx_X7_calm_69 : Cond.instanceMethod yX3_driftOf ∈ wsX7_calm := mb_X7_calm_wsX7_calm_r3 (List.mem_of_getElem? (i := 20) rfl)
theorem mx_X7_calm_70 : Cond.selects RX3 yX3_driftOf yX3_driftOf ∈ wsX7_calm := mb_X7_calm_wsX7_calm_r3 (List.mem_of_getElem? (i := 21) rfl)
theorem mx_X7_calm_71 : Cond.code yX3_driftOf cX3_driftOf 4 (some .int) ∈ wsX7_calm := mb_X7_calm_wsX7_calm_r3 (List.mem_of_getElem? (i := 22) rfl)
theorem mx_X7_calm_72 : Cond.methodLink RX3 72 yX3_loudBehindHour ∈ wsX7_calm := mb_X7_calm_wsX7_calm_r3 (List.mem_of_getElem? (i := 23) rfl)
theorem mx_X7_calm_73 : Cond.instanceMethod yX3_loudBehindHour ∈ wsX7_calm := mb_X7_calm_wsX7_calm_r4 (List.mem_of_getElem? (i := 0) rfl)
theorem mx_X7_calm_74 : Cond.selects RX3 yX3_loudBehindHour yX3_loudBehindHour ∈ wsX7_calm := mb_X7_calm_wsX7_calm_r4 (List.mem_of_getElem? (i := 1) rfl)
theorem mx_X7_calm_75 : Cond.code yX3_loudBehindHour cX3_loudBehindHour 2 (some .int) ∈ wsX7_calm := mb_X7_calm_wsX7_calm_r4 (List.mem_of_getElem? (i := 2) rfl)
theorem mx_X7_calm_76 : Cond.methodLink RX3 76 yX3_hasCell ∈ wsX7_calm := mb_X7_calm_wsX7_calm_r4 (List.mem_of_getElem? (i := 3) rfl)
theorem mx_X7_calm_77 : Cond.instanceMethod yX3_hasCell ∈ wsX7_calm := mb_X7_calm_wsX7_calm_r4 (List.mem_of_getElem? (i := 4) rfl)
theorem mx_X7_calm_78 : Cond.selects RX3 yX3_hasCell yX3_hasCell ∈ wsX7_calm := mb_X7_calm_wsX7_calm_r4 (List.mem_of_getElem? (i := 5) rfl)
theorem mx_X7_calm_79 : Cond.code yX3_hasCell cX3_hasCell 2 (some .boolean) ∈ wsX7_calm := mb_X7_calm_wsX7_calm_r4 (List.mem_of_getElem? (i := 6) rfl)
theorem mx_X7_calm_80 : Cond.methodLink RX3 79 yX3_letLoose ∈ wsX7_calm := mb_X7_calm_wsX7_calm_r4 (List.mem_of_getElem? (i := 7) rfl)
theorem mx_X7_calm_81 : Cond.instanceMethod yX3_letLoose ∈ wsX7_calm := mb_X7_calm_wsX7_calm_r4 (List.mem_of_getElem? (i := 8) rfl)
theorem mx_X7_calm_82 : Cond.selects RX3 yX3_letLoose yX3_letLoose ∈ wsX7_calm := mb_X7_calm_wsX7_calm_r4 (List.mem_of_getElem? (i := 9) rfl)
theorem mx_X7_calm_83 : Cond.code yX3_letLoose cX3_letLoose 4 none ∈ wsX7_calm := mb_X7_calm_wsX7_calm_r4 (List.mem_of_getElem? (i := 10) rfl)
theorem mx_X7_calm_84 : Cond.methodLink RX3 83 yX3_grindsAt ∈ wsX7_calm := mb_X7_calm_wsX7_calm_r4 (List.mem_of_getElem? (i := 11) rfl)
theorem mx_X7_calm_85 : Cond.instanceMethod yX3_grindsAt ∈ wsX7_calm := mb_X7_calm_wsX7_calm_r4 (List.mem_of_getElem? (i := 12) rfl)
theorem mx_X7_calm_86 : Cond.selects RX3 yX3_grindsAt yX3_grindsAt ∈ wsX7_calm := mb_X7_calm_wsX7_calm_r4 (List.mem_of_getElem? (i := 13) rfl)
theorem mx_X7_calm_87 : Cond.code yX3_grindsAt cX3_grindsAt 4 (some .boolean) ∈ wsX7_calm := mb_X7_calm_wsX7_calm_r4 (List.mem_of_getElem? (i := 14) rfl)
theorem ggX7_calm_X7_isGroundIfDropped : GoodIn wsX7_calm wsX7_isGroundIfDropped := goodIn_sub (by unfold wsX7_isGroundIfDropped; exact List.forall_mem_cons.mpr ⟨mx_X7_calm_25, List.forall_mem_append.mpr ⟨List.forall_mem_append.mpr ⟨List.forall_mem_append.mpr ⟨(by unfold wsX7_isGroundIfDropped_r1; exact List.forall_mem_cons.mpr ⟨mx_X7_calm_26, List.forall_mem_cons.mpr ⟨mx_X7_calm_1, List.forall_mem_cons.mpr ⟨mx_X7_calm_3, List.forall_mem_cons.mpr ⟨mx_X7_calm_27, List.forall_mem_cons.mpr ⟨mx_X7_calm_28, List.forall_mem_cons.mpr ⟨mx_X7_calm_29, List.forall_mem_cons.mpr ⟨mx_X7_calm_30, List.forall_mem_cons.mpr ⟨mx_X7_calm_31, List.forall_mem_cons.mpr ⟨mx_X7_calm_11, List.forall_mem_cons.mpr ⟨mx_X7_calm_32, List.forall_mem_cons.mpr ⟨mx_X7_calm_33, List.forall_mem_cons.mpr ⟨mx_X7_calm_34, List.forall_mem_cons.mpr ⟨mx_X7_calm_35, List.forall_mem_cons.mpr ⟨mx_X7_calm_36, List.forall_mem_cons.mpr ⟨mx_X7_calm_37, List.forall_mem_cons.mpr ⟨mx_X7_calm_38, List.forall_mem_cons.mpr ⟨mx_X7_calm_39, List.forall_mem_cons.mpr ⟨mx_X7_calm_13, List.forall_mem_cons.mpr ⟨mx_X7_calm_40, List.forall_mem_cons.mpr ⟨mx_X7_calm_41, List.forall_mem_cons.mpr ⟨mx_X7_calm_42, List.forall_mem_cons.mpr ⟨mx_X7_calm_43, List.forall_mem_cons.mpr ⟨mx_X7_calm_44, List.forall_mem_cons.mpr ⟨mx_X7_calm_45, fun _ h_ => absurd h_ List.not_mem_nil⟩⟩⟩⟩⟩⟩⟩⟩⟩⟩⟩⟩⟩⟩⟩⟩⟩⟩⟩⟩⟩⟩⟩⟩), List.forall_mem_append.mpr ⟨(by unfold wsX7_isGroundIfDropped_r2; exact List.forall_mem_cons.mpr ⟨mx_X7_calm_46, List.forall_mem_cons.mpr ⟨mx_X7_calm_47, List.forall_mem_cons.mpr ⟨mx_X7_calm_48, List.forall_mem_cons.mpr ⟨mx_X7_calm_49, List.forall_mem_cons.mpr ⟨mx_X7_calm_50, List.forall_mem_cons.mpr ⟨mx_X7_calm_51, List.forall_mem_cons.mpr ⟨mx_X7_calm_52, List.forall_mem_cons.mpr ⟨mx_X7_calm_53, List.forall_mem_cons.mpr ⟨mx_X7_calm_54, List.forall_mem_cons.mpr ⟨mx_X7_calm_55, List.forall_mem_cons.mpr ⟨mx_X7_calm_56, List.forall_mem_cons.mpr ⟨mx_X7_calm_57, List.forall_mem_cons.mpr ⟨mx_X7_calm_58, List.forall_mem_cons.mpr ⟨mx_X7_calm_59, List.forall_mem_cons.mpr ⟨mx_X7_calm_60, List.forall_mem_cons.mpr ⟨mx_X7_calm_61, List.forall_mem_cons.mpr ⟨mx_X7_calm_62, List.forall_mem_cons.mpr ⟨mx_X7_calm_6, List.forall_mem_cons.mpr ⟨mx_X7_calm_63, List.forall_mem_cons.mpr ⟨mx_X7_calm_64, List.forall_mem_cons.mpr ⟨mx_X7_calm_65, List.forall_mem_cons.mpr ⟨mx_X7_calm_66, List.forall_mem_cons.mpr ⟨mx_X7_calm_67, List.forall_mem_cons.mpr ⟨mx_X7_calm_68, fun _ h_ => absurd h_ List.not_mem_nil⟩⟩⟩⟩⟩⟩⟩⟩⟩⟩⟩⟩⟩⟩⟩⟩⟩⟩⟩⟩⟩⟩⟩⟩), (by unfold wsX7_isGroundIfDropped_r3; exact List.forall_mem_cons.mpr ⟨mx_X7_calm_69, List.forall_mem_cons.mpr ⟨mx_X7_calm_70, List.forall_mem_cons.mpr ⟨mx_X7_calm_71, List.forall_mem_cons.mpr ⟨mx_X7_calm_72, List.forall_mem_cons.mpr ⟨mx_X7_calm_73, List.forall_mem_cons.mpr ⟨mx_X7_calm_74, List.forall_mem_cons.mpr ⟨mx_X7_calm_75, List.forall_mem_cons.mpr ⟨mx_X7_calm_76, List.forall_mem_cons.mpr ⟨mx_X7_calm_77, List.forall_mem_cons.mpr ⟨mx_X7_calm_78, List.forall_mem_cons.mpr ⟨mx_X7_calm_79, List.forall_mem_cons.mpr ⟨mx_X7_calm_80, List.forall_mem_cons.mpr ⟨mx_X7_calm_81, List.forall_mem_cons.mpr ⟨mx_X7_calm_82, List.forall_mem_cons.mpr ⟨mx_X7_calm_83, List.forall_mem_cons.mpr ⟨mx_X7_calm_84, List.forall_mem_cons.mpr ⟨mx_X7_calm_85, List.forall_mem_cons.mpr ⟨mx_X7_calm_86, List.forall_mem_cons.mpr ⟨mx_X7_calm_87, fun _ h_ => absurd h_ List.not_mem_nil⟩⟩⟩⟩⟩⟩⟩⟩⟩⟩⟩⟩⟩⟩⟩⟩⟩⟩⟩)⟩⟩, (fun _ h_ => mb_X7_calm_wsX70 h_)⟩, (fun _ h_ => mb_X7_calm_wsX30 h_)⟩⟩) (by decide +kernel)
theorem mx_X7_calm_22 : Cond.methodLink RX7 275 yX7_isGroundIfDropped ∈ wsX7_calm := mb_X7_calm_wsX7_calm_r1 (List.mem_of_getElem? (i := 21) rfl)
theorem mx_X7_calm_23 : Cond.instanceMethod yX7_isGroundIfDropped ∈ wsX7_calm := mb_X7_calm_wsX7_calm_r1 (List.mem_of_getElem? (i := 22) rfl)
theorem mx_X7_calm_24 : Cond.selects RX7 yX7_isGroundIfDropped yX7_isGroundIfDropped ∈ wsX7_calm := mb_X7_calm_wsX7_calm_r1 (List.mem_of_getElem? (i := 23) rfl)
theorem gX7_calm_X7_isGroundIfDropped : GoodIn wsX7_calm (wsV RX7 275 RX7 yX7_isGroundIfDropped wsX7_isGroundIfDropped) := goodIn_app (goodIn_sub (List.forall_mem_cons.mpr ⟨mx_X7_calm_22, List.forall_mem_cons.mpr ⟨mx_X7_calm_23, List.forall_mem_cons.mpr ⟨mx_X7_calm_24, List.forall_mem_cons.mpr ⟨mx_X7_calm_16, fun _ h_ => absurd h_ List.not_mem_nil⟩⟩⟩⟩) (by decide +kernel)) ggX7_calm_X7_isGroundIfDropped
theorem mb_X7_drawn_wsX7_drawn_r4 {w : Cond} (h : w ∈ wsX7_drawn_r4) : w ∈ wsX7_drawn := by unfold wsX7_drawn; exact List.mem_cons_of_mem _ (List.mem_append_left _ (List.mem_append_left _ (List.mem_append_right _ (List.mem_append_right _ (List.mem_append_right _ (List.mem_append_left _ (h)))))))
theorem mx_X7_drawn_94 : Cond.code yJ6_bitCount_0f7a4 cJ6_bitCount_0f7a4 1 (some .int) ∈ wsX7_drawn := mb_X7_drawn_wsX7_drawn_r4 (List.mem_of_getElem? (i := 21) rfl)
theorem mx_X7_drawn_95 : Cond.constant RJ6 265 (1431655765) ∈ wsX7_drawn := mb_X7_drawn_wsX7_drawn_r4 (List.mem_of_getElem? (i := 22) rfl)
theorem mx_X7_drawn_96 : Cond.constant RJ6 266 (858993459) ∈ wsX7_drawn := mb_X7_drawn_wsX7_drawn_r4 (List.mem_of_getElem? (i := 23) rfl)
theorem mb_X7_drawn_wsX7_drawn_r5 {w : Cond} (h : w ∈ wsX7_drawn_r5) : w ∈ wsX7_drawn := by unfold wsX7_drawn; exact List.mem_cons_of_mem _ (List.mem_append_left _ (List.mem_append_left _ (List.mem_append_right _ (List.mem_append_right _ (List.mem_append_right _ (List.mem_append_right _ (h)))))))
theorem mx_X7_drawn_97 : Cond.constant RJ6 267 (252645135) ∈ wsX7_drawn := mb_X7_drawn_wsX7_drawn_r5 (List.mem_of_getElem? (i := 0) rfl)
theorem ggX7_drawn_J6_bitCount_0f7a4 : GoodIn wsX7_drawn wsJ6_bitCount_0f7a4 := goodIn_sub (by unfold wsJ6_bitCount_0f7a4; exact List.forall_mem_cons.mpr ⟨mx_X7_drawn_94, List.forall_mem_cons.mpr ⟨mx_X7_drawn_95, List.forall_mem_cons.mpr ⟨mx_X7_drawn_96, List.forall_mem_cons.mpr ⟨mx_X7_drawn_97, fun _ h_ => absurd h_ List.not_mem_nil⟩⟩⟩⟩) (by decide +kernel)
set_option maxRecDepth 20000 in
theorem gX7_drawn_J6_bitCount_0f7a4 : GoodIn wsX7_drawn (va_wsS RX7 296 yJ6_bitCount_0f7a4 wsJ6_bitCount_0f7a4) := goodIn_app (goodIn_of _ (by decide +kernel)) ggX7_drawn_J6_bitCount_0f7a4
theorem mb_X7_drawn_wsX7_drawn_r1 {w : Cond} (h : w ∈ wsX7_drawn_r1) : w ∈ wsX7_drawn := by unfold wsX7_drawn; exact List.mem_cons_of_mem _ (List.mem_append_left _ (List.mem_append_left _ (List.mem_append_left _ (h))))
theorem mx_X7_drawn_22 : Cond.code yX3_becomeLike cX3_becomeLike 2 none ∈ wsX7_drawn := mb_X7_drawn_wsX7_drawn_r1 (List.mem_of_getElem? (i := 21) rfl)
theorem mx_X7_drawn_14 : Cond.fieldLink RX3 27 "MillTalk$Level" "cells" "I" ∈ wsX7_drawn := mb_X7_drawn_wsX7_drawn_r1 (List.mem_of_getElem? (i := 13) rfl)
theorem mx_X7_drawn_23 : Cond.fieldLink RX3 31 "MillTalk$Level" "mill" "I" ∈ wsX7_drawn := mb_X7_drawn_wsX7_drawn_r1 (List.mem_of_getElem? (i := 22) rfl)
theorem mx_X7_drawn_24 : Cond.fieldLink RX3 34 "MillTalk$Level" "reach" "I" ∈ wsX7_drawn := mb_X7_drawn_wsX7_drawn_r1 (List.mem_of_getElem? (i := 23) rfl)
theorem mb_X7_drawn_wsX7_drawn_r2 {w : Cond} (h : w ∈ wsX7_drawn_r2) : w ∈ wsX7_drawn := by unfold wsX7_drawn; exact List.mem_cons_of_mem _ (List.mem_append_left _ (List.mem_append_left _ (List.mem_append_right _ (List.mem_append_left _ (h)))))
theorem mx_X7_drawn_25 : Cond.fieldLink RX3 37 "MillTalk$Level" "cap" "I" ∈ wsX7_drawn := mb_X7_drawn_wsX7_drawn_r2 (List.mem_of_getElem? (i := 0) rfl)
theorem mx_X7_drawn_26 : Cond.fieldLink RX3 40 "MillTalk$Level" "hour" "I" ∈ wsX7_drawn := mb_X7_drawn_wsX7_drawn_r2 (List.mem_of_getElem? (i := 1) rfl)
theorem mx_X7_drawn_27 : Cond.fieldLink RX3 43 "MillTalk$Level" "meal" "I" ∈ wsX7_drawn := mb_X7_drawn_wsX7_drawn_r2 (List.mem_of_getElem? (i := 2) rfl)
theorem mx_X7_drawn_28 : Cond.fieldLink RX3 46 "MillTalk$Level" "windCount" "I" ∈ wsX7_drawn := mb_X7_drawn_wsX7_drawn_r2 (List.mem_of_getElem? (i := 3) rfl)
theorem mx_X7_drawn_29 : Cond.fieldLink RX3 49 "MillTalk$Level" "soundCount" "I" ∈ wsX7_drawn := mb_X7_drawn_wsX7_drawn_r2 (List.mem_of_getElem? (i := 4) rfl)
theorem mx_X7_drawn_30 : Cond.fieldLink RX3 9 "MillTalk$Level" "winds" "[I" ∈ wsX7_drawn := mb_X7_drawn_wsX7_drawn_r2 (List.mem_of_getElem? (i := 5) rfl)
theorem mx_X7_drawn_31 : Cond.methodLink RX3 52 arraycopyName ∈ wsX7_drawn := mb_X7_drawn_wsX7_drawn_r2 (List.mem_of_getElem? (i := 6) rfl)
theorem mx_X7_drawn_32 : Cond.native arraycopyName ∈ wsX7_drawn := mb_X7_drawn_wsX7_drawn_r2 (List.mem_of_getElem? (i := 7) rfl)
theorem mx_X7_drawn_33 : Cond.static arraycopyName ∈ wsX7_drawn := mb_X7_drawn_wsX7_drawn_r2 (List.mem_of_getElem? (i := 8) rfl)
theorem mx_X7_drawn_34 : Cond.initialized "java/lang/System" ∈ wsX7_drawn := mb_X7_drawn_wsX7_drawn_r2 (List.mem_of_getElem? (i := 9) rfl)
theorem mx_X7_drawn_35 : Cond.fieldLink RX3 15 "MillTalk$Level" "kinds" "[I" ∈ wsX7_drawn := mb_X7_drawn_wsX7_drawn_r2 (List.mem_of_getElem? (i := 10) rfl)
theorem mx_X7_drawn_36 : Cond.fieldLink RX3 18 "MillTalk$Level" "places" "[I" ∈ wsX7_drawn := mb_X7_drawn_wsX7_drawn_r2 (List.mem_of_getElem? (i := 11) rfl)
theorem mx_X7_drawn_37 : Cond.fieldLink RX3 21 "MillTalk$Level" "louds" "[I" ∈ wsX7_drawn := mb_X7_drawn_wsX7_drawn_r2 (List.mem_of_getElem? (i := 12) rfl)
theorem mx_X7_drawn_38 : Cond.fieldLink RX3 24 "MillTalk$Level" "hows" "[I" ∈ wsX7_drawn := mb_X7_drawn_wsX7_drawn_r2 (List.mem_of_getElem? (i := 13) rfl)
theorem mb_X7_drawn_wsX30 {w : Cond} (h : w ∈ wsX30) : w ∈ wsX7_drawn := by unfold wsX7_drawn; exact List.mem_cons_of_mem _ (List.mem_append_right _ (h))
theorem ggX7_drawn_X3_becomeLike : GoodIn wsX7_drawn wsX3_becomeLike := goodIn_sub (by unfold wsX3_becomeLike; exact List.forall_mem_cons.mpr ⟨mx_X7_drawn_22, List.forall_mem_append.mpr ⟨List.forall_mem_cons.mpr ⟨mx_X7_drawn_14, List.forall_mem_cons.mpr ⟨mx_X7_drawn_23, List.forall_mem_cons.mpr ⟨mx_X7_drawn_24, List.forall_mem_cons.mpr ⟨mx_X7_drawn_25, List.forall_mem_cons.mpr ⟨mx_X7_drawn_26, List.forall_mem_cons.mpr ⟨mx_X7_drawn_27, List.forall_mem_cons.mpr ⟨mx_X7_drawn_28, List.forall_mem_cons.mpr ⟨mx_X7_drawn_29, List.forall_mem_cons.mpr ⟨mx_X7_drawn_30, List.forall_mem_cons.mpr ⟨mx_X7_drawn_31, List.forall_mem_cons.mpr ⟨mx_X7_drawn_32, List.forall_mem_cons.mpr ⟨mx_X7_drawn_33, List.forall_mem_cons.mpr ⟨mx_X7_drawn_34, List.forall_mem_cons.mpr ⟨mx_X7_drawn_35, List.forall_mem_cons.mpr ⟨mx_X7_drawn_36, List.forall_mem_cons.mpr ⟨mx_X7_drawn_37, List.forall_mem_cons.mpr ⟨mx_X7_drawn_38, fun _ h_ => absurd h_ List.not_mem_nil⟩⟩⟩⟩⟩⟩⟩⟩⟩⟩⟩⟩⟩⟩⟩⟩⟩, (fun _ h_ => mb_X7_drawn_wsX30 h_)⟩⟩) (by decide +kernel)
theorem mx_X7_drawn_19 : Cond.methodLink RX7 128 yX3_becomeLike ∈ wsX7_drawn := mb_X7_drawn_wsX7_drawn_r1 (List.mem_of_getElem? (i := 18) rfl)
theorem mx_X7_drawn_20 : Cond.instanceMethod yX3_becomeLike ∈ wsX7_drawn := mb_X7_drawn_wsX7_drawn_r1 (List.mem_of_getElem? (i := 19) rfl)
theorem mx_X7_drawn_21 : Cond.selects RX3 yX3_becomeLike yX3_becomeLike ∈ wsX7_drawn := mb_X7_drawn_wsX7_drawn_r1 (List.mem_of_getElem? (i := 20) rfl)
theorem mx_X7_drawn_12 : Cond.initialized RX3 ∈ wsX7_drawn := mb_X7_drawn_wsX7_drawn_r1 (List.mem_of_getElem? (i := 11) rfl)
theorem gX7_drawn_X3_becomeLike : GoodIn wsX7_drawn (wsV RX7 128 RX3 yX3_becomeLike wsX3_becomeLike) := goodIn_app (goodIn_sub (List.forall_mem_cons.mpr ⟨mx_X7_drawn_19, List.forall_mem_cons.mpr ⟨mx_X7_drawn_20, List.forall_mem_cons.mpr ⟨mx_X7_drawn_21, List.forall_mem_cons.mpr ⟨mx_X7_drawn_12, fun _ h_ => absurd h_ List.not_mem_nil⟩⟩⟩⟩) (by decide +kernel)) ggX7_drawn_X3_becomeLike
theorem mx_X7_drawn_13 : Cond.code yX3_isTold cX3_isTold 1 (some .boolean) ∈ wsX7_drawn := mb_X7_drawn_wsX7_drawn_r1 (List.mem_of_getElem? (i := 12) rfl)
theorem ggX7_drawn_X3_isTold : GoodIn wsX7_drawn wsX3_isTold := goodIn_sub (by unfold wsX3_isTold; exact List.forall_mem_cons.mpr ⟨mx_X7_drawn_13, List.forall_mem_append.mpr ⟨List.forall_mem_cons.mpr ⟨mx_X7_drawn_14, fun _ h_ => absurd h_ List.not_mem_nil⟩, (fun _ h_ => mb_X7_drawn_wsX30 h_)⟩⟩) (by decide +kernel)
theorem mx_X7_drawn_9 : Cond.methodLink RX7 145 yX3_isTold ∈ wsX7_drawn := mb_X7_drawn_wsX7_drawn_r1 (List.mem_of_getElem? (i := 8) rfl)
theorem mx_X7_drawn_10 : Cond.instanceMethod yX3_isTold ∈ wsX7_drawn := mb_X7_drawn_wsX7_drawn_r1 (List.mem_of_getElem? (i := 9) rfl)
theorem mx_X7_drawn_11 : Cond.selects RX3 yX3_isTold yX3_isTold ∈ wsX7_drawn := mb_X7_drawn_wsX7_drawn_r1 (List.mem_of_getElem? (i := 10) rfl)
theorem gX7_drawn_X3_isTold : GoodIn wsX7_drawn (wsV RX7 145 RX3 yX3_isTold wsX3_isTold) := goodIn_app (goodIn_sub (List.forall_mem_cons.mpr ⟨mx_X7_drawn_9, List.forall_mem_cons.mpr ⟨mx_X7_drawn_10, List.forall_mem_cons.mpr ⟨mx_X7_drawn_11, List.forall_mem_cons.mpr ⟨mx_X7_drawn_12, fun _ h_ => absurd h_ List.not_mem_nil⟩⟩⟩⟩) (by decide +kernel)) ggX7_drawn_X3_isTold
theorem mb_X7_drawn_wsX7_drawn_r3 {w : Cond} (h : w ∈ wsX7_drawn_r3) : w ∈ wsX7_drawn := by unfold wsX7_drawn; exact List.mem_cons_of_mem _ (List.mem_append_left _ (List.mem_append_left _ (List.mem_append_right _ (List.mem_append_right _ (List.mem_append_left _ (h))))))
theorem mx_X7_drawn_58 : Cond.code yX3_pass cX3_pass 3 none ∈ wsX7_drawn := mb_X7_drawn_wsX7_drawn_r3 (List.mem_of_getElem? (i := 9) rfl)
theorem mx_X7_drawn_59 : Cond.methodLink RX3 87 yX3_windOn ∈ wsX7_drawn := mb_X7_drawn_wsX7_drawn_r3 (List.mem_of_getElem? (i := 10) rfl)
theorem mx_X7_drawn_60 : Cond.instanceMethod yX3_windOn ∈ wsX7_drawn := mb_X7_drawn_wsX7_drawn_r3 (List.mem_of_getElem? (i := 11) rfl)
theorem mx_X7_drawn_61 : Cond.selects RX3 yX3_windOn yX3_windOn ∈ wsX7_drawn := mb_X7_drawn_wsX7_drawn_r3 (List.mem_of_getElem? (i := 12) rfl)
theorem mx_X7_drawn_62 : Cond.code yX3_windOn cX3_windOn 2 (some .int) ∈ wsX7_drawn := mb_X7_drawn_wsX7_drawn_r3 (List.mem_of_getElem? (i := 13) rfl)
theorem mx_X7_drawn_63 : Cond.methodLink RX3 90 yX3_passSound ∈ wsX7_drawn := mb_X7_drawn_wsX7_drawn_r3 (List.mem_of_getElem? (i := 14) rfl)
theorem mx_X7_drawn_64 : Cond.instanceMethod yX3_passSound ∈ wsX7_drawn := mb_X7_drawn_wsX7_drawn_r3 (List.mem_of_getElem? (i := 15) rfl)
theorem mx_X7_drawn_65 : Cond.selects RX3 yX3_passSound yX3_passSound ∈ wsX7_drawn := mb_X7_drawn_wsX7_drawn_r3 (List.mem_of_getElem? (i := 16) rfl)
theorem mx_X7_drawn_66 : Cond.code yX3_passSound cX3_passSound 5 none ∈ wsX7_drawn := mb_X7_drawn_wsX7_drawn_r3 (List.mem_of_getElem? (i := 17) rfl)
theorem mx_X7_drawn_67 : Cond.methodLink RX3 63 Lib.Math.min.name ∈ wsX7_drawn := mb_X7_drawn_wsX7_drawn_r3 (List.mem_of_getElem? (i := 18) rfl)
theorem mx_X7_drawn_68 : Cond.static Lib.Math.min.name ∈ wsX7_drawn := mb_X7_drawn_wsX7_drawn_r3 (List.mem_of_getElem? (i := 19) rfl)
theorem mx_X7_drawn_69 : Cond.initialized "java/lang/Math" ∈ wsX7_drawn := mb_X7_drawn_wsX7_drawn_r3 (List.mem_of_getElem? (i := 20) rfl)
theorem mx_X7_drawn_70 : Cond.code Lib.Math.min.name Lib.Math.min.code 2 (some .int) ∈ wsX7_drawn := mb_X7_drawn_wsX7_drawn_r3 (List.mem_of_getElem? (i := 21) rfl)
theorem mx_X7_drawn_47 : Cond.methodLink RX3 58 yX3_isLoose ∈ wsX7_drawn := mb_X7_drawn_wsX7_drawn_r2 (List.mem_of_getElem? (i := 22) rfl)
theorem mx_X7_drawn_48 : Cond.instanceMethod yX3_isLoose ∈ wsX7_drawn := mb_X7_drawn_wsX7_drawn_r2 (List.mem_of_getElem? (i := 23) rfl)
theorem mx_X7_drawn_49 : Cond.selects RX3 yX3_isLoose yX3_isLoose ∈ wsX7_drawn := mb_X7_drawn_wsX7_drawn_r3 (List.mem_of_getElem? (i := 0) rfl)
theorem mx_X7_drawn_50 : Cond.code yX3_isLoose cX3_isLoose 2 (some .boolean) ∈ wsX7_drawn := mb_X7_drawn_wsX7_drawn_r3 (List.mem_of_getElem? (i := 1) rfl)
theorem mx_X7_drawn_71 : Cond.methodLink RX3 69 yX3_driftOf ∈ wsX7_drawn := mb_X7_drawn_wsX7_drawn_r3 (List.mem_of_getElem? (i := 22) rfl)
theorem mx_X7_drawn_72 : Cond.instanceMethod yX3_driftOf ∈ wsX7_drawn := mb_X7_drawn_wsX7_drawn_r3 (List.mem_of_getElem? (i := 23) rfl)
theorem mx_X7_drawn_73 : Cond.selects RX3 yX3_driftOf yX3_driftOf ∈ wsX7_drawn := mb_X7_drawn_wsX7_drawn_r4 (List.mem_of_getElem? (i := 0) rfl)
theorem mx_X7_drawn_74 : Cond.code yX3_driftOf cX3_driftOf 4 (some .int) ∈ wsX7_drawn := mb_X7_drawn_wsX7_drawn_r4 (List.mem_of_getElem? (i := 1) rfl)
theorem mx_X7_drawn_75 : Cond.methodLink RX3 72 yX3_loudBehindHour ∈ wsX7_drawn := mb_X7_drawn_wsX7_drawn_r4 (List.mem_of_getElem? (i := 2) rfl)
theorem mx_X7_drawn_76 : Cond.instanceMethod yX3_loudBehindHour ∈ wsX7_drawn := mb_X7_drawn_wsX7_drawn_r4 (List.mem_of_getElem? (i := 3) rfl)
theorem mx_X7_drawn_77 : Cond.selects RX3 yX3_loudBehindHour yX3_loudBehindHour ∈ wsX7_drawn := mb_X7_drawn_wsX7_drawn_r4 (List.mem_of_getElem? (i := 4) rfl)
theorem mx_X7_drawn_78 : Cond.code yX3_loudBehindHour cX3_loudBehindHour 2 (some .int) ∈ wsX7_drawn := mb_X7_drawn_wsX7_drawn_r4 (List.mem_of_getElem? (i := 5) rfl)
theorem mx_X7_drawn_79 : Cond.methodLink RX3 76 yX3_hasCell ∈ wsX7_drawn := mb_X7_drawn_wsX7_drawn_r4 (List.mem_of_getElem? (i := 6) rfl)
theorem mx_X7_drawn_80 : Cond.instanceMethod yX3_hasCell ∈ wsX7_drawn := mb_X7_drawn_wsX7_drawn_r4 (List.mem_of_getElem? (i := 7) rfl)
theorem mx_X7_drawn_81 : Cond.selects RX3 yX3_hasCell yX3_hasCell ∈ wsX7_drawn := mb_X7_drawn_wsX7_drawn_r4 (List.mem_of_getElem? (i := 8) rfl)
theorem mx_X7_drawn_82 : Cond.code yX3_hasCell cX3_hasCell 2 (some .boolean) ∈ wsX7_drawn := mb_X7_drawn_wsX7_drawn_r4 (List.mem_of_getElem? (i := 9) rfl)
theorem mx_X7_drawn_51 : Cond.methodLink RX3 79 yX3_letLoose ∈ wsX7_drawn := mb_X7_drawn_wsX7_drawn_r3 (List.mem_of_getElem? (i := 2) rfl)
theorem mx_X7_drawn_52 : Cond.instanceMethod yX3_letLoose ∈ wsX7_drawn := mb_X7_drawn_wsX7_drawn_r3 (List.mem_of_getElem? (i := 3) rfl)
theorem mx_X7_drawn_53 : Cond.selects RX3 yX3_letLoose yX3_letLoose ∈ wsX7_drawn := mb_X7_drawn_wsX7_drawn_r3 (List.mem_of_getElem? (i := 4) rfl)
theorem mx_X7_drawn_54 : Cond.code yX3_letLoose cX3_letLoose 4 none ∈ wsX7_drawn := mb_X7_drawn_wsX7_drawn_r3 (List.mem_of_getElem? (i := 5) rfl)
theorem mx_X7_drawn_83 : Cond.methodLink RX3 83 yX3_grindsAt ∈ wsX7_drawn := mb_X7_drawn_wsX7_drawn_r4 (List.mem_of_getElem? (i := 10) rfl)
theorem mx_X7_drawn_84 : Cond.instanceMethod yX3_grindsAt ∈ wsX7_drawn := mb_X7_drawn_wsX7_drawn_r4 (List.mem_of_getElem? (i := 11) rfl)
theorem mx_X7_drawn_85 : Cond.selects RX3 yX3_grindsAt yX3_grindsAt ∈ wsX7_drawn := mb_X7_drawn_wsX7_drawn_r4 (List.mem_of_getElem? (i := 12) rfl)
theorem mx_X7_drawn_86 : Cond.code yX3_grindsAt cX3_grindsAt 4 (some .boolean) ∈ wsX7_drawn := mb_X7_drawn_wsX7_drawn_r4 (List.mem_of_getElem? (i := 13) rfl)
theorem ggX7_drawn_X3_pass : GoodIn wsX7_drawn wsX3_pass := goodIn_sub (by unfold wsX3_pass; exact List.forall_mem_cons.mpr ⟨mx_X7_drawn_58, List.forall_mem_append.mpr ⟨List.forall_mem_append.mpr ⟨(by unfold wsX3_pass_r1; exact List.forall_mem_cons.mpr ⟨mx_X7_drawn_29, List.forall_mem_cons.mpr ⟨mx_X7_drawn_26, List.forall_mem_cons.mpr ⟨mx_X7_drawn_59, List.forall_mem_cons.mpr ⟨mx_X7_drawn_60, List.forall_mem_cons.mpr ⟨mx_X7_drawn_61, List.forall_mem_cons.mpr ⟨mx_X7_drawn_12, List.forall_mem_cons.mpr ⟨mx_X7_drawn_62, List.forall_mem_cons.mpr ⟨mx_X7_drawn_28, List.forall_mem_cons.mpr ⟨mx_X7_drawn_30, List.forall_mem_cons.mpr ⟨mx_X7_drawn_63, List.forall_mem_cons.mpr ⟨mx_X7_drawn_64, List.forall_mem_cons.mpr ⟨mx_X7_drawn_65, List.forall_mem_cons.mpr ⟨mx_X7_drawn_66, List.forall_mem_cons.mpr ⟨mx_X7_drawn_36, List.forall_mem_cons.mpr ⟨mx_X7_drawn_38, List.forall_mem_cons.mpr ⟨mx_X7_drawn_27, List.forall_mem_cons.mpr ⟨mx_X7_drawn_67, List.forall_mem_cons.mpr ⟨mx_X7_drawn_68, List.forall_mem_cons.mpr ⟨mx_X7_drawn_69, List.forall_mem_cons.mpr ⟨mx_X7_drawn_70, List.forall_mem_cons.mpr ⟨mx_X7_drawn_47, List.forall_mem_cons.mpr ⟨mx_X7_drawn_48, List.forall_mem_cons.mpr ⟨mx_X7_drawn_49, List.forall_mem_cons.mpr ⟨mx_X7_drawn_50, fun _ h_ => absurd h_ List.not_mem_nil⟩⟩⟩⟩⟩⟩⟩⟩⟩⟩⟩⟩⟩⟩⟩⟩⟩⟩⟩⟩⟩⟩⟩⟩), List.forall_mem_append.mpr ⟨(by unfold wsX3_pass_r2; exact List.forall_mem_cons.mpr ⟨mx_X7_drawn_71, List.forall_mem_cons.mpr ⟨mx_X7_drawn_72, List.forall_mem_cons.mpr ⟨mx_X7_drawn_73, List.forall_mem_cons.mpr ⟨mx_X7_drawn_74, List.forall_mem_cons.mpr ⟨mx_X7_drawn_35, List.forall_mem_cons.mpr ⟨mx_X7_drawn_75, List.forall_mem_cons.mpr ⟨mx_X7_drawn_76, List.forall_mem_cons.mpr ⟨mx_X7_drawn_77, List.forall_mem_cons.mpr ⟨mx_X7_drawn_78, List.forall_mem_cons.mpr ⟨mx_X7_drawn_37, List.forall_mem_cons.mpr ⟨mx_X7_drawn_79, List.forall_mem_cons.mpr ⟨mx_X7_drawn_80, List.forall_mem_cons.mpr ⟨mx_X7_drawn_81, List.forall_mem_cons.mpr ⟨mx_X7_drawn_82, List.forall_mem_cons.mpr ⟨mx_X7_drawn_14, List.forall_mem_cons.mpr ⟨mx_X7_drawn_51, List.forall_mem_cons.mpr ⟨mx_X7_drawn_52, List.forall_mem_cons.mpr ⟨mx_X7_drawn_53, List.forall_mem_cons.mpr ⟨mx_X7_drawn_54, List.forall_mem_cons.mpr ⟨mx_X7_drawn_83, List.forall_mem_cons.mpr ⟨mx_X7_drawn_84, List.forall_mem_cons.mpr ⟨mx_X7_drawn_85, List.forall_mem_cons.mpr ⟨mx_X7_drawn_86, List.forall_mem_cons.mpr ⟨mx_X7_drawn_25, fun _ h_ => absurd h_ List.not_mem_nil⟩⟩⟩⟩⟩⟩⟩⟩⟩⟩⟩⟩⟩⟩⟩⟩⟩⟩⟩⟩⟩⟩⟩⟩), (by unfold wsX3_pass_r3; exact List.forall_mem_cons.mpr ⟨mx_X7_drawn_23, List.forall_mem_cons.mpr ⟨mx_X7_drawn_24, fun _ h_ => absurd h_ List.not_mem_nil⟩⟩)⟩⟩, (fun _ h_ => mb_X7_drawn_wsX30 h_)⟩⟩) (by decide +kernel)
theorem mx_X7_drawn_55 : Cond.methodLink RX7 154 yX3_pass ∈ wsX7_drawn := mb_X7_drawn_wsX7_drawn_r3 (List.mem_of_getElem? (i := 6) rfl)
theorem mx_X7_drawn_56 : Cond.instanceMethod yX3_pass ∈ wsX7_drawn := mb_X7_drawn_wsX7_drawn_r3 (List.mem_of_getElem? (i := 7) rfl)
theorem mx_X7_drawn_57 : Cond.selects RX3 yX3_pass yX3_pass ∈ wsX7_drawn := mb_X7_drawn_wsX7_drawn_r3 (List.mem_of_getElem? (i := 8) rfl)
theorem gX7_drawn_X3_pass : GoodIn wsX7_drawn (wsV RX7 154 RX3 yX3_pass wsX3_pass) := goodIn_app (goodIn_sub (List.forall_mem_cons.mpr ⟨mx_X7_drawn_55, List.forall_mem_cons.mpr ⟨mx_X7_drawn_56, List.forall_mem_cons.mpr ⟨mx_X7_drawn_57, List.forall_mem_cons.mpr ⟨mx_X7_drawn_12, fun _ h_ => absurd h_ List.not_mem_nil⟩⟩⟩⟩) (by decide +kernel)) ggX7_drawn_X3_pass
theorem mx_X7_drawn_90 : Cond.code yX3_soundsThatAre cX3_soundsThatAre 4 (some .int) ∈ wsX7_drawn := mb_X7_drawn_wsX7_drawn_r4 (List.mem_of_getElem? (i := 17) rfl)
theorem ggX7_drawn_X3_soundsThatAre : GoodIn wsX7_drawn wsX3_soundsThatAre := goodIn_sub (by unfold wsX3_soundsThatAre; exact List.forall_mem_cons.mpr ⟨mx_X7_drawn_90, List.forall_mem_append.mpr ⟨List.forall_mem_cons.mpr ⟨mx_X7_drawn_29, List.forall_mem_cons.mpr ⟨mx_X7_drawn_38, fun _ h_ => absurd h_ List.not_mem_nil⟩⟩, (fun _ h_ => mb_X7_drawn_wsX30 h_)⟩⟩) (by decide +kernel)
theorem mx_X7_drawn_87 : Cond.methodLink RX7 185 yX3_soundsThatAre ∈ wsX7_drawn := mb_X7_drawn_wsX7_drawn_r4 (List.mem_of_getElem? (i := 14) rfl)
theorem mx_X7_drawn_88 : Cond.instanceMethod yX3_soundsThatAre ∈ wsX7_drawn := mb_X7_drawn_wsX7_drawn_r4 (List.mem_of_getElem? (i := 15) rfl)
theorem mx_X7_drawn_89 : Cond.selects RX3 yX3_soundsThatAre yX3_soundsThatAre ∈ wsX7_drawn := mb_X7_drawn_wsX7_drawn_r4 (List.mem_of_getElem? (i := 16) rfl)
theorem gX7_drawn_X3_soundsThatAre : GoodIn wsX7_drawn (wsV RX7 185 RX3 yX3_soundsThatAre wsX3_soundsThatAre) := goodIn_app (goodIn_sub (List.forall_mem_cons.mpr ⟨mx_X7_drawn_87, List.forall_mem_cons.mpr ⟨mx_X7_drawn_88, List.forall_mem_cons.mpr ⟨mx_X7_drawn_89, List.forall_mem_cons.mpr ⟨mx_X7_drawn_12, fun _ h_ => absurd h_ List.not_mem_nil⟩⟩⟩⟩) (by decide +kernel)) ggX7_drawn_X3_soundsThatAre
theorem mx_X7_drawn_42 : Cond.code yX3_takeDraw cX3_takeDraw 4 none ∈ wsX7_drawn := mb_X7_drawn_wsX7_drawn_r2 (List.mem_of_getElem? (i := 17) rfl)
theorem mx_X7_drawn_43 : Cond.constantLong RX3 97 (3) ∈ wsX7_drawn := mb_X7_drawn_wsX7_drawn_r2 (List.mem_of_getElem? (i := 18) rfl)
theorem mx_X7_drawn_44 : Cond.constantLong RX3 99 (5) ∈ wsX7_drawn := mb_X7_drawn_wsX7_drawn_r2 (List.mem_of_getElem? (i := 19) rfl)
theorem mx_X7_drawn_45 : Cond.constantLong RX3 101 (2) ∈ wsX7_drawn := mb_X7_drawn_wsX7_drawn_r2 (List.mem_of_getElem? (i := 20) rfl)
theorem mx_X7_drawn_46 : Cond.constantLong RX3 103 (9) ∈ wsX7_drawn := mb_X7_drawn_wsX7_drawn_r2 (List.mem_of_getElem? (i := 21) rfl)
theorem ggX7_drawn_X3_takeDraw : GoodIn wsX7_drawn wsX3_takeDraw := goodIn_sub (by unfold wsX3_takeDraw; exact List.forall_mem_cons.mpr ⟨mx_X7_drawn_42, List.forall_mem_append.mpr ⟨List.forall_mem_cons.mpr ⟨mx_X7_drawn_28, List.forall_mem_cons.mpr ⟨mx_X7_drawn_29, List.forall_mem_cons.mpr ⟨mx_X7_drawn_14, List.forall_mem_cons.mpr ⟨mx_X7_drawn_43, List.forall_mem_cons.mpr ⟨mx_X7_drawn_30, List.forall_mem_cons.mpr ⟨mx_X7_drawn_44, List.forall_mem_cons.mpr ⟨mx_X7_drawn_45, List.forall_mem_cons.mpr ⟨mx_X7_drawn_25, List.forall_mem_cons.mpr ⟨mx_X7_drawn_46, List.forall_mem_cons.mpr ⟨mx_X7_drawn_47, List.forall_mem_cons.mpr ⟨mx_X7_drawn_48, List.forall_mem_cons.mpr ⟨mx_X7_drawn_49, List.forall_mem_cons.mpr ⟨mx_X7_drawn_12, List.forall_mem_cons.mpr ⟨mx_X7_drawn_50, List.forall_mem_cons.mpr ⟨mx_X7_drawn_38, List.forall_mem_cons.mpr ⟨mx_X7_drawn_51, List.forall_mem_cons.mpr ⟨mx_X7_drawn_52, List.forall_mem_cons.mpr ⟨mx_X7_drawn_53, List.forall_mem_cons.mpr ⟨mx_X7_drawn_54, List.forall_mem_cons.mpr ⟨mx_X7_drawn_36, List.forall_mem_cons.mpr ⟨mx_X7_drawn_37, fun _ h_ => absurd h_ List.not_mem_nil⟩⟩⟩⟩⟩⟩⟩⟩⟩⟩⟩⟩⟩⟩⟩⟩⟩⟩⟩⟩⟩, (fun _ h_ => mb_X7_drawn_wsX30 h_)⟩⟩) (by decide +kernel)
theorem mx_X7_drawn_39 : Cond.methodLink RX7 292 yX3_takeDraw ∈ wsX7_drawn := mb_X7_drawn_wsX7_drawn_r2 (List.mem_of_getElem? (i := 14) rfl)
theorem mx_X7_drawn_40 : Cond.instanceMethod yX3_takeDraw ∈ wsX7_drawn := mb_X7_drawn_wsX7_drawn_r2 (List.mem_of_getElem? (i := 15) rfl)
theorem mx_X7_drawn_41 : Cond.selects RX3 yX3_takeDraw yX3_takeDraw ∈ wsX7_drawn := mb_X7_drawn_wsX7_drawn_r2 (List.mem_of_getElem? (i := 16) rfl)
theorem gX7_drawn_X3_takeDraw : GoodIn wsX7_drawn (wsV RX7 292 RX3 yX3_takeDraw wsX3_takeDraw) := goodIn_app (goodIn_sub (List.forall_mem_cons.mpr ⟨mx_X7_drawn_39, List.forall_mem_cons.mpr ⟨mx_X7_drawn_40, List.forall_mem_cons.mpr ⟨mx_X7_drawn_41, List.forall_mem_cons.mpr ⟨mx_X7_drawn_12, fun _ h_ => absurd h_ List.not_mem_nil⟩⟩⟩⟩) (by decide +kernel)) ggX7_drawn_X3_takeDraw
theorem mx_X7_drawn_18 : Cond.code yX7_isForetold cX7_isForetold 1 (some .boolean) ∈ wsX7_drawn := mb_X7_drawn_wsX7_drawn_r1 (List.mem_of_getElem? (i := 17) rfl)
theorem ggX7_drawn_X7_isForetold : GoodIn wsX7_drawn wsX7_isForetold := goodIn_sub (by unfold wsX7_isForetold; exact List.forall_mem_cons.mpr ⟨mx_X7_drawn_18, fun _ h_ => absurd h_ List.not_mem_nil⟩) (by decide +kernel)
set_option maxRecDepth 20000 in
theorem gX7_drawn_X7_isForetold : GoodIn wsX7_drawn (va_wsS RX7 207 yX7_isForetold wsX7_isForetold) := goodIn_app (goodIn_of _ (by decide +kernel)) ggX7_drawn_X7_isForetold
theorem mb_X7_gusts_wsX7_gusts_r1 {w : Cond} (h : w ∈ wsX7_gusts_r1) : w ∈ wsX7_gusts := by unfold wsX7_gusts; exact List.mem_cons_of_mem _ (List.mem_append_left _ (List.mem_append_left _ (List.mem_append_left _ (List.mem_append_left _ (h)))))
theorem mx_X7_gusts_12 : Cond.code yX3_hasSound cX3_hasSound 2 (some .boolean) ∈ wsX7_gusts := mb_X7_gusts_wsX7_gusts_r1 (List.mem_of_getElem? (i := 11) rfl)
theorem mx_X7_gusts_13 : Cond.fieldLink RX3 49 "MillTalk$Level" "soundCount" "I" ∈ wsX7_gusts := mb_X7_gusts_wsX7_gusts_r1 (List.mem_of_getElem? (i := 12) rfl)
theorem mb_X7_gusts_wsX30 {w : Cond} (h : w ∈ wsX30) : w ∈ wsX7_gusts := by unfold wsX7_gusts; exact List.mem_cons_of_mem _ (List.mem_append_left _ (List.mem_append_right _ (h)))
theorem ggX7_gusts_X3_hasSound : GoodIn wsX7_gusts wsX3_hasSound := goodIn_sub (by unfold wsX3_hasSound; exact List.forall_mem_cons.mpr ⟨mx_X7_gusts_12, List.forall_mem_append.mpr ⟨List.forall_mem_cons.mpr ⟨mx_X7_gusts_13, fun _ h_ => absurd h_ List.not_mem_nil⟩, (fun _ h_ => mb_X7_gusts_wsX30 h_)⟩⟩) (by decide +kernel)
theorem mx_X7_gusts_9 : Cond.methodLink RX7 173 yX3_hasSound ∈ wsX7_gusts := mb_X7_gusts_wsX7_gusts_r1 (List.mem_of_getElem? (i := 8) rfl)
theorem mx_X7_gusts_10 : Cond.instanceMethod yX3_hasSound ∈ wsX7_gusts := mb_X7_gusts_wsX7_gusts_r1 (List.mem_of_getElem? (i := 9) rfl)
theorem mx_X7_gusts_11 : Cond.selects RX3 yX3_hasSound yX3_hasSound ∈ wsX7_gusts := mb_X7_gusts_wsX7_gusts_r1 (List.mem_of_getElem? (i := 10) rfl)
theorem mx_X7_gusts_6 : Cond.initialized RX3 ∈ wsX7_gusts := mb_X7_gusts_wsX7_gusts_r1 (List.mem_of_getElem? (i := 5) rfl)
theorem gX7_gusts_X3_hasSound : GoodIn wsX7_gusts (wsV RX7 173 RX3 yX3_hasSound wsX3_hasSound) := goodIn_app (goodIn_sub (List.forall_mem_cons.mpr ⟨mx_X7_gusts_9, List.forall_mem_cons.mpr ⟨mx_X7_gusts_10, List.forall_mem_cons.mpr ⟨mx_X7_gusts_11, List.forall_mem_cons.mpr ⟨mx_X7_gusts_6, fun _ h_ => absurd h_ List.not_mem_nil⟩⟩⟩⟩) (by decide +kernel)) ggX7_gusts_X3_hasSound
theorem mx_X7_gusts_7 : Cond.code yX3_hasWind cX3_hasWind 2 (some .boolean) ∈ wsX7_gusts := mb_X7_gusts_wsX7_gusts_r1 (List.mem_of_getElem? (i := 6) rfl)
theorem mx_X7_gusts_8 : Cond.fieldLink RX3 46 "MillTalk$Level" "windCount" "I" ∈ wsX7_gusts := mb_X7_gusts_wsX7_gusts_r1 (List.mem_of_getElem? (i := 7) rfl)
theorem ggX7_gusts_X3_hasWind : GoodIn wsX7_gusts wsX3_hasWind := goodIn_sub (by unfold wsX3_hasWind; exact List.forall_mem_cons.mpr ⟨mx_X7_gusts_7, List.forall_mem_append.mpr ⟨List.forall_mem_cons.mpr ⟨mx_X7_gusts_8, fun _ h_ => absurd h_ List.not_mem_nil⟩, (fun _ h_ => mb_X7_gusts_wsX30 h_)⟩⟩) (by decide +kernel)
theorem mx_X7_gusts_3 : Cond.methodLink RX7 166 yX3_hasWind ∈ wsX7_gusts := mb_X7_gusts_wsX7_gusts_r1 (List.mem_of_getElem? (i := 2) rfl)
theorem mx_X7_gusts_4 : Cond.instanceMethod yX3_hasWind ∈ wsX7_gusts := mb_X7_gusts_wsX7_gusts_r1 (List.mem_of_getElem? (i := 3) rfl)
theorem mx_X7_gusts_5 : Cond.selects RX3 yX3_hasWind yX3_hasWind ∈ wsX7_gusts := mb_X7_gusts_wsX7_gusts_r1 (List.mem_of_getElem? (i := 4) rfl)
theorem gX7_gusts_X3_hasWind : GoodIn wsX7_gusts (wsV RX7 166 RX3 yX3_hasWind wsX3_hasWind) := goodIn_app (goodIn_sub (List.forall_mem_cons.mpr ⟨mx_X7_gusts_3, List.forall_mem_cons.mpr ⟨mx_X7_gusts_4, List.forall_mem_cons.mpr ⟨mx_X7_gusts_5, List.forall_mem_cons.mpr ⟨mx_X7_gusts_6, fun _ h_ => absurd h_ List.not_mem_nil⟩⟩⟩⟩) (by decide +kernel)) ggX7_gusts_X3_hasWind
theorem mb_X7_gusts_wsX7_gusts_r6 {w : Cond} (h : w ∈ wsX7_gusts_r6) : w ∈ wsX7_gusts := by unfold wsX7_gusts; exact List.mem_cons_of_mem _ (List.mem_append_left _ (List.mem_append_left _ (List.mem_append_left _ (List.mem_append_right _ (List.mem_append_right _ (List.mem_append_right _ (List.mem_append_right _ (List.mem_append_right _ (h)))))))))
theorem mx_X7_gusts_132 : Cond.code yX7_foundNothing cX7_foundNothing 2 (some .int) ∈ wsX7_gusts := mb_X7_gusts_wsX7_gusts_r6 (List.mem_of_getElem? (i := 11) rfl)
theorem mb_X7_gusts_wsX7_gusts_r3 {w : Cond} (h : w ∈ wsX7_gusts_r3) : w ∈ wsX7_gusts := by unfold wsX7_gusts; exact List.mem_cons_of_mem _ (List.mem_append_left _ (List.mem_append_left _ (List.mem_append_left _ (List.mem_append_right _ (List.mem_append_right _ (List.mem_append_left _ (h)))))))
theorem mx_X7_gusts_51 : Cond.fieldLink RX7 323 "MillTalk" "latestFinding" "I" ∈ wsX7_gusts := mb_X7_gusts_wsX7_gusts_r3 (List.mem_of_getElem? (i := 2) rfl)
theorem mb_X7_gusts_wsX70 {w : Cond} (h : w ∈ wsX70) : w ∈ wsX7_gusts := by unfold wsX7_gusts; exact List.mem_cons_of_mem _ (List.mem_append_left _ (List.mem_append_left _ (List.mem_append_right _ (h))))
theorem ggX7_gusts_X7_foundNothing : GoodIn wsX7_gusts wsX7_foundNothing := goodIn_sub (by unfold wsX7_foundNothing; exact List.forall_mem_cons.mpr ⟨mx_X7_gusts_132, List.forall_mem_append.mpr ⟨List.forall_mem_cons.mpr ⟨mx_X7_gusts_51, fun _ h_ => absurd h_ List.not_mem_nil⟩, (fun _ h_ => mb_X7_gusts_wsX70 h_)⟩⟩) (by decide +kernel)
theorem mx_X7_gusts_129 : Cond.methodLink RX7 81 yX7_foundNothing ∈ wsX7_gusts := mb_X7_gusts_wsX7_gusts_r6 (List.mem_of_getElem? (i := 8) rfl)
theorem mx_X7_gusts_130 : Cond.instanceMethod yX7_foundNothing ∈ wsX7_gusts := mb_X7_gusts_wsX7_gusts_r6 (List.mem_of_getElem? (i := 9) rfl)
theorem mx_X7_gusts_131 : Cond.selects RX7 yX7_foundNothing yX7_foundNothing ∈ wsX7_gusts := mb_X7_gusts_wsX7_gusts_r6 (List.mem_of_getElem? (i := 10) rfl)
theorem mx_X7_gusts_16 : Cond.initialized RX7 ∈ wsX7_gusts := mb_X7_gusts_wsX7_gusts_r1 (List.mem_of_getElem? (i := 15) rfl)
theorem gX7_gusts_X7_foundNothing : GoodIn wsX7_gusts (wsV RX7 81 RX7 yX7_foundNothing wsX7_foundNothing) := goodIn_app (goodIn_sub (List.forall_mem_cons.mpr ⟨mx_X7_gusts_129, List.forall_mem_cons.mpr ⟨mx_X7_gusts_130, List.forall_mem_cons.mpr ⟨mx_X7_gusts_131, List.forall_mem_cons.mpr ⟨mx_X7_gusts_16, fun _ h_ => absurd h_ List.not_mem_nil⟩⟩⟩⟩) (by decide +kernel)) ggX7_gusts_X7_foundNothing
theorem mx_X7_gusts_17 : Cond.code yX7_isHeard cX7_isHeard 2 (some .boolean) ∈ wsX7_gusts := mb_X7_gusts_wsX7_gusts_r1 (List.mem_of_getElem? (i := 16) rfl)
theorem mx_X7_gusts_18 : Cond.methodLink RX7 65 yX5_isRow ∈ wsX7_gusts := mb_X7_gusts_wsX7_gusts_r1 (List.mem_of_getElem? (i := 17) rfl)
theorem mx_X7_gusts_19 : Cond.static yX5_isRow ∈ wsX7_gusts := mb_X7_gusts_wsX7_gusts_r1 (List.mem_of_getElem? (i := 18) rfl)
theorem mx_X7_gusts_20 : Cond.initialized RX5 ∈ wsX7_gusts := mb_X7_gusts_wsX7_gusts_r1 (List.mem_of_getElem? (i := 19) rfl)
theorem mx_X7_gusts_21 : Cond.code yX5_isRow cX5_isRow 1 (some .boolean) ∈ wsX7_gusts := mb_X7_gusts_wsX7_gusts_r1 (List.mem_of_getElem? (i := 20) rfl)
theorem ggX7_gusts_X7_isHeard : GoodIn wsX7_gusts wsX7_isHeard := goodIn_sub (by unfold wsX7_isHeard; exact List.forall_mem_cons.mpr ⟨mx_X7_gusts_17, List.forall_mem_cons.mpr ⟨mx_X7_gusts_18, List.forall_mem_cons.mpr ⟨mx_X7_gusts_19, List.forall_mem_cons.mpr ⟨mx_X7_gusts_20, List.forall_mem_cons.mpr ⟨mx_X7_gusts_21, fun _ h_ => absurd h_ List.not_mem_nil⟩⟩⟩⟩⟩) (by decide +kernel)
set_option maxRecDepth 20000 in
theorem gX7_gusts_X7_isHeard : GoodIn wsX7_gusts (va_wsS RX7 247 yX7_isHeard wsX7_isHeard) := goodIn_app (goodIn_of _ (by decide +kernel)) ggX7_gusts_X7_isHeard
theorem mx_X7_gusts_56 : Cond.code yX7_reachesThatFit cX7_reachesThatFit 7 (some .int) ∈ wsX7_gusts := mb_X7_gusts_wsX7_gusts_r3 (List.mem_of_getElem? (i := 7) rfl)
theorem mx_X7_gusts_57 : Cond.fieldLink RX7 41 "MillTalk" "trial" "LMillTalk$Level;" ∈ wsX7_gusts := mb_X7_gusts_wsX7_gusts_r3 (List.mem_of_getElem? (i := 8) rfl)
theorem mx_X7_gusts_1 : Cond.fieldLink RX7 26 "MillTalk" "now" "LMillTalk$Level;" ∈ wsX7_gusts := mb_X7_gusts_wsX7_gusts_r1 (List.mem_of_getElem? (i := 0) rfl)
theorem mx_X7_gusts_58 : Cond.fieldLink RX7 204 "MillTalk$Level" "reach" "I" ∈ wsX7_gusts := mb_X7_gusts_wsX7_gusts_r3 (List.mem_of_getElem? (i := 9) rfl)
theorem mx_X7_gusts_59 : Cond.methodLink RX7 128 yX3_becomeLike ∈ wsX7_gusts := mb_X7_gusts_wsX7_gusts_r3 (List.mem_of_getElem? (i := 10) rfl)
theorem mx_X7_gusts_60 : Cond.instanceMethod yX3_becomeLike ∈ wsX7_gusts := mb_X7_gusts_wsX7_gusts_r3 (List.mem_of_getElem? (i := 11) rfl)
theorem mx_X7_gusts_61 : Cond.selects RX3 yX3_becomeLike yX3_becomeLike ∈ wsX7_gusts := mb_X7_gusts_wsX7_gusts_r3 (List.mem_of_getElem? (i := 12) rfl)
theorem mx_X7_gusts_62 : Cond.code yX3_becomeLike cX3_becomeLike 2 none ∈ wsX7_gusts := mb_X7_gusts_wsX7_gusts_r3 (List.mem_of_getElem? (i := 13) rfl)
theorem mx_X7_gusts_63 : Cond.fieldLink RX3 27 "MillTalk$Level" "cells" "I" ∈ wsX7_gusts := mb_X7_gusts_wsX7_gusts_r3 (List.mem_of_getElem? (i := 14) rfl)
theorem mx_X7_gusts_64 : Cond.fieldLink RX3 31 "MillTalk$Level" "mill" "I" ∈ wsX7_gusts := mb_X7_gusts_wsX7_gusts_r3 (List.mem_of_getElem? (i := 15) rfl)
theorem mx_X7_gusts_65 : Cond.fieldLink RX3 34 "MillTalk$Level" "reach" "I" ∈ wsX7_gusts := mb_X7_gusts_wsX7_gusts_r3 (List.mem_of_getElem? (i := 16) rfl)
theorem mx_X7_gusts_66 : Cond.fieldLink RX3 37 "MillTalk$Level" "cap" "I" ∈ wsX7_gusts := mb_X7_gusts_wsX7_gusts_r3 (List.mem_of_getElem? (i := 17) rfl)
theorem mx_X7_gusts_67 : Cond.fieldLink RX3 40 "MillTalk$Level" "hour" "I" ∈ wsX7_gusts := mb_X7_gusts_wsX7_gusts_r3 (List.mem_of_getElem? (i := 18) rfl)
theorem mx_X7_gusts_68 : Cond.fieldLink RX3 43 "MillTalk$Level" "meal" "I" ∈ wsX7_gusts := mb_X7_gusts_wsX7_gusts_r3 (List.mem_of_getElem? (i := 19) rfl)
theorem mx_X7_gusts_69 : Cond.fieldLink RX3 9 "MillTalk$Level" "winds" "[I" ∈ wsX7_gusts := mb_X7_gusts_wsX7_gusts_r3 (List.mem_of_getElem? (i := 20) rfl)
theorem mx_X7_gusts_70 : Cond.methodLink RX3 52 arraycopyName ∈ wsX7_gusts := mb_X7_gusts_wsX7_gusts_r3 (List.mem_of_getElem? (i := 21) rfl)
theorem mx_X7_gusts_71 : Cond.native arraycopyName ∈ wsX7_gusts := mb_X7_gusts_wsX7_gusts_r3 (List.mem_of_getElem? (i := 22) rfl)
theorem mx_X7_gusts_72 : Cond.static arraycopyName ∈ wsX7_gusts := mb_X7_gusts_wsX7_gusts_r3 (List.mem_of_getElem? (i := 23) rfl)
theorem mb_X7_gusts_wsX7_gusts_r4 {w : Cond} (h : w ∈ wsX7_gusts_r4) : w ∈ wsX7_gusts := by unfold wsX7_gusts; exact List.mem_cons_of_mem _ (List.mem_append_left _ (List.mem_append_left _ (List.mem_append_left _ (List.mem_append_right _ (List.mem_append_right _ (List.mem_append_right _ (List.mem_append_left _ (h))))))))
theorem mx_X7_gusts_73 : Cond.initialized "java/lang/System" ∈ wsX7_gusts := mb_X7_gusts_wsX7_gusts_r4 (List.mem_of_getElem? (i := 0) rfl)
theorem mx_X7_gusts_74 : Cond.fieldLink RX3 15 "MillTalk$Level" "kinds" "[I" ∈ wsX7_gusts := mb_X7_gusts_wsX7_gusts_r4 (List.mem_of_getElem? (i := 1) rfl)
theorem mx_X7_gusts_75 : Cond.fieldLink RX3 18 "MillTalk$Level" "places" "[I" ∈ wsX7_gusts := mb_X7_gusts_wsX7_gusts_r4 (List.mem_of_getElem? (i := 2) rfl)
theorem mx_X7_gusts_76 : Cond.fieldLink RX3 21 "MillTalk$Level" "louds" "[I" ∈ wsX7_gusts := mb_X7_gusts_wsX7_gusts_r4 (List.mem_of_getElem? (i := 3) rfl)
theorem mb_X7_gusts_wsX7_gusts_r2 {w : Cond} (h : w ∈ wsX7_gusts_r2) : w ∈ wsX7_gusts := by unfold wsX7_gusts; exact List.mem_cons_of_mem _ (List.mem_append_left _ (List.mem_append_left _ (List.mem_append_left _ (List.mem_append_right _ (List.mem_append_left _ (h))))))
theorem mx_X7_gusts_32 : Cond.fieldLink RX3 24 "MillTalk$Level" "hows" "[I" ∈ wsX7_gusts := mb_X7_gusts_wsX7_gusts_r2 (List.mem_of_getElem? (i := 7) rfl)
theorem mx_X7_gusts_77 : Cond.methodLink RX7 330 yX7_trialFits ∈ wsX7_gusts := mb_X7_gusts_wsX7_gusts_r4 (List.mem_of_getElem? (i := 4) rfl)
theorem mx_X7_gusts_78 : Cond.instanceMethod yX7_trialFits ∈ wsX7_gusts := mb_X7_gusts_wsX7_gusts_r4 (List.mem_of_getElem? (i := 5) rfl)
theorem mx_X7_gusts_79 : Cond.selects RX7 yX7_trialFits yX7_trialFits ∈ wsX7_gusts := mb_X7_gusts_wsX7_gusts_r4 (List.mem_of_getElem? (i := 6) rfl)
theorem mx_X7_gusts_80 : Cond.code yX7_trialFits cX7_trialFits 7 (some .boolean) ∈ wsX7_gusts := mb_X7_gusts_wsX7_gusts_r4 (List.mem_of_getElem? (i := 7) rfl)
theorem mx_X7_gusts_81 : Cond.fieldLink RX7 334 "MillTalk$Level" "places" "[I" ∈ wsX7_gusts := mb_X7_gusts_wsX7_gusts_r4 (List.mem_of_getElem? (i := 8) rfl)
theorem mx_X7_gusts_27 : Cond.fieldLink RX7 10 "MillTalk" "rows" "LMillTalk$Rows;" ∈ wsX7_gusts := mb_X7_gusts_wsX7_gusts_r2 (List.mem_of_getElem? (i := 2) rfl)
theorem mx_X7_gusts_82 : Cond.methodLink RX7 210 yX3_passOnly ∈ wsX7_gusts := mb_X7_gusts_wsX7_gusts_r4 (List.mem_of_getElem? (i := 9) rfl)
theorem mx_X7_gusts_83 : Cond.instanceMethod yX3_passOnly ∈ wsX7_gusts := mb_X7_gusts_wsX7_gusts_r4 (List.mem_of_getElem? (i := 10) rfl)
theorem mx_X7_gusts_84 : Cond.selects RX3 yX3_passOnly yX3_passOnly ∈ wsX7_gusts := mb_X7_gusts_wsX7_gusts_r4 (List.mem_of_getElem? (i := 11) rfl)
theorem mx_X7_gusts_85 : Cond.code yX3_passOnly cX3_passOnly 4 none ∈ wsX7_gusts := mb_X7_gusts_wsX7_gusts_r4 (List.mem_of_getElem? (i := 12) rfl)
theorem mx_X7_gusts_86 : Cond.methodLink RX3 87 yX3_windOn ∈ wsX7_gusts := mb_X7_gusts_wsX7_gusts_r4 (List.mem_of_getElem? (i := 13) rfl)
theorem mx_X7_gusts_87 : Cond.instanceMethod yX3_windOn ∈ wsX7_gusts := mb_X7_gusts_wsX7_gusts_r4 (List.mem_of_getElem? (i := 14) rfl)
theorem mx_X7_gusts_88 : Cond.selects RX3 yX3_windOn yX3_windOn ∈ wsX7_gusts := mb_X7_gusts_wsX7_gusts_r4 (List.mem_of_getElem? (i := 15) rfl)
theorem mx_X7_gusts_89 : Cond.code yX3_windOn cX3_windOn 2 (some .int) ∈ wsX7_gusts := mb_X7_gusts_wsX7_gusts_r4 (List.mem_of_getElem? (i := 16) rfl)
theorem mx_X7_gusts_90 : Cond.methodLink RX3 90 yX3_passSound ∈ wsX7_gusts := mb_X7_gusts_wsX7_gusts_r4 (List.mem_of_getElem? (i := 17) rfl)
theorem mx_X7_gusts_91 : Cond.instanceMethod yX3_passSound ∈ wsX7_gusts := mb_X7_gusts_wsX7_gusts_r4 (List.mem_of_getElem? (i := 18) rfl)
theorem mx_X7_gusts_92 : Cond.selects RX3 yX3_passSound yX3_passSound ∈ wsX7_gusts := mb_X7_gusts_wsX7_gusts_r4 (List.mem_of_getElem? (i := 19) rfl)
theorem mx_X7_gusts_93 : Cond.code yX3_passSound cX3_passSound 5 none ∈ wsX7_gusts := mb_X7_gusts_wsX7_gusts_r4 (List.mem_of_getElem? (i := 20) rfl)
theorem mx_X7_gusts_94 : Cond.methodLink RX3 63 Lib.Math.min.name ∈ wsX7_gusts := mb_X7_gusts_wsX7_gusts_r4 (List.mem_of_getElem? (i := 21) rfl)
theorem mx_X7_gusts_95 : Cond.static Lib.Math.min.name ∈ wsX7_gusts := mb_X7_gusts_wsX7_gusts_r4 (List.mem_of_getElem? (i := 22) rfl)
theorem mx_X7_gusts_96 : Cond.initialized "java/lang/Math" ∈ wsX7_gusts := mb_X7_gusts_wsX7_gusts_r4 (List.mem_of_getElem? (i := 23) rfl)
theorem mb_X7_gusts_wsX7_gusts_r5 {w : Cond} (h : w ∈ wsX7_gusts_r5) : w ∈ wsX7_gusts := by unfold wsX7_gusts; exact List.mem_cons_of_mem _ (List.mem_append_left _ (List.mem_append_left _ (List.mem_append_left _ (List.mem_append_right _ (List.mem_append_right _ (List.mem_append_right _ (List.mem_append_right _ (List.mem_append_left _ (h)))))))))
theorem mx_X7_gusts_97 : Cond.code Lib.Math.min.name Lib.Math.min.code 2 (some .int) ∈ wsX7_gusts := mb_X7_gusts_wsX7_gusts_r5 (List.mem_of_getElem? (i := 0) rfl)
theorem mx_X7_gusts_98 : Cond.methodLink RX3 58 yX3_isLoose ∈ wsX7_gusts := mb_X7_gusts_wsX7_gusts_r5 (List.mem_of_getElem? (i := 1) rfl)
theorem mx_X7_gusts_29 : Cond.instanceMethod yX3_isLoose ∈ wsX7_gusts := mb_X7_gusts_wsX7_gusts_r2 (List.mem_of_getElem? (i := 4) rfl)
theorem mx_X7_gusts_30 : Cond.selects RX3 yX3_isLoose yX3_isLoose ∈ wsX7_gusts := mb_X7_gusts_wsX7_gusts_r2 (List.mem_of_getElem? (i := 5) rfl)
theorem mx_X7_gusts_31 : Cond.code yX3_isLoose cX3_isLoose 2 (some .boolean) ∈ wsX7_gusts := mb_X7_gusts_wsX7_gusts_r2 (List.mem_of_getElem? (i := 6) rfl)
theorem mx_X7_gusts_99 : Cond.methodLink RX3 69 yX3_driftOf ∈ wsX7_gusts := mb_X7_gusts_wsX7_gusts_r5 (List.mem_of_getElem? (i := 2) rfl)
theorem mx_X7_gusts_100 : Cond.instanceMethod yX3_driftOf ∈ wsX7_gusts := mb_X7_gusts_wsX7_gusts_r5 (List.mem_of_getElem? (i := 3) rfl)
theorem mx_X7_gusts_101 : Cond.selects RX3 yX3_driftOf yX3_driftOf ∈ wsX7_gusts := mb_X7_gusts_wsX7_gusts_r5 (List.mem_of_getElem? (i := 4) rfl)
theorem mx_X7_gusts_102 : Cond.code yX3_driftOf cX3_driftOf 4 (some .int) ∈ wsX7_gusts := mb_X7_gusts_wsX7_gusts_r5 (List.mem_of_getElem? (i := 5) rfl)
theorem mx_X7_gusts_103 : Cond.methodLink RX3 72 yX3_loudBehindHour ∈ wsX7_gusts := mb_X7_gusts_wsX7_gusts_r5 (List.mem_of_getElem? (i := 6) rfl)
theorem mx_X7_gusts_104 : Cond.instanceMethod yX3_loudBehindHour ∈ wsX7_gusts := mb_X7_gusts_wsX7_gusts_r5 (List.mem_of_getElem? (i := 7) rfl)
theorem mx_X7_gusts_105 : Cond.selects RX3 yX3_loudBehindHour yX3_loudBehindHour ∈ wsX7_gusts := mb_X7_gusts_wsX7_gusts_r5 (List.mem_of_getElem? (i := 8) rfl)
theorem mx_X7_gusts_106 : Cond.code yX3_loudBehindHour cX3_loudBehindHour 2 (some .int) ∈ wsX7_gusts := mb_X7_gusts_wsX7_gusts_r5 (List.mem_of_getElem? (i := 9) rfl)
theorem mx_X7_gusts_107 : Cond.methodLink RX3 76 yX3_hasCell ∈ wsX7_gusts := mb_X7_gusts_wsX7_gusts_r5 (List.mem_of_getElem? (i := 10) rfl)
theorem mx_X7_gusts_108 : Cond.instanceMethod yX3_hasCell ∈ wsX7_gusts := mb_X7_gusts_wsX7_gusts_r5 (List.mem_of_getElem? (i := 11) rfl)
theorem mx_X7_gusts_109 : Cond.selects RX3 yX3_hasCell yX3_hasCell ∈ wsX7_gusts := mb_X7_gusts_wsX7_gusts_r5 (List.mem_of_getElem? (i := 12) rfl)
theorem mx_X7_gusts_110 : Cond.code yX3_hasCell cX3_hasCell 2 (some .boolean) ∈ wsX7_gusts := mb_X7_gusts_wsX7_gusts_r5 (List.mem_of_getElem? (i := 13) rfl)
theorem mx_X7_gusts_111 : Cond.methodLink RX3 79 yX3_letLoose ∈ wsX7_gusts := mb_X7_gusts_wsX7_gusts_r5 (List.mem_of_getElem? (i := 14) rfl)
theorem mx_X7_gusts_112 : Cond.instanceMethod yX3_letLoose ∈ wsX7_gusts := mb_X7_gusts_wsX7_gusts_r5 (List.mem_of_getElem? (i := 15) rfl)
theorem mx_X7_gusts_113 : Cond.selects RX3 yX3_letLoose yX3_letLoose ∈ wsX7_gusts := mb_X7_gusts_wsX7_gusts_r5 (List.mem_of_getElem? (i := 16) rfl)
theorem mx_X7_gusts_114 : Cond.code yX3_letLoose cX3_letLoose 4 none ∈ wsX7_gusts := mb_X7_gusts_wsX7_gusts_r5 (List.mem_of_getElem? (i := 17) rfl)
theorem mx_X7_gusts_115 : Cond.methodLink RX3 83 yX3_grindsAt ∈ wsX7_gusts := mb_X7_gusts_wsX7_gusts_r5 (List.mem_of_getElem? (i := 18) rfl)
theorem mx_X7_gusts_116 : Cond.instanceMethod yX3_grindsAt ∈ wsX7_gusts := mb_X7_gusts_wsX7_gusts_r5 (List.mem_of_getElem? (i := 19) rfl)
theorem mx_X7_gusts_117 : Cond.selects RX3 yX3_grindsAt yX3_grindsAt ∈ wsX7_gusts := mb_X7_gusts_wsX7_gusts_r5 (List.mem_of_getElem? (i := 20) rfl)
theorem mx_X7_gusts_118 : Cond.code yX3_grindsAt cX3_grindsAt 4 (some .boolean) ∈ wsX7_gusts := mb_X7_gusts_wsX7_gusts_r5 (List.mem_of_getElem? (i := 21) rfl)
theorem mx_X7_gusts_28 : Cond.methodLink RX7 179 yX3_isLoose ∈ wsX7_gusts := mb_X7_gusts_wsX7_gusts_r2 (List.mem_of_getElem? (i := 3) rfl)
theorem mx_X7_gusts_119 : Cond.methodLink RX7 337 yX5_item ∈ wsX7_gusts := mb_X7_gusts_wsX7_gusts_r5 (List.mem_of_getElem? (i := 22) rfl)
theorem mx_X7_gusts_120 : Cond.instanceMethod yX5_item ∈ wsX7_gusts := mb_X7_gusts_wsX7_gusts_r5 (List.mem_of_getElem? (i := 23) rfl)
theorem mx_X7_gusts_121 : Cond.selects RX5 yX5_item yX5_item ∈ wsX7_gusts := mb_X7_gusts_wsX7_gusts_r6 (List.mem_of_getElem? (i := 0) rfl)
theorem mx_X7_gusts_122 : Cond.code yX5_item cX5_item 3 (some .int) ∈ wsX7_gusts := mb_X7_gusts_wsX7_gusts_r6 (List.mem_of_getElem? (i := 1) rfl)
theorem mx_X7_gusts_123 : Cond.fieldLink RX5 13 "MillTalk$Rows" "items" "[[I" ∈ wsX7_gusts := mb_X7_gusts_wsX7_gusts_r6 (List.mem_of_getElem? (i := 2) rfl)
theorem mb_X7_gusts_wsX50 {w : Cond} (h : w ∈ wsX50) : w ∈ wsX7_gusts := by unfold wsX7_gusts; exact List.mem_cons_of_mem _ (List.mem_append_right _ (h))
theorem ggX7_gusts_X7_reachesThatFit : GoodIn wsX7_gusts wsX7_reachesThatFit := goodIn_sub (by unfold wsX7_reachesThatFit; exact List.forall_mem_cons.mpr ⟨mx_X7_gusts_56, List.forall_mem_append.mpr ⟨List.forall_mem_append.mpr ⟨List.forall_mem_append.mpr ⟨List.forall_mem_append.mpr ⟨(by unfold wsX7_reachesThatFit_r1; exact List.forall_mem_cons.mpr ⟨mx_X7_gusts_57, List.forall_mem_cons.mpr ⟨mx_X7_gusts_1, List.forall_mem_cons.mpr ⟨mx_X7_gusts_58, List.forall_mem_cons.mpr ⟨mx_X7_gusts_59, List.forall_mem_cons.mpr ⟨mx_X7_gusts_60, List.forall_mem_cons.mpr ⟨mx_X7_gusts_61, List.forall_mem_cons.mpr ⟨mx_X7_gusts_6, List.forall_mem_cons.mpr ⟨mx_X7_gusts_62, List.forall_mem_cons.mpr ⟨mx_X7_gusts_63, List.forall_mem_cons.mpr ⟨mx_X7_gusts_64, List.forall_mem_cons.mpr ⟨mx_X7_gusts_65, List.forall_mem_cons.mpr ⟨mx_X7_gusts_66, List.forall_mem_cons.mpr ⟨mx_X7_gusts_67, List.forall_mem_cons.mpr ⟨mx_X7_gusts_68, List.forall_mem_cons.mpr ⟨mx_X7_gusts_8, List.forall_mem_cons.mpr ⟨mx_X7_gusts_13, List.forall_mem_cons.mpr ⟨mx_X7_gusts_69, List.forall_mem_cons.mpr ⟨mx_X7_gusts_70, List.forall_mem_cons.mpr ⟨mx_X7_gusts_71, List.forall_mem_cons.mpr ⟨mx_X7_gusts_72, List.forall_mem_cons.mpr ⟨mx_X7_gusts_73, List.forall_mem_cons.mpr ⟨mx_X7_gusts_74, List.forall_mem_cons.mpr ⟨mx_X7_gusts_75, List.forall_mem_cons.mpr ⟨mx_X7_gusts_76, fun _ h_ => absurd h_ List.not_mem_nil⟩⟩⟩⟩⟩⟩⟩⟩⟩⟩⟩⟩⟩⟩⟩⟩⟩⟩⟩⟩⟩⟩⟩⟩), List.forall_mem_append.mpr ⟨(by unfold wsX7_reachesThatFit_r2; exact List.forall_mem_cons.mpr ⟨mx_X7_gusts_32, List.forall_mem_cons.mpr ⟨mx_X7_gusts_77, List.forall_mem_cons.mpr ⟨mx_X7_gusts_78, List.forall_mem_cons.mpr ⟨mx_X7_gusts_79, List.forall_mem_cons.mpr ⟨mx_X7_gusts_16, List.forall_mem_cons.mpr ⟨mx_X7_gusts_80, List.forall_mem_cons.mpr ⟨mx_X7_gusts_81, List.forall_mem_cons.mpr ⟨mx_X7_gusts_27, List.forall_mem_cons.mpr ⟨mx_X7_gusts_82, List.forall_mem_cons.mpr ⟨mx_X7_gusts_83, List.forall_mem_cons.mpr ⟨mx_X7_gusts_84, List.forall_mem_cons.mpr ⟨mx_X7_gusts_85, List.forall_mem_cons.mpr ⟨mx_X7_gusts_86, List.forall_mem_cons.mpr ⟨mx_X7_gusts_87, List.forall_mem_cons.mpr ⟨mx_X7_gusts_88, List.forall_mem_cons.mpr ⟨mx_X7_gusts_89, List.forall_mem_cons.mpr ⟨mx_X7_gusts_90, List.forall_mem_cons.mpr ⟨mx_X7_gusts_91, List.forall_mem_cons.mpr ⟨mx_X7_gusts_92, List.forall_mem_cons.mpr ⟨mx_X7_gusts_93, List.forall_mem_cons.mpr ⟨mx_X7_gusts_94, List.forall_mem_cons.mpr ⟨mx_X7_gusts_95, List.forall_mem_cons.mpr ⟨mx_X7_gusts_96, List.forall_mem_cons.mpr ⟨mx_X7_gusts_97, fun _ h_ => absurd h_ List.not_mem_nil⟩⟩⟩⟩⟩⟩⟩⟩⟩⟩⟩⟩⟩⟩⟩⟩⟩⟩⟩⟩⟩⟩⟩⟩), List.forall_mem_append.mpr ⟨(by unfold wsX7_reachesThatFit_r3; exact List.forall_mem_cons.mpr ⟨mx_X7_gusts_98, List.forall_mem_cons.mpr ⟨mx_X7_gusts_29, List.forall_mem_cons.mpr ⟨mx_X7_gusts_30, List.forall_mem_cons.mpr ⟨mx_X7_gusts_31, List.forall_mem_cons.mpr ⟨mx_X7_gusts_99, List.forall_mem_cons.mpr ⟨mx_X7_gusts_100, List.forall_mem_cons.mpr ⟨mx_X7_gusts_101, List.forall_mem_cons.mpr ⟨mx_X7_gusts_102, List.forall_mem_cons.mpr ⟨mx_X7_gusts_103, List.forall_mem_cons.mpr ⟨mx_X7_gusts_104, List.forall_mem_cons.mpr ⟨mx_X7_gusts_105, List.forall_mem_cons.mpr ⟨mx_X7_gusts_106, List.forall_mem_cons.mpr ⟨mx_X7_gusts_107, List.forall_mem_cons.mpr ⟨mx_X7_gusts_108, List.forall_mem_cons.mpr ⟨mx_X7_gusts_109, List.forall_mem_cons.mpr ⟨mx_X7_gusts_110, List.forall_mem_cons.mpr ⟨mx_X7_gusts_111, List.forall_mem_cons.mpr ⟨mx_X7_gusts_112, List.forall_mem_cons.mpr ⟨mx_X7_gusts_113, List.forall_mem_cons.mpr ⟨mx_X7_gusts_114, List.forall_mem_cons.mpr ⟨mx_X7_gusts_115, List.forall_mem_cons.mpr ⟨mx_X7_gusts_116, List.forall_mem_cons.mpr ⟨mx_X7_gusts_117, List.forall_mem_cons.mpr ⟨mx_X7_gusts_118, fun _ h_ => absurd h_ List.not_mem_nil⟩⟩⟩⟩⟩⟩⟩⟩⟩⟩⟩⟩⟩⟩⟩⟩⟩⟩⟩⟩⟩⟩⟩⟩), (by unfold wsX7_reachesThatFit_r4; exact List.forall_mem_cons.mpr ⟨mx_X7_gusts_28, List.forall_mem_cons.mpr ⟨mx_X7_gusts_119, List.forall_mem_cons.mpr ⟨mx_X7_gusts_120, List.forall_mem_cons.mpr ⟨mx_X7_gusts_121, List.forall_mem_cons.mpr ⟨mx_X7_gusts_20, List.forall_mem_cons.mpr ⟨mx_X7_gusts_122, List.forall_mem_cons.mpr ⟨mx_X7_gusts_123, fun _ h_ => absurd h_ List.not_mem_nil⟩⟩⟩⟩⟩⟩⟩)⟩⟩⟩, (fun _ h_ => mb_X7_gusts_wsX70 h_)⟩, (fun _ h_ => mb_X7_gusts_wsX30 h_)⟩, (fun _ h_ => mb_X7_gusts_wsX50 h_)⟩⟩) (by decide +kernel)
theorem mx_X7_gusts_53 : Cond.methodLink RX7 261 yX7_reachesThatFit ∈ wsX7_gusts := mb_X7_gusts_wsX7_gusts_r3 (List.mem_of_getElem? (i := 4) rfl)
theorem mx_X7_gusts_54 : Cond.instanceMethod yX7_reachesThatFit ∈ wsX7_gusts := mb_X7_gusts_wsX7_gusts_r3 (List.mem_of_getElem? (i := 5) rfl)
theorem mx_X7_gusts_55 : Cond.selects RX7 yX7_reachesThatFit yX7_reachesThatFit ∈ wsX7_gusts := mb_X7_gusts_wsX7_gusts_r3 (List.mem_of_getElem? (i := 6) rfl)
theorem gX7_gusts_X7_reachesThatFit : GoodIn wsX7_gusts (wsV RX7 261 RX7 yX7_reachesThatFit wsX7_reachesThatFit) := goodIn_app (goodIn_sub (List.forall_mem_cons.mpr ⟨mx_X7_gusts_53, List.forall_mem_cons.mpr ⟨mx_X7_gusts_54, List.forall_mem_cons.mpr ⟨mx_X7_gusts_55, List.forall_mem_cons.mpr ⟨mx_X7_gusts_16, fun _ h_ => absurd h_ List.not_mem_nil⟩⟩⟩⟩) (by decide +kernel)) ggX7_gusts_X7_reachesThatFit
theorem mx_X7_gusts_25 : Cond.code yX7_refusalToHear cX7_refusalToHear 6 (some .int) ∈ wsX7_gusts := mb_X7_gusts_wsX7_gusts_r2 (List.mem_of_getElem? (i := 0) rfl)
theorem mx_X7_gusts_26 : Cond.constant RX7 141 (-1000002) ∈ wsX7_gusts := mb_X7_gusts_wsX7_gusts_r2 (List.mem_of_getElem? (i := 1) rfl)
theorem mx_X7_gusts_33 : Cond.methodLink RX7 84 yX5_findingOf ∈ wsX7_gusts := mb_X7_gusts_wsX7_gusts_r2 (List.mem_of_getElem? (i := 8) rfl)
theorem mx_X7_gusts_34 : Cond.instanceMethod yX5_findingOf ∈ wsX7_gusts := mb_X7_gusts_wsX7_gusts_r2 (List.mem_of_getElem? (i := 9) rfl)
theorem mx_X7_gusts_35 : Cond.selects RX5 yX5_findingOf yX5_findingOf ∈ wsX7_gusts := mb_X7_gusts_wsX7_gusts_r2 (List.mem_of_getElem? (i := 10) rfl)
theorem mx_X7_gusts_36 : Cond.code yX5_findingOf cX5_findingOf 4 (some .int) ∈ wsX7_gusts := mb_X7_gusts_wsX7_gusts_r2 (List.mem_of_getElem? (i := 11) rfl)
theorem mx_X7_gusts_37 : Cond.methodLink RX5 29 yX5_isMissing ∈ wsX7_gusts := mb_X7_gusts_wsX7_gusts_r2 (List.mem_of_getElem? (i := 12) rfl)
theorem mx_X7_gusts_38 : Cond.instanceMethod yX5_isMissing ∈ wsX7_gusts := mb_X7_gusts_wsX7_gusts_r2 (List.mem_of_getElem? (i := 13) rfl)
theorem mx_X7_gusts_39 : Cond.selects RX5 yX5_isMissing yX5_isMissing ∈ wsX7_gusts := mb_X7_gusts_wsX7_gusts_r2 (List.mem_of_getElem? (i := 14) rfl)
theorem mx_X7_gusts_40 : Cond.code yX5_isMissing cX5_isMissing 2 (some .boolean) ∈ wsX7_gusts := mb_X7_gusts_wsX7_gusts_r2 (List.mem_of_getElem? (i := 15) rfl)
theorem mx_X7_gusts_41 : Cond.fieldLink RX5 16 "MillTalk$Rows" "lanes" "[I" ∈ wsX7_gusts := mb_X7_gusts_wsX7_gusts_r2 (List.mem_of_getElem? (i := 16) rfl)
theorem mx_X7_gusts_42 : Cond.methodLink RX5 33 yX5_hasPlaces ∈ wsX7_gusts := mb_X7_gusts_wsX7_gusts_r2 (List.mem_of_getElem? (i := 17) rfl)
theorem mx_X7_gusts_43 : Cond.instanceMethod yX5_hasPlaces ∈ wsX7_gusts := mb_X7_gusts_wsX7_gusts_r2 (List.mem_of_getElem? (i := 18) rfl)
theorem mx_X7_gusts_44 : Cond.selects RX5 yX5_hasPlaces yX5_hasPlaces ∈ wsX7_gusts := mb_X7_gusts_wsX7_gusts_r2 (List.mem_of_getElem? (i := 19) rfl)
theorem mx_X7_gusts_45 : Cond.code yX5_hasPlaces cX5_hasPlaces 4 (some .boolean) ∈ wsX7_gusts := mb_X7_gusts_wsX7_gusts_r2 (List.mem_of_getElem? (i := 20) rfl)
theorem mx_X7_gusts_46 : Cond.fieldLink RX5 20 "MillTalk$Rows" "lengths" "[I" ∈ wsX7_gusts := mb_X7_gusts_wsX7_gusts_r2 (List.mem_of_getElem? (i := 21) rfl)
theorem mx_X7_gusts_47 : Cond.methodLink RX7 73 yX7_found ∈ wsX7_gusts := mb_X7_gusts_wsX7_gusts_r2 (List.mem_of_getElem? (i := 22) rfl)
theorem mx_X7_gusts_48 : Cond.instanceMethod yX7_found ∈ wsX7_gusts := mb_X7_gusts_wsX7_gusts_r2 (List.mem_of_getElem? (i := 23) rfl)
theorem mx_X7_gusts_49 : Cond.selects RX7 yX7_found yX7_found ∈ wsX7_gusts := mb_X7_gusts_wsX7_gusts_r3 (List.mem_of_getElem? (i := 0) rfl)
theorem mx_X7_gusts_50 : Cond.code yX7_found cX7_found 2 (some .int) ∈ wsX7_gusts := mb_X7_gusts_wsX7_gusts_r3 (List.mem_of_getElem? (i := 1) rfl)
theorem mx_X7_gusts_52 : Cond.constant RX7 326 (-1000010) ∈ wsX7_gusts := mb_X7_gusts_wsX7_gusts_r3 (List.mem_of_getElem? (i := 3) rfl)
theorem ggX7_gusts_X7_refusalToHear : GoodIn wsX7_gusts wsX7_refusalToHear := goodIn_sub (by unfold wsX7_refusalToHear; exact List.forall_mem_cons.mpr ⟨mx_X7_gusts_25, List.forall_mem_append.mpr ⟨List.forall_mem_append.mpr ⟨List.forall_mem_append.mpr ⟨List.forall_mem_append.mpr ⟨(by unfold wsX7_refusalToHear_r1; exact List.forall_mem_cons.mpr ⟨mx_X7_gusts_1, List.forall_mem_cons.mpr ⟨mx_X7_gusts_26, List.forall_mem_cons.mpr ⟨mx_X7_gusts_27, List.forall_mem_cons.mpr ⟨mx_X7_gusts_28, List.forall_mem_cons.mpr ⟨mx_X7_gusts_29, List.forall_mem_cons.mpr ⟨mx_X7_gusts_30, List.forall_mem_cons.mpr ⟨mx_X7_gusts_6, List.forall_mem_cons.mpr ⟨mx_X7_gusts_31, List.forall_mem_cons.mpr ⟨mx_X7_gusts_32, List.forall_mem_cons.mpr ⟨mx_X7_gusts_33, List.forall_mem_cons.mpr ⟨mx_X7_gusts_34, List.forall_mem_cons.mpr ⟨mx_X7_gusts_35, List.forall_mem_cons.mpr ⟨mx_X7_gusts_20, List.forall_mem_cons.mpr ⟨mx_X7_gusts_36, List.forall_mem_cons.mpr ⟨mx_X7_gusts_37, List.forall_mem_cons.mpr ⟨mx_X7_gusts_38, List.forall_mem_cons.mpr ⟨mx_X7_gusts_39, List.forall_mem_cons.mpr ⟨mx_X7_gusts_40, List.forall_mem_cons.mpr ⟨mx_X7_gusts_41, List.forall_mem_cons.mpr ⟨mx_X7_gusts_42, List.forall_mem_cons.mpr ⟨mx_X7_gusts_43, List.forall_mem_cons.mpr ⟨mx_X7_gusts_44, List.forall_mem_cons.mpr ⟨mx_X7_gusts_45, List.forall_mem_cons.mpr ⟨mx_X7_gusts_46, fun _ h_ => absurd h_ List.not_mem_nil⟩⟩⟩⟩⟩⟩⟩⟩⟩⟩⟩⟩⟩⟩⟩⟩⟩⟩⟩⟩⟩⟩⟩⟩), (by unfold wsX7_refusalToHear_r2; exact List.forall_mem_cons.mpr ⟨mx_X7_gusts_47, List.forall_mem_cons.mpr ⟨mx_X7_gusts_48, List.forall_mem_cons.mpr ⟨mx_X7_gusts_49, List.forall_mem_cons.mpr ⟨mx_X7_gusts_16, List.forall_mem_cons.mpr ⟨mx_X7_gusts_50, List.forall_mem_cons.mpr ⟨mx_X7_gusts_51, List.forall_mem_cons.mpr ⟨mx_X7_gusts_52, fun _ h_ => absurd h_ List.not_mem_nil⟩⟩⟩⟩⟩⟩⟩)⟩, (fun _ h_ => mb_X7_gusts_wsX70 h_)⟩, (fun _ h_ => mb_X7_gusts_wsX30 h_)⟩, (fun _ h_ => mb_X7_gusts_wsX50 h_)⟩⟩) (by decide +kernel)
theorem mx_X7_gusts_22 : Cond.methodLink RX7 251 yX7_refusalToHear ∈ wsX7_gusts := mb_X7_gusts_wsX7_gusts_r1 (List.mem_of_getElem? (i := 21) rfl)
theorem mx_X7_gusts_23 : Cond.instanceMethod yX7_refusalToHear ∈ wsX7_gusts := mb_X7_gusts_wsX7_gusts_r1 (List.mem_of_getElem? (i := 22) rfl)
theorem mx_X7_gusts_24 : Cond.selects RX7 yX7_refusalToHear yX7_refusalToHear ∈ wsX7_gusts := mb_X7_gusts_wsX7_gusts_r1 (List.mem_of_getElem? (i := 23) rfl)
theorem gX7_gusts_X7_refusalToHear : GoodIn wsX7_gusts (wsV RX7 251 RX7 yX7_refusalToHear wsX7_refusalToHear) := goodIn_app (goodIn_sub (List.forall_mem_cons.mpr ⟨mx_X7_gusts_22, List.forall_mem_cons.mpr ⟨mx_X7_gusts_23, List.forall_mem_cons.mpr ⟨mx_X7_gusts_24, List.forall_mem_cons.mpr ⟨mx_X7_gusts_16, fun _ h_ => absurd h_ List.not_mem_nil⟩⟩⟩⟩) (by decide +kernel)) ggX7_gusts_X7_refusalToHear
theorem mx_X7_gusts_127 : Cond.code yX7_windsThatFit cX7_windsThatFit 8 (some .int) ∈ wsX7_gusts := mb_X7_gusts_wsX7_gusts_r6 (List.mem_of_getElem? (i := 6) rfl)
theorem mx_X7_gusts_128 : Cond.fieldLink RX7 169 "MillTalk$Level" "winds" "[I" ∈ wsX7_gusts := mb_X7_gusts_wsX7_gusts_r6 (List.mem_of_getElem? (i := 7) rfl)
theorem ggX7_gusts_X7_windsThatFit : GoodIn wsX7_gusts wsX7_windsThatFit := goodIn_sub (by unfold wsX7_windsThatFit; exact List.forall_mem_cons.mpr ⟨mx_X7_gusts_127, List.forall_mem_append.mpr ⟨List.forall_mem_append.mpr ⟨List.forall_mem_append.mpr ⟨List.forall_mem_append.mpr ⟨(by unfold wsX7_windsThatFit_r1; exact List.forall_mem_cons.mpr ⟨mx_X7_gusts_57, List.forall_mem_cons.mpr ⟨mx_X7_gusts_1, List.forall_mem_cons.mpr ⟨mx_X7_gusts_128, List.forall_mem_cons.mpr ⟨mx_X7_gusts_59, List.forall_mem_cons.mpr ⟨mx_X7_gusts_60, List.forall_mem_cons.mpr ⟨mx_X7_gusts_61, List.forall_mem_cons.mpr ⟨mx_X7_gusts_6, List.forall_mem_cons.mpr ⟨mx_X7_gusts_62, List.forall_mem_cons.mpr ⟨mx_X7_gusts_63, List.forall_mem_cons.mpr ⟨mx_X7_gusts_64, List.forall_mem_cons.mpr ⟨mx_X7_gusts_65, List.forall_mem_cons.mpr ⟨mx_X7_gusts_66, List.forall_mem_cons.mpr ⟨mx_X7_gusts_67, List.forall_mem_cons.mpr ⟨mx_X7_gusts_68, List.forall_mem_cons.mpr ⟨mx_X7_gusts_8, List.forall_mem_cons.mpr ⟨mx_X7_gusts_13, List.forall_mem_cons.mpr ⟨mx_X7_gusts_69, List.forall_mem_cons.mpr ⟨mx_X7_gusts_70, List.forall_mem_cons.mpr ⟨mx_X7_gusts_71, List.forall_mem_cons.mpr ⟨mx_X7_gusts_72, List.forall_mem_cons.mpr ⟨mx_X7_gusts_73, List.forall_mem_cons.mpr ⟨mx_X7_gusts_74, List.forall_mem_cons.mpr ⟨mx_X7_gusts_75, List.forall_mem_cons.mpr ⟨mx_X7_gusts_76, fun _ h_ => absurd h_ List.not_mem_nil⟩⟩⟩⟩⟩⟩⟩⟩⟩⟩⟩⟩⟩⟩⟩⟩⟩⟩⟩⟩⟩⟩⟩⟩), List.forall_mem_append.mpr ⟨(by unfold wsX7_windsThatFit_r2; exact List.forall_mem_cons.mpr ⟨mx_X7_gusts_32, List.forall_mem_cons.mpr ⟨mx_X7_gusts_77, List.forall_mem_cons.mpr ⟨mx_X7_gusts_78, List.forall_mem_cons.mpr ⟨mx_X7_gusts_79, List.forall_mem_cons.mpr ⟨mx_X7_gusts_16, List.forall_mem_cons.mpr ⟨mx_X7_gusts_80, List.forall_mem_cons.mpr ⟨mx_X7_gusts_81, List.forall_mem_cons.mpr ⟨mx_X7_gusts_27, List.forall_mem_cons.mpr ⟨mx_X7_gusts_82, List.forall_mem_cons.mpr ⟨mx_X7_gusts_83, List.forall_mem_cons.mpr ⟨mx_X7_gusts_84, List.forall_mem_cons.mpr ⟨mx_X7_gusts_85, List.forall_mem_cons.mpr ⟨mx_X7_gusts_86, List.forall_mem_cons.mpr ⟨mx_X7_gusts_87, List.forall_mem_cons.mpr ⟨mx_X7_gusts_88, List.forall_mem_cons.mpr ⟨mx_X7_gusts_89, List.forall_mem_cons.mpr ⟨mx_X7_gusts_90, List.forall_mem_cons.mpr ⟨mx_X7_gusts_91, List.forall_mem_cons.mpr ⟨mx_X7_gusts_92, List.forall_mem_cons.mpr ⟨mx_X7_gusts_93, List.forall_mem_cons.mpr ⟨mx_X7_gusts_94, List.forall_mem_cons.mpr ⟨mx_X7_gusts_95, List.forall_mem_cons.mpr ⟨mx_X7_gusts_96, List.forall_mem_cons.mpr ⟨mx_X7_gusts_97, fun _ h_ => absurd h_ List.not_mem_nil⟩⟩⟩⟩⟩⟩⟩⟩⟩⟩⟩⟩⟩⟩⟩⟩⟩⟩⟩⟩⟩⟩⟩⟩), List.forall_mem_append.mpr ⟨(by unfold wsX7_windsThatFit_r3; exact List.forall_mem_cons.mpr ⟨mx_X7_gusts_98, List.forall_mem_cons.mpr ⟨mx_X7_gusts_29, List.forall_mem_cons.mpr ⟨mx_X7_gusts_30, List.forall_mem_cons.mpr ⟨mx_X7_gusts_31, List.forall_mem_cons.mpr ⟨mx_X7_gusts_99, List.forall_mem_cons.mpr ⟨mx_X7_gusts_100, List.forall_mem_cons.mpr ⟨mx_X7_gusts_101, List.forall_mem_cons.mpr ⟨mx_X7_gusts_102, List.forall_mem_cons.mpr ⟨mx_X7_gusts_103, List.forall_mem_cons.mpr ⟨mx_X7_gusts_104, List.forall_mem_cons.mpr ⟨mx_X7_gusts_105, List.forall_mem_cons.mpr ⟨mx_X7_gusts_106, List.forall_mem_cons.mpr ⟨mx_X7_gusts_107, List.forall_mem_cons.mpr ⟨mx_X7_gusts_108, List.forall_mem_cons.mpr ⟨mx_X7_gusts_109, List.forall_mem_cons.mpr ⟨mx_X7_gusts_110, List.forall_mem_cons.mpr ⟨mx_X7_gusts_111, List.forall_mem_cons.mpr ⟨mx_X7_gusts_112, List.forall_mem_cons.mpr ⟨mx_X7_gusts_113, List.forall_mem_cons.mpr ⟨mx_X7_gusts_114, List.forall_mem_cons.mpr ⟨mx_X7_gusts_115, List.forall_mem_cons.mpr ⟨mx_X7_gusts_116, List.forall_mem_cons.mpr ⟨mx_X7_gusts_117, List.forall_mem_cons.mpr ⟨mx_X7_gusts_118, fun _ h_ => absurd h_ List.not_mem_nil⟩⟩⟩⟩⟩⟩⟩⟩⟩⟩⟩⟩⟩⟩⟩⟩⟩⟩⟩⟩⟩⟩⟩⟩), (by unfold wsX7_windsThatFit_r4; exact List.forall_mem_cons.mpr ⟨mx_X7_gusts_28, List.forall_mem_cons.mpr ⟨mx_X7_gusts_119, List.forall_mem_cons.mpr ⟨mx_X7_gusts_120, List.forall_mem_cons.mpr ⟨mx_X7_gusts_121, List.forall_mem_cons.mpr ⟨mx_X7_gusts_20, List.forall_mem_cons.mpr ⟨mx_X7_gusts_122, List.forall_mem_cons.mpr ⟨mx_X7_gusts_123, fun _ h_ => absurd h_ List.not_mem_nil⟩⟩⟩⟩⟩⟩⟩)⟩⟩⟩, (fun _ h_ => mb_X7_gusts_wsX70 h_)⟩, (fun _ h_ => mb_X7_gusts_wsX30 h_)⟩, (fun _ h_ => mb_X7_gusts_wsX50 h_)⟩⟩) (by decide +kernel)
theorem mx_X7_gusts_124 : Cond.methodLink RX7 264 yX7_windsThatFit ∈ wsX7_gusts := mb_X7_gusts_wsX7_gusts_r6 (List.mem_of_getElem? (i := 3) rfl)
theorem mx_X7_gusts_125 : Cond.instanceMethod yX7_windsThatFit ∈ wsX7_gusts := mb_X7_gusts_wsX7_gusts_r6 (List.mem_of_getElem? (i := 4) rfl)
theorem mx_X7_gusts_126 : Cond.selects RX7 yX7_windsThatFit yX7_windsThatFit ∈ wsX7_gusts := mb_X7_gusts_wsX7_gusts_r6 (List.mem_of_getElem? (i := 5) rfl)
theorem gX7_gusts_X7_windsThatFit : GoodIn wsX7_gusts (wsV RX7 264 RX7 yX7_windsThatFit wsX7_windsThatFit) := goodIn_app (goodIn_sub (List.forall_mem_cons.mpr ⟨mx_X7_gusts_124, List.forall_mem_cons.mpr ⟨mx_X7_gusts_125, List.forall_mem_cons.mpr ⟨mx_X7_gusts_126, List.forall_mem_cons.mpr ⟨mx_X7_gusts_16, fun _ h_ => absurd h_ List.not_mem_nil⟩⟩⟩⟩) (by decide +kernel)) ggX7_gusts_X7_windsThatFit
theorem mb_X7_isGroundIfDropped_wsX7_isGroundIfDropped_r1 {w : Cond} (h : w ∈ wsX7_isGroundIfDropped_r1) : w ∈ wsX7_isGroundIfDropped := by unfold wsX7_isGroundIfDropped; exact List.mem_cons_of_mem _ (List.mem_append_left _ (List.mem_append_left _ (List.mem_append_left _ (h))))
theorem mx_X7_isGroundIfDropped_10 : Cond.code yX3_becomeLike cX3_becomeLike 2 none ∈ wsX7_isGroundIfDropped := mb_X7_isGroundIfDropped_wsX7_isGroundIfDropped_r1 (List.mem_of_getElem? (i := 9) rfl)
theorem mx_X7_isGroundIfDropped_11 : Cond.fieldLink RX3 27 "MillTalk$Level" "cells" "I" ∈ wsX7_isGroundIfDropped := mb_X7_isGroundIfDropped_wsX7_isGroundIfDropped_r1 (List.mem_of_getElem? (i := 10) rfl)
theorem mx_X7_isGroundIfDropped_12 : Cond.fieldLink RX3 31 "MillTalk$Level" "mill" "I" ∈ wsX7_isGroundIfDropped := mb_X7_isGroundIfDropped_wsX7_isGroundIfDropped_r1 (List.mem_of_getElem? (i := 11) rfl)
theorem mx_X7_isGroundIfDropped_13 : Cond.fieldLink RX3 34 "MillTalk$Level" "reach" "I" ∈ wsX7_isGroundIfDropped := mb_X7_isGroundIfDropped_wsX7_isGroundIfDropped_r1 (List.mem_of_getElem? (i := 12) rfl)
theorem mx_X7_isGroundIfDropped_14 : Cond.fieldLink RX3 37 "MillTalk$Level" "cap" "I" ∈ wsX7_isGroundIfDropped := mb_X7_isGroundIfDropped_wsX7_isGroundIfDropped_r1 (List.mem_of_getElem? (i := 13) rfl)
theorem mx_X7_isGroundIfDropped_15 : Cond.fieldLink RX3 40 "MillTalk$Level" "hour" "I" ∈ wsX7_isGroundIfDropped := mb_X7_isGroundIfDropped_wsX7_isGroundIfDropped_r1 (List.mem_of_getElem? (i := 14) rfl)
theorem mx_X7_isGroundIfDropped_16 : Cond.fieldLink RX3 43 "MillTalk$Level" "meal" "I" ∈ wsX7_isGroundIfDropped := mb_X7_isGroundIfDropped_wsX7_isGroundIfDropped_r1 (List.mem_of_getElem? (i := 15) rfl)
theorem mx_X7_isGroundIfDropped_17 : Cond.fieldLink RX3 46 "MillTalk$Level" "windCount" "I" ∈ wsX7_isGroundIfDropped := mb_X7_isGroundIfDropped_wsX7_isGroundIfDropped_r1 (List.mem_of_getElem? (i := 16) rfl)
theorem mx_X7_isGroundIfDropped_18 : Cond.fieldLink RX3 49 "MillTalk$Level" "soundCount" "I" ∈ wsX7_isGroundIfDropped := mb_X7_isGroundIfDropped_wsX7_isGroundIfDropped_r1 (List.mem_of_getElem? (i := 17) rfl)
theorem mx_X7_isGroundIfDropped_19 : Cond.fieldLink RX3 9 "MillTalk$Level" "winds" "[I" ∈ wsX7_isGroundIfDropped := mb_X7_isGroundIfDropped_wsX7_isGroundIfDropped_r1 (List.mem_of_getElem? (i := 18) rfl)
theorem mx_X7_isGroundIfDropped_20 : Cond.methodLink RX3 52 arraycopyName ∈ wsX7_isGroundIfDropped := mb_X7_isGroundIfDropped_wsX7_isGroundIfDropped_r1 (List.mem_of_getElem? (i := 19) rfl)
theorem mx_X7_isGroundIfDropped_21 : Cond.native arraycopyName ∈ wsX7_isGroundIfDropped := mb_X7_isGroundIfDropped_wsX7_isGroundIfDropped_r1 (List.mem_of_getElem? (i := 20) rfl)
theorem mx_X7_isGroundIfDropped_22 : Cond.static arraycopyName ∈ wsX7_isGroundIfDropped := mb_X7_isGroundIfDropped_wsX7_isGroundIfDropped_r1 (List.mem_of_getElem? (i := 21) rfl)
theorem mx_X7_isGroundIfDropped_23 : Cond.initialized "java/lang/System" ∈ wsX7_isGroundIfDropped := mb_X7_isGroundIfDropped_wsX7_isGroundIfDropped_r1 (List.mem_of_getElem? (i := 22) rfl)
theorem mx_X7_isGroundIfDropped_24 : Cond.fieldLink RX3 15 "MillTalk$Level" "kinds" "[I" ∈ wsX7_isGroundIfDropped := mb_X7_isGroundIfDropped_wsX7_isGroundIfDropped_r1 (List.mem_of_getElem? (i := 23) rfl)
theorem mb_X7_isGroundIfDropped_wsX7_isGroundIfDropped_r2 {w : Cond} (h : w ∈ wsX7_isGroundIfDropped_r2) : w ∈ wsX7_isGroundIfDropped := by unfold wsX7_isGroundIfDropped; exact List.mem_cons_of_mem _ (List.mem_append_left _ (List.mem_append_left _ (List.mem_append_right _ (List.mem_append_left _ (h)))))
theorem mx_X7_isGroundIfDropped_25 : Cond.fieldLink RX3 18 "MillTalk$Level" "places" "[I" ∈ wsX7_isGroundIfDropped := mb_X7_isGroundIfDropped_wsX7_isGroundIfDropped_r2 (List.mem_of_getElem? (i := 0) rfl)
theorem mx_X7_isGroundIfDropped_26 : Cond.fieldLink RX3 21 "MillTalk$Level" "louds" "[I" ∈ wsX7_isGroundIfDropped := mb_X7_isGroundIfDropped_wsX7_isGroundIfDropped_r2 (List.mem_of_getElem? (i := 1) rfl)
theorem mx_X7_isGroundIfDropped_27 : Cond.fieldLink RX3 24 "MillTalk$Level" "hows" "[I" ∈ wsX7_isGroundIfDropped := mb_X7_isGroundIfDropped_wsX7_isGroundIfDropped_r2 (List.mem_of_getElem? (i := 2) rfl)
theorem mb_X7_isGroundIfDropped_wsX30 {w : Cond} (h : w ∈ wsX30) : w ∈ wsX7_isGroundIfDropped := by unfold wsX7_isGroundIfDropped; exact List.mem_cons_of_mem _ (List.mem_append_right _ (h))
theorem ggX7_isGroundIfDropped_X3_becomeLike : GoodIn wsX7_isGroundIfDropped wsX3_becomeLike := goodIn_sub (by unfold wsX3_becomeLike; exact List.forall_mem_cons.mpr ⟨mx_X7_isGroundIfDropped_10, List.forall_mem_append.mpr ⟨List.forall_mem_cons.mpr ⟨mx_X7_isGroundIfDropped_11, List.forall_mem_cons.mpr ⟨mx_X7_isGroundIfDropped_12, List.forall_mem_cons.mpr ⟨mx_X7_isGroundIfDropped_13, List.forall_mem_cons.mpr ⟨mx_X7_isGroundIfDropped_14, List.forall_mem_cons.mpr ⟨mx_X7_isGroundIfDropped_15, List.forall_mem_cons.mpr ⟨mx_X7_isGroundIfDropped_16, List.forall_mem_cons.mpr ⟨mx_X7_isGroundIfDropped_17, List.forall_mem_cons.mpr ⟨mx_X7_isGroundIfDropped_18, List.forall_mem_cons.mpr ⟨mx_X7_isGroundIfDropped_19, List.forall_mem_cons.mpr ⟨mx_X7_isGroundIfDropped_20, List.forall_mem_cons.mpr ⟨mx_X7_isGroundIfDropped_21, List.forall_mem_cons.mpr ⟨mx_X7_isGroundIfDropped_22, List.forall_mem_cons.mpr ⟨mx_X7_isGroundIfDropped_23, List.forall_mem_cons.mpr ⟨mx_X7_isGroundIfDropped_24, List.forall_mem_cons.mpr ⟨mx_X7_isGroundIfDropped_25, List.forall_mem_cons.mpr ⟨mx_X7_isGroundIfDropped_26, List.forall_mem_cons.mpr ⟨mx_X7_isGroundIfDropped_27, fun _ h_ => absurd h_ List.not_mem_nil⟩⟩⟩⟩⟩⟩⟩⟩⟩⟩⟩⟩⟩⟩⟩⟩⟩, (fun _ h_ => mb_X7_isGroundIfDropped_wsX30 h_)⟩⟩) (by decide +kernel)
theorem mx_X7_isGroundIfDropped_6 : Cond.methodLink RX7 128 yX3_becomeLike ∈ wsX7_isGroundIfDropped := mb_X7_isGroundIfDropped_wsX7_isGroundIfDropped_r1 (List.mem_of_getElem? (i := 5) rfl)
theorem mx_X7_isGroundIfDropped_7 : Cond.instanceMethod yX3_becomeLike ∈ wsX7_isGroundIfDropped := mb_X7_isGroundIfDropped_wsX7_isGroundIfDropped_r1 (List.mem_of_getElem? (i := 6) rfl)
theorem mx_X7_isGroundIfDropped_8 : Cond.selects RX3 yX3_becomeLike yX3_becomeLike ∈ wsX7_isGroundIfDropped := mb_X7_isGroundIfDropped_wsX7_isGroundIfDropped_r1 (List.mem_of_getElem? (i := 7) rfl)
theorem mx_X7_isGroundIfDropped_9 : Cond.initialized RX3 ∈ wsX7_isGroundIfDropped := mb_X7_isGroundIfDropped_wsX7_isGroundIfDropped_r1 (List.mem_of_getElem? (i := 8) rfl)
theorem gX7_isGroundIfDropped_X3_becomeLike : GoodIn wsX7_isGroundIfDropped (wsV RX7 128 RX3 yX3_becomeLike wsX3_becomeLike) := goodIn_app (goodIn_sub (List.forall_mem_cons.mpr ⟨mx_X7_isGroundIfDropped_6, List.forall_mem_cons.mpr ⟨mx_X7_isGroundIfDropped_7, List.forall_mem_cons.mpr ⟨mx_X7_isGroundIfDropped_8, List.forall_mem_cons.mpr ⟨mx_X7_isGroundIfDropped_9, fun _ h_ => absurd h_ List.not_mem_nil⟩⟩⟩⟩) (by decide +kernel)) ggX7_isGroundIfDropped_X3_becomeLike
theorem mx_X7_isGroundIfDropped_31 : Cond.code yX3_passOnly cX3_passOnly 4 none ∈ wsX7_isGroundIfDropped := mb_X7_isGroundIfDropped_wsX7_isGroundIfDropped_r2 (List.mem_of_getElem? (i := 6) rfl)
theorem mx_X7_isGroundIfDropped_32 : Cond.methodLink RX3 87 yX3_windOn ∈ wsX7_isGroundIfDropped := mb_X7_isGroundIfDropped_wsX7_isGroundIfDropped_r2 (List.mem_of_getElem? (i := 7) rfl)
theorem mx_X7_isGroundIfDropped_33 : Cond.instanceMethod yX3_windOn ∈ wsX7_isGroundIfDropped := mb_X7_isGroundIfDropped_wsX7_isGroundIfDropped_r2 (List.mem_of_getElem? (i := 8) rfl)
theorem mx_X7_isGroundIfDropped_34 : Cond.selects RX3 yX3_windOn yX3_windOn ∈ wsX7_isGroundIfDropped := mb_X7_isGroundIfDropped_wsX7_isGroundIfDropped_r2 (List.mem_of_getElem? (i := 9) rfl)
theorem mx_X7_isGroundIfDropped_35 : Cond.code yX3_windOn cX3_windOn 2 (some .int) ∈ wsX7_isGroundIfDropped := mb_X7_isGroundIfDropped_wsX7_isGroundIfDropped_r2 (List.mem_of_getElem? (i := 10) rfl)
theorem mx_X7_isGroundIfDropped_36 : Cond.methodLink RX3 90 yX3_passSound ∈ wsX7_isGroundIfDropped := mb_X7_isGroundIfDropped_wsX7_isGroundIfDropped_r2 (List.mem_of_getElem? (i := 11) rfl)
theorem mx_X7_isGroundIfDropped_37 : Cond.instanceMethod yX3_passSound ∈ wsX7_isGroundIfDropped := mb_X7_isGroundIfDropped_wsX7_isGroundIfDropped_r2 (List.mem_of_getElem? (i := 12) rfl)
theorem mx_X7_isGroundIfDropped_38 : Cond.selects RX3 yX3_passSound yX3_passSound ∈ wsX7_isGroundIfDropped := mb_X7_isGroundIfDropped_wsX7_isGroundIfDropped_r2 (List.mem_of_getElem? (i := 13) rfl)
theorem mx_X7_isGroundIfDropped_39 : Cond.code yX3_passSound cX3_passSound 5 none ∈ wsX7_isGroundIfDropped := mb_X7_isGroundIfDropped_wsX7_isGroundIfDropped_r2 (List.mem_of_getElem? (i := 14) rfl)
theorem mx_X7_isGroundIfDropped_40 : Cond.methodLink RX3 63 Lib.Math.min.name ∈ wsX7_isGroundIfDropped := mb_X7_isGroundIfDropped_wsX7_isGroundIfDropped_r2 (List.mem_of_getElem? (i := 15) rfl)
theorem mx_X7_isGroundIfDropped_41 : Cond.static Lib.Math.min.name ∈ wsX7_isGroundIfDropped := mb_X7_isGroundIfDropped_wsX7_isGroundIfDropped_r2 (List.mem_of_getElem? (i := 16) rfl)
theorem mx_X7_isGroundIfDropped_42 : Cond.initialized "java/lang/Math" ∈ wsX7_isGroundIfDropped := mb_X7_isGroundIfDropped_wsX7_isGroundIfDropped_r2 (List.mem_of_getElem? (i := 17) rfl)
theorem mx_X7_isGroundIfDropped_43 : Cond.code Lib.Math.min.name Lib.Math.min.code 2 (some .int) ∈ wsX7_isGroundIfDropped := mb_X7_isGroundIfDropped_wsX7_isGroundIfDropped_r2 (List.mem_of_getElem? (i := 18) rfl)
theorem mx_X7_isGroundIfDropped_44 : Cond.methodLink RX3 58 yX3_isLoose ∈ wsX7_isGroundIfDropped := mb_X7_isGroundIfDropped_wsX7_isGroundIfDropped_r2 (List.mem_of_getElem? (i := 19) rfl)
theorem mx_X7_isGroundIfDropped_45 : Cond.instanceMethod yX3_isLoose ∈ wsX7_isGroundIfDropped := mb_X7_isGroundIfDropped_wsX7_isGroundIfDropped_r2 (List.mem_of_getElem? (i := 20) rfl)
theorem mx_X7_isGroundIfDropped_46 : Cond.selects RX3 yX3_isLoose yX3_isLoose ∈ wsX7_isGroundIfDropped := mb_X7_isGroundIfDropped_wsX7_isGroundIfDropped_r2 (List.mem_of_getElem? (i := 21) rfl)
theorem mx_X7_isGroundIfDropped_47 : Cond.code yX3_isLoose cX3_isLoose 2 (some .boolean) ∈ wsX7_isGroundIfDropped := mb_X7_isGroundIfDropped_wsX7_isGroundIfDropped_r2 (List.mem_of_getElem? (i := 22) rfl)
theorem mx_X7_isGroundIfDropped_48 : Cond.methodLink RX3 69 yX3_driftOf ∈ wsX7_isGroundIfDropped := mb_X7_isGroundIfDropped_wsX7_isGroundIfDropped_r2 (List.mem_of_getElem? (i := 23) rfl)
theorem mb_X7_isGroundIfDropped_wsX7_isGroundIfDropped_r3 {w : Cond} (h : w ∈ wsX7_isGroundIfDropped_r3) : w ∈ wsX7_isGroundIfDropped := by unfold wsX7_isGroundIfDropped; exact List.mem_cons_of_mem _ (List.mem_append_left _ (List.mem_append_left _ (List.mem_append_right _ (List.mem_append_right _ (h)))))
theorem mx_X7_isGroundIfDropped_49 : Cond.instanceMethod yX3_driftOf ∈ wsX7_isGroundIfDropped := mb_X7_isGroundIfDropped_wsX7_isGroundIfDropped_r3 (List.mem_of_getElem? (i := 0) rfl)
theorem mx_X7_isGroundIfDropped_50 : Cond.selects RX3 yX3_driftOf yX3_driftOf ∈ wsX7_isGroundIfDropped := mb_X7_isGroundIfDropped_wsX7_isGroundIfDropped_r3 (List.mem_of_getElem? (i := 1) rfl)
theorem mx_X7_isGroundIfDropped_51 : Cond.code yX3_driftOf cX3_driftOf 4 (some .int) ∈ wsX7_isGroundIfDropped := mb_X7_isGroundIfDropped_wsX7_isGroundIfDropped_r3 (List.mem_of_getElem? (i := 2) rfl)
theorem mx_X7_isGroundIfDropped_52 : Cond.methodLink RX3 72 yX3_loudBehindHour ∈ wsX7_isGroundIfDropped := mb_X7_isGroundIfDropped_wsX7_isGroundIfDropped_r3 (List.mem_of_getElem? (i := 3) rfl)
theorem mx_X7_isGroundIfDropped_53 : Cond.instanceMethod yX3_loudBehindHour ∈ wsX7_isGroundIfDropped := mb_X7_isGroundIfDropped_wsX7_isGroundIfDropped_r3 (List.mem_of_getElem? (i := 4) rfl)
theorem mx_X7_isGroundIfDropped_54 : Cond.selects RX3 yX3_loudBehindHour yX3_loudBehindHour ∈ wsX7_isGroundIfDropped := mb_X7_isGroundIfDropped_wsX7_isGroundIfDropped_r3 (List.mem_of_getElem? (i := 5) rfl)
theorem mx_X7_isGroundIfDropped_55 : Cond.code yX3_loudBehindHour cX3_loudBehindHour 2 (some .int) ∈ wsX7_isGroundIfDropped := mb_X7_isGroundIfDropped_wsX7_isGroundIfDropped_r3 (List.mem_of_getElem? (i := 6) rfl)
theorem mx_X7_isGroundIfDropped_56 : Cond.methodLink RX3 76 yX3_hasCell ∈ wsX7_isGroundIfDropped := mb_X7_isGroundIfDropped_wsX7_isGroundIfDropped_r3 (List.mem_of_getElem? (i := 7) rfl)
theorem mx_X7_isGroundIfDropped_57 : Cond.instanceMethod yX3_hasCell ∈ wsX7_isGroundIfDropped := mb_X7_isGroundIfDropped_wsX7_isGroundIfDropped_r3 (List.mem_of_getElem? (i := 8) rfl)
theorem mx_X7_isGroundIfDropped_58 : Cond.selects RX3 yX3_hasCell yX3_hasCell ∈ wsX7_isGroundIfDropped := mb_X7_isGroundIfDropped_wsX7_isGroundIfDropped_r3 (List.mem_of_getElem? (i := 9) rfl)
theorem mx_X7_isGroundIfDropped_59 : Cond.code yX3_hasCell cX3_hasCell 2 (some .boolean) ∈ wsX7_isGroundIfDropped := mb_X7_isGroundIfDropped_wsX7_isGroundIfDropped_r3 (List.mem_of_getElem? (i := 10) rfl)
theorem mx_X7_isGroundIfDropped_60 : Cond.methodLink RX3 79 yX3_letLoose ∈ wsX7_isGroundIfDropped := mb_X7_isGroundIfDropped_wsX7_isGroundIfDropped_r3 (List.mem_of_getElem? (i := 11) rfl)
theorem mx_X7_isGroundIfDropped_61 : Cond.instanceMethod yX3_letLoose ∈ wsX7_isGroundIfDropped := mb_X7_isGroundIfDropped_wsX7_isGroundIfDropped_r3 (List.mem_of_getElem? (i := 12) rfl)
theorem mx_X7_isGroundIfDropped_62 : Cond.selects RX3 yX3_letLoose yX3_letLoose ∈ wsX7_isGroundIfDropped := mb_X7_isGroundIfDropped_wsX7_isGroundIfDropped_r3 (List.mem_of_getElem? (i := 13) rfl)
theorem mx_X7_isGroundIfDropped_63 : Cond.code yX3_letLoose cX3_letLoose 4 none ∈ wsX7_isGroundIfDropped := mb_X7_isGroundIfDropped_wsX7_isGroundIfDropped_r3 (List.mem_of_getElem? (i := 14) rfl)
theorem mx_X7_isGroundIfDropped_64 : Cond.methodLink RX3 83 yX3_grindsAt ∈ wsX7_isGroundIfDropped := mb_X7_isGroundIfDropped_wsX7_isGroundIfDropped_r3 (List.mem_of_getElem? (i := 15) rfl)
theorem mx_X7_isGroundIfDropped_65 : Cond.instanceMethod yX3_grindsAt ∈ wsX7_isGroundIfDropped := mb_X7_isGroundIfDropped_wsX7_isGroundIfDropped_r3 (List.mem_of_getElem? (i := 16) rfl)
theorem mx_X7_isGroundIfDropped_66 : Cond.selects RX3 yX3_grindsAt yX3_grindsAt ∈ wsX7_isGroundIfDropped := mb_X7_isGroundIfDropped_wsX7_isGroundIfDropped_r3 (List.mem_of_getElem? (i := 17) rfl)
theorem mx_X7_isGroundIfDropped_67 : Cond.code yX3_grindsAt cX3_grindsAt 4 (some .boolean) ∈ wsX7_isGroundIfDropped := mb_X7_isGroundIfDropped_wsX7_isGroundIfDropped_r3 (List.mem_of_getElem? (i := 18) rfl)
theorem ggX7_isGroundIfDropped_X3_passOnly : GoodIn wsX7_isGroundIfDropped wsX3_passOnly := goodIn_sub (by unfold wsX3_passOnly; exact List.forall_mem_cons.mpr ⟨mx_X7_isGroundIfDropped_31, List.forall_mem_append.mpr ⟨List.forall_mem_append.mpr ⟨(by unfold wsX3_passOnly_r1; exact List.forall_mem_cons.mpr ⟨mx_X7_isGroundIfDropped_15, List.forall_mem_cons.mpr ⟨mx_X7_isGroundIfDropped_32, List.forall_mem_cons.mpr ⟨mx_X7_isGroundIfDropped_33, List.forall_mem_cons.mpr ⟨mx_X7_isGroundIfDropped_34, List.forall_mem_cons.mpr ⟨mx_X7_isGroundIfDropped_9, List.forall_mem_cons.mpr ⟨mx_X7_isGroundIfDropped_35, List.forall_mem_cons.mpr ⟨mx_X7_isGroundIfDropped_17, List.forall_mem_cons.mpr ⟨mx_X7_isGroundIfDropped_19, List.forall_mem_cons.mpr ⟨mx_X7_isGroundIfDropped_36, List.forall_mem_cons.mpr ⟨mx_X7_isGroundIfDropped_37, List.forall_mem_cons.mpr ⟨mx_X7_isGroundIfDropped_38, List.forall_mem_cons.mpr ⟨mx_X7_isGroundIfDropped_39, List.forall_mem_cons.mpr ⟨mx_X7_isGroundIfDropped_25, List.forall_mem_cons.mpr ⟨mx_X7_isGroundIfDropped_27, List.forall_mem_cons.mpr ⟨mx_X7_isGroundIfDropped_16, List.forall_mem_cons.mpr ⟨mx_X7_isGroundIfDropped_40, List.forall_mem_cons.mpr ⟨mx_X7_isGroundIfDropped_41, List.forall_mem_cons.mpr ⟨mx_X7_isGroundIfDropped_42, List.forall_mem_cons.mpr ⟨mx_X7_isGroundIfDropped_43, List.forall_mem_cons.mpr ⟨mx_X7_isGroundIfDropped_44, List.forall_mem_cons.mpr ⟨mx_X7_isGroundIfDropped_45, List.forall_mem_cons.mpr ⟨mx_X7_isGroundIfDropped_46, List.forall_mem_cons.mpr ⟨mx_X7_isGroundIfDropped_47, List.forall_mem_cons.mpr ⟨mx_X7_isGroundIfDropped_48, fun _ h_ => absurd h_ List.not_mem_nil⟩⟩⟩⟩⟩⟩⟩⟩⟩⟩⟩⟩⟩⟩⟩⟩⟩⟩⟩⟩⟩⟩⟩⟩), List.forall_mem_append.mpr ⟨(by unfold wsX3_passOnly_r2; exact List.forall_mem_cons.mpr ⟨mx_X7_isGroundIfDropped_49, List.forall_mem_cons.mpr ⟨mx_X7_isGroundIfDropped_50, List.forall_mem_cons.mpr ⟨mx_X7_isGroundIfDropped_51, List.forall_mem_cons.mpr ⟨mx_X7_isGroundIfDropped_24, List.forall_mem_cons.mpr ⟨mx_X7_isGroundIfDropped_52, List.forall_mem_cons.mpr ⟨mx_X7_isGroundIfDropped_53, List.forall_mem_cons.mpr ⟨mx_X7_isGroundIfDropped_54, List.forall_mem_cons.mpr ⟨mx_X7_isGroundIfDropped_55, List.forall_mem_cons.mpr ⟨mx_X7_isGroundIfDropped_26, List.forall_mem_cons.mpr ⟨mx_X7_isGroundIfDropped_56, List.forall_mem_cons.mpr ⟨mx_X7_isGroundIfDropped_57, List.forall_mem_cons.mpr ⟨mx_X7_isGroundIfDropped_58, List.forall_mem_cons.mpr ⟨mx_X7_isGroundIfDropped_59, List.forall_mem_cons.mpr ⟨mx_X7_isGroundIfDropped_11, List.forall_mem_cons.mpr ⟨mx_X7_isGroundIfDropped_60, List.forall_mem_cons.mpr ⟨mx_X7_isGroundIfDropped_61, List.forall_mem_cons.mpr ⟨mx_X7_isGroundIfDropped_62, List.forall_mem_cons.mpr ⟨mx_X7_isGroundIfDropped_63, List.forall_mem_cons.mpr ⟨mx_X7_isGroundIfDropped_64, List.forall_mem_cons.mpr ⟨mx_X7_isGroundIfDropped_65, List.forall_mem_cons.mpr ⟨mx_X7_isGroundIfDropped_66, List.forall_mem_cons.mpr ⟨mx_X7_isGroundIfDropped_67, List.forall_mem_cons.mpr ⟨mx_X7_isGroundIfDropped_14, List.forall_mem_cons.mpr ⟨mx_X7_isGroundIfDropped_12, fun _ h_ => absurd h_ List.not_mem_nil⟩⟩⟩⟩⟩⟩⟩⟩⟩⟩⟩⟩⟩⟩⟩⟩⟩⟩⟩⟩⟩⟩⟩⟩), (by unfold wsX3_passOnly_r3; exact List.forall_mem_cons.mpr ⟨mx_X7_isGroundIfDropped_13, fun _ h_ => absurd h_ List.not_mem_nil⟩)⟩⟩, (fun _ h_ => mb_X7_isGroundIfDropped_wsX30 h_)⟩⟩) (by decide +kernel)
theorem mx_X7_isGroundIfDropped_28 : Cond.methodLink RX7 210 yX3_passOnly ∈ wsX7_isGroundIfDropped := mb_X7_isGroundIfDropped_wsX7_isGroundIfDropped_r2 (List.mem_of_getElem? (i := 3) rfl)
theorem mx_X7_isGroundIfDropped_29 : Cond.instanceMethod yX3_passOnly ∈ wsX7_isGroundIfDropped := mb_X7_isGroundIfDropped_wsX7_isGroundIfDropped_r2 (List.mem_of_getElem? (i := 4) rfl)
theorem mx_X7_isGroundIfDropped_30 : Cond.selects RX3 yX3_passOnly yX3_passOnly ∈ wsX7_isGroundIfDropped := mb_X7_isGroundIfDropped_wsX7_isGroundIfDropped_r2 (List.mem_of_getElem? (i := 5) rfl)
theorem gX7_isGroundIfDropped_X3_passOnly : GoodIn wsX7_isGroundIfDropped (wsV RX7 210 RX3 yX3_passOnly wsX3_passOnly) := goodIn_app (goodIn_sub (List.forall_mem_cons.mpr ⟨mx_X7_isGroundIfDropped_28, List.forall_mem_cons.mpr ⟨mx_X7_isGroundIfDropped_29, List.forall_mem_cons.mpr ⟨mx_X7_isGroundIfDropped_30, List.forall_mem_cons.mpr ⟨mx_X7_isGroundIfDropped_9, fun _ h_ => absurd h_ List.not_mem_nil⟩⟩⟩⟩) (by decide +kernel)) ggX7_isGroundIfDropped_X3_passOnly
theorem mb_X7_kindsThatFit_wsX7_kindsThatFit_r1 {w : Cond} (h : w ∈ wsX7_kindsThatFit_r1) : w ∈ wsX7_kindsThatFit := by unfold wsX7_kindsThatFit; exact List.mem_cons_of_mem _ (List.mem_append_left _ (List.mem_append_left _ (List.mem_append_left _ (List.mem_append_left _ (h)))))
theorem mx_X7_kindsThatFit_8 : Cond.code yX3_becomeLike cX3_becomeLike 2 none ∈ wsX7_kindsThatFit := mb_X7_kindsThatFit_wsX7_kindsThatFit_r1 (List.mem_of_getElem? (i := 7) rfl)
theorem mx_X7_kindsThatFit_9 : Cond.fieldLink RX3 27 "MillTalk$Level" "cells" "I" ∈ wsX7_kindsThatFit := mb_X7_kindsThatFit_wsX7_kindsThatFit_r1 (List.mem_of_getElem? (i := 8) rfl)
theorem mx_X7_kindsThatFit_10 : Cond.fieldLink RX3 31 "MillTalk$Level" "mill" "I" ∈ wsX7_kindsThatFit := mb_X7_kindsThatFit_wsX7_kindsThatFit_r1 (List.mem_of_getElem? (i := 9) rfl)
theorem mx_X7_kindsThatFit_11 : Cond.fieldLink RX3 34 "MillTalk$Level" "reach" "I" ∈ wsX7_kindsThatFit := mb_X7_kindsThatFit_wsX7_kindsThatFit_r1 (List.mem_of_getElem? (i := 10) rfl)
theorem mx_X7_kindsThatFit_12 : Cond.fieldLink RX3 37 "MillTalk$Level" "cap" "I" ∈ wsX7_kindsThatFit := mb_X7_kindsThatFit_wsX7_kindsThatFit_r1 (List.mem_of_getElem? (i := 11) rfl)
theorem mx_X7_kindsThatFit_13 : Cond.fieldLink RX3 40 "MillTalk$Level" "hour" "I" ∈ wsX7_kindsThatFit := mb_X7_kindsThatFit_wsX7_kindsThatFit_r1 (List.mem_of_getElem? (i := 12) rfl)
theorem mx_X7_kindsThatFit_14 : Cond.fieldLink RX3 43 "MillTalk$Level" "meal" "I" ∈ wsX7_kindsThatFit := mb_X7_kindsThatFit_wsX7_kindsThatFit_r1 (List.mem_of_getElem? (i := 13) rfl)
theorem mx_X7_kindsThatFit_15 : Cond.fieldLink RX3 46 "MillTalk$Level" "windCount" "I" ∈ wsX7_kindsThatFit := mb_X7_kindsThatFit_wsX7_kindsThatFit_r1 (List.mem_of_getElem? (i := 14) rfl)
theorem mx_X7_kindsThatFit_16 : Cond.fieldLink RX3 49 "MillTalk$Level" "soundCount" "I" ∈ wsX7_kindsThatFit := mb_X7_kindsThatFit_wsX7_kindsThatFit_r1 (List.mem_of_getElem? (i := 15) rfl)
theorem mx_X7_kindsThatFit_17 : Cond.fieldLink RX3 9 "MillTalk$Level" "winds" "[I" ∈ wsX7_kindsThatFit := mb_X7_kindsThatFit_wsX7_kindsThatFit_r1 (List.mem_of_getElem? (i := 16) rfl)
theorem mx_X7_kindsThatFit_18 : Cond.methodLink RX3 52 arraycopyName ∈ wsX7_kindsThatFit := mb_X7_kindsThatFit_wsX7_kindsThatFit_r1 (List.mem_of_getElem? (i := 17) rfl)
theorem mx_X7_kindsThatFit_19 : Cond.native arraycopyName ∈ wsX7_kindsThatFit := mb_X7_kindsThatFit_wsX7_kindsThatFit_r1 (List.mem_of_getElem? (i := 18) rfl)
theorem mx_X7_kindsThatFit_20 : Cond.static arraycopyName ∈ wsX7_kindsThatFit := mb_X7_kindsThatFit_wsX7_kindsThatFit_r1 (List.mem_of_getElem? (i := 19) rfl)
theorem mx_X7_kindsThatFit_21 : Cond.initialized "java/lang/System" ∈ wsX7_kindsThatFit := mb_X7_kindsThatFit_wsX7_kindsThatFit_r1 (List.mem_of_getElem? (i := 20) rfl)
theorem mx_X7_kindsThatFit_22 : Cond.fieldLink RX3 15 "MillTalk$Level" "kinds" "[I" ∈ wsX7_kindsThatFit := mb_X7_kindsThatFit_wsX7_kindsThatFit_r1 (List.mem_of_getElem? (i := 21) rfl)
theorem mx_X7_kindsThatFit_23 : Cond.fieldLink RX3 18 "MillTalk$Level" "places" "[I" ∈ wsX7_kindsThatFit := mb_X7_kindsThatFit_wsX7_kindsThatFit_r1 (List.mem_of_getElem? (i := 22) rfl)
theorem mx_X7_kindsThatFit_24 : Cond.fieldLink RX3 21 "MillTalk$Level" "louds" "[I" ∈ wsX7_kindsThatFit := mb_X7_kindsThatFit_wsX7_kindsThatFit_r1 (List.mem_of_getElem? (i := 23) rfl)
theorem mb_X7_kindsThatFit_wsX7_kindsThatFit_r2 {w : Cond} (h : w ∈ wsX7_kindsThatFit_r2) : w ∈ wsX7_kindsThatFit := by unfold wsX7_kindsThatFit; exact List.mem_cons_of_mem _ (List.mem_append_left _ (List.mem_append_left _ (List.mem_append_left _ (List.mem_append_right _ (List.mem_append_left _ (h))))))
theorem mx_X7_kindsThatFit_25 : Cond.fieldLink RX3 24 "MillTalk$Level" "hows" "[I" ∈ wsX7_kindsThatFit := mb_X7_kindsThatFit_wsX7_kindsThatFit_r2 (List.mem_of_getElem? (i := 0) rfl)
theorem mb_X7_kindsThatFit_wsX30 {w : Cond} (h : w ∈ wsX30) : w ∈ wsX7_kindsThatFit := by unfold wsX7_kindsThatFit; exact List.mem_cons_of_mem _ (List.mem_append_left _ (List.mem_append_right _ (h)))
theorem ggX7_kindsThatFit_X3_becomeLike : GoodIn wsX7_kindsThatFit wsX3_becomeLike := goodIn_sub (by unfold wsX3_becomeLike; exact List.forall_mem_cons.mpr ⟨mx_X7_kindsThatFit_8, List.forall_mem_append.mpr ⟨List.forall_mem_cons.mpr ⟨mx_X7_kindsThatFit_9, List.forall_mem_cons.mpr ⟨mx_X7_kindsThatFit_10, List.forall_mem_cons.mpr ⟨mx_X7_kindsThatFit_11, List.forall_mem_cons.mpr ⟨mx_X7_kindsThatFit_12, List.forall_mem_cons.mpr ⟨mx_X7_kindsThatFit_13, List.forall_mem_cons.mpr ⟨mx_X7_kindsThatFit_14, List.forall_mem_cons.mpr ⟨mx_X7_kindsThatFit_15, List.forall_mem_cons.mpr ⟨mx_X7_kindsThatFit_16, List.forall_mem_cons.mpr ⟨mx_X7_kindsThatFit_17, List.forall_mem_cons.mpr ⟨mx_X7_kindsThatFit_18, List.forall_mem_cons.mpr ⟨mx_X7_kindsThatFit_19, List.forall_mem_cons.mpr ⟨mx_X7_kindsThatFit_20, List.forall_mem_cons.mpr ⟨mx_X7_kindsThatFit_21, List.forall_mem_cons.mpr ⟨mx_X7_kindsThatFit_22, List.forall_mem_cons.mpr ⟨mx_X7_kindsThatFit_23, List.forall_mem_cons.mpr ⟨mx_X7_kindsThatFit_24, List.forall_mem_cons.mpr ⟨mx_X7_kindsThatFit_25, fun _ h_ => absurd h_ List.not_mem_nil⟩⟩⟩⟩⟩⟩⟩⟩⟩⟩⟩⟩⟩⟩⟩⟩⟩, (fun _ h_ => mb_X7_kindsThatFit_wsX30 h_)⟩⟩) (by decide +kernel)
theorem mx_X7_kindsThatFit_4 : Cond.methodLink RX7 128 yX3_becomeLike ∈ wsX7_kindsThatFit := mb_X7_kindsThatFit_wsX7_kindsThatFit_r1 (List.mem_of_getElem? (i := 3) rfl)
theorem mx_X7_kindsThatFit_5 : Cond.instanceMethod yX3_becomeLike ∈ wsX7_kindsThatFit := mb_X7_kindsThatFit_wsX7_kindsThatFit_r1 (List.mem_of_getElem? (i := 4) rfl)
theorem mx_X7_kindsThatFit_6 : Cond.selects RX3 yX3_becomeLike yX3_becomeLike ∈ wsX7_kindsThatFit := mb_X7_kindsThatFit_wsX7_kindsThatFit_r1 (List.mem_of_getElem? (i := 5) rfl)
theorem mx_X7_kindsThatFit_7 : Cond.initialized RX3 ∈ wsX7_kindsThatFit := mb_X7_kindsThatFit_wsX7_kindsThatFit_r1 (List.mem_of_getElem? (i := 6) rfl)
theorem gX7_kindsThatFit_X3_becomeLike : GoodIn wsX7_kindsThatFit (wsV RX7 128 RX3 yX3_becomeLike wsX3_becomeLike) := goodIn_app (goodIn_sub (List.forall_mem_cons.mpr ⟨mx_X7_kindsThatFit_4, List.forall_mem_cons.mpr ⟨mx_X7_kindsThatFit_5, List.forall_mem_cons.mpr ⟨mx_X7_kindsThatFit_6, List.forall_mem_cons.mpr ⟨mx_X7_kindsThatFit_7, fun _ h_ => absurd h_ List.not_mem_nil⟩⟩⟩⟩) (by decide +kernel)) ggX7_kindsThatFit_X3_becomeLike
theorem mx_X7_kindsThatFit_30 : Cond.code yX7_trialFits cX7_trialFits 7 (some .boolean) ∈ wsX7_kindsThatFit := mb_X7_kindsThatFit_wsX7_kindsThatFit_r2 (List.mem_of_getElem? (i := 5) rfl)
theorem mx_X7_kindsThatFit_1 : Cond.fieldLink RX7 41 "MillTalk" "trial" "LMillTalk$Level;" ∈ wsX7_kindsThatFit := mb_X7_kindsThatFit_wsX7_kindsThatFit_r1 (List.mem_of_getElem? (i := 0) rfl)
theorem mx_X7_kindsThatFit_31 : Cond.fieldLink RX7 334 "MillTalk$Level" "places" "[I" ∈ wsX7_kindsThatFit := mb_X7_kindsThatFit_wsX7_kindsThatFit_r2 (List.mem_of_getElem? (i := 6) rfl)
theorem mx_X7_kindsThatFit_32 : Cond.fieldLink RX7 10 "MillTalk" "rows" "LMillTalk$Rows;" ∈ wsX7_kindsThatFit := mb_X7_kindsThatFit_wsX7_kindsThatFit_r2 (List.mem_of_getElem? (i := 7) rfl)
theorem mx_X7_kindsThatFit_33 : Cond.methodLink RX7 210 yX3_passOnly ∈ wsX7_kindsThatFit := mb_X7_kindsThatFit_wsX7_kindsThatFit_r2 (List.mem_of_getElem? (i := 8) rfl)
theorem mx_X7_kindsThatFit_34 : Cond.instanceMethod yX3_passOnly ∈ wsX7_kindsThatFit := mb_X7_kindsThatFit_wsX7_kindsThatFit_r2 (List.mem_of_getElem? (i := 9) rfl)
theorem mx_X7_kindsThatFit_35 : Cond.selects RX3 yX3_passOnly yX3_passOnly ∈ wsX7_kindsThatFit := mb_X7_kindsThatFit_wsX7_kindsThatFit_r2 (List.mem_of_getElem? (i := 10) rfl)
theorem mx_X7_kindsThatFit_36 : Cond.code yX3_passOnly cX3_passOnly 4 none ∈ wsX7_kindsThatFit := mb_X7_kindsThatFit_wsX7_kindsThatFit_r2 (List.mem_of_getElem? (i := 11) rfl)
theorem mx_X7_kindsThatFit_37 : Cond.methodLink RX3 87 yX3_windOn ∈ wsX7_kindsThatFit := mb_X7_kindsThatFit_wsX7_kindsThatFit_r2 (List.mem_of_getElem? (i := 12) rfl)
theorem mx_X7_kindsThatFit_38 : Cond.instanceMethod yX3_windOn ∈ wsX7_kindsThatFit := mb_X7_kindsThatFit_wsX7_kindsThatFit_r2 (List.mem_of_getElem? (i := 13) rfl)
theorem mx_X7_kindsThatFit_39 : Cond.selects RX3 yX3_windOn yX3_windOn ∈ wsX7_kindsThatFit := mb_X7_kindsThatFit_wsX7_kindsThatFit_r2 (List.mem_of_getElem? (i := 14) rfl)
theorem mx_X7_kindsThatFit_40 : Cond.code yX3_windOn cX3_windOn 2 (some .int) ∈ wsX7_kindsThatFit := mb_X7_kindsThatFit_wsX7_kindsThatFit_r2 (List.mem_of_getElem? (i := 15) rfl)
theorem mx_X7_kindsThatFit_41 : Cond.methodLink RX3 90 yX3_passSound ∈ wsX7_kindsThatFit := mb_X7_kindsThatFit_wsX7_kindsThatFit_r2 (List.mem_of_getElem? (i := 16) rfl)
theorem mx_X7_kindsThatFit_42 : Cond.instanceMethod yX3_passSound ∈ wsX7_kindsThatFit := mb_X7_kindsThatFit_wsX7_kindsThatFit_r2 (List.mem_of_getElem? (i := 17) rfl)
theorem mx_X7_kindsThatFit_43 : Cond.selects RX3 yX3_passSound yX3_passSound ∈ wsX7_kindsThatFit := mb_X7_kindsThatFit_wsX7_kindsThatFit_r2 (List.mem_of_getElem? (i := 18) rfl)
theorem mx_X7_kindsThatFit_44 : Cond.code yX3_passSound cX3_passSound 5 none ∈ wsX7_kindsThatFit := mb_X7_kindsThatFit_wsX7_kindsThatFit_r2 (List.mem_of_getElem? (i := 19) rfl)
theorem mx_X7_kindsThatFit_45 : Cond.methodLink RX3 63 Lib.Math.min.name ∈ wsX7_kindsThatFit := mb_X7_kindsThatFit_wsX7_kindsThatFit_r2 (List.mem_of_getElem? (i := 20) rfl)
theorem mx_X7_kindsThatFit_46 : Cond.static Lib.Math.min.name ∈ wsX7_kindsThatFit := mb_X7_kindsThatFit_wsX7_kindsThatFit_r2 (List.mem_of_getElem? (i := 21) rfl)
theorem mx_X7_kindsThatFit_47 : Cond.initialized "java/lang/Math" ∈ wsX7_kindsThatFit := mb_X7_kindsThatFit_wsX7_kindsThatFit_r2 (List.mem_of_getElem? (i := 22) rfl)
theorem mx_X7_kindsThatFit_48 : Cond.code Lib.Math.min.name Lib.Math.min.code 2 (some .int) ∈ wsX7_kindsThatFit := mb_X7_kindsThatFit_wsX7_kindsThatFit_r2 (List.mem_of_getElem? (i := 23) rfl)
theorem mb_X7_kindsThatFit_wsX7_kindsThatFit_r3 {w : Cond} (h : w ∈ wsX7_kindsThatFit_r3) : w ∈ wsX7_kindsThatFit := by unfold wsX7_kindsThatFit; exact List.mem_cons_of_mem _ (List.mem_append_left _ (List.mem_append_left _ (List.mem_append_left _ (List.mem_append_right _ (List.mem_append_right _ (List.mem_append_left _ (h)))))))
theorem mx_X7_kindsThatFit_49 : Cond.methodLink RX3 58 yX3_isLoose ∈ wsX7_kindsThatFit := mb_X7_kindsThatFit_wsX7_kindsThatFit_r3 (List.mem_of_getElem? (i := 0) rfl)
theorem mx_X7_kindsThatFit_50 : Cond.instanceMethod yX3_isLoose ∈ wsX7_kindsThatFit := mb_X7_kindsThatFit_wsX7_kindsThatFit_r3 (List.mem_of_getElem? (i := 1) rfl)
theorem mx_X7_kindsThatFit_51 : Cond.selects RX3 yX3_isLoose yX3_isLoose ∈ wsX7_kindsThatFit := mb_X7_kindsThatFit_wsX7_kindsThatFit_r3 (List.mem_of_getElem? (i := 2) rfl)
theorem mx_X7_kindsThatFit_52 : Cond.code yX3_isLoose cX3_isLoose 2 (some .boolean) ∈ wsX7_kindsThatFit := mb_X7_kindsThatFit_wsX7_kindsThatFit_r3 (List.mem_of_getElem? (i := 3) rfl)
theorem mx_X7_kindsThatFit_53 : Cond.methodLink RX3 69 yX3_driftOf ∈ wsX7_kindsThatFit := mb_X7_kindsThatFit_wsX7_kindsThatFit_r3 (List.mem_of_getElem? (i := 4) rfl)
theorem mx_X7_kindsThatFit_54 : Cond.instanceMethod yX3_driftOf ∈ wsX7_kindsThatFit := mb_X7_kindsThatFit_wsX7_kindsThatFit_r3 (List.mem_of_getElem? (i := 5) rfl)
theorem mx_X7_kindsThatFit_55 : Cond.selects RX3 yX3_driftOf yX3_driftOf ∈ wsX7_kindsThatFit := mb_X7_kindsThatFit_wsX7_kindsThatFit_r3 (List.mem_of_getElem? (i := 6) rfl)
theorem mx_X7_kindsThatFit_56 : Cond.code yX3_driftOf cX3_driftOf 4 (some .int) ∈ wsX7_kindsThatFit := mb_X7_kindsThatFit_wsX7_kindsThatFit_r3 (List.mem_of_getElem? (i := 7) rfl)
theorem mx_X7_kindsThatFit_57 : Cond.methodLink RX3 72 yX3_loudBehindHour ∈ wsX7_kindsThatFit := mb_X7_kindsThatFit_wsX7_kindsThatFit_r3 (List.mem_of_getElem? (i := 8) rfl)
theorem mx_X7_kindsThatFit_58 : Cond.instanceMethod yX3_loudBehindHour ∈ wsX7_kindsThatFit := mb_X7_kindsThatFit_wsX7_kindsThatFit_r3 (List.mem_of_getElem? (i := 9) rfl)
theorem mx_X7_kindsThatFit_59 : Cond.selects RX3 yX3_loudBehindHour yX3_loudBehindHour ∈ wsX7_kindsThatFit := mb_X7_kindsThatFit_wsX7_kindsThatFit_r3 (List.mem_of_getElem? (i := 10) rfl)
theorem mx_X7_kindsThatFit_60 : Cond.code yX3_loudBehindHour cX3_loudBehindHour 2 (some .int) ∈ wsX7_kindsThatFit := mb_X7_kindsThatFit_wsX7_kindsThatFit_r3 (List.mem_of_getElem? (i := 11) rfl)
theorem mx_X7_kindsThatFit_61 : Cond.methodLink RX3 76 yX3_hasCell ∈ wsX7_kindsThatFit := mb_X7_kindsThatFit_wsX7_kindsThatFit_r3 (List.mem_of_getElem? (i := 12) rfl)
theorem mx_X7_kindsThatFit_62 : Cond.instanceMethod yX3_hasCell ∈ wsX7_kindsThatFit := mb_X7_kindsThatFit_wsX7_kindsThatFit_r3 (List.mem_of_getElem? (i := 13) rfl)
theorem mx_X7_kindsThatFit_63 : Cond.selects RX3 yX3_hasCell yX3_hasCell ∈ wsX7_kindsThatFit := mb_X7_kindsThatFit_wsX7_kindsThatFit_r3 (List.mem_of_getElem? (i := 14) rfl)
theorem mx_X7_kindsThatFit_64 : Cond.code yX3_hasCell cX3_hasCell 2 (some .boolean) ∈ wsX7_kindsThatFit := mb_X7_kindsThatFit_wsX7_kindsThatFit_r3 (List.mem_of_getElem? (i := 15) rfl)
theorem mx_X7_kindsThatFit_65 : Cond.methodLink RX3 79 yX3_letLoose ∈ wsX7_kindsThatFit := mb_X7_kindsThatFit_wsX7_kindsThatFit_r3 (List.mem_of_getElem? (i := 16) rfl)
theorem mx_X7_kindsThatFit_66 : Cond.instanceMethod yX3_letLoose ∈ wsX7_kindsThatFit := mb_X7_kindsThatFit_wsX7_kindsThatFit_r3 (List.mem_of_getElem? (i := 17) rfl)
theorem mx_X7_kindsThatFit_67 : Cond.selects RX3 yX3_letLoose yX3_letLoose ∈ wsX7_kindsThatFit := mb_X7_kindsThatFit_wsX7_kindsThatFit_r3 (List.mem_of_getElem? (i := 18) rfl)
theorem mx_X7_kindsThatFit_68 : Cond.code yX3_letLoose cX3_letLoose 4 none ∈ wsX7_kindsThatFit := mb_X7_kindsThatFit_wsX7_kindsThatFit_r3 (List.mem_of_getElem? (i := 19) rfl)
theorem mx_X7_kindsThatFit_69 : Cond.methodLink RX3 83 yX3_grindsAt ∈ wsX7_kindsThatFit := mb_X7_kindsThatFit_wsX7_kindsThatFit_r3 (List.mem_of_getElem? (i := 20) rfl)
theorem mx_X7_kindsThatFit_70 : Cond.instanceMethod yX3_grindsAt ∈ wsX7_kindsThatFit := mb_X7_kindsThatFit_wsX7_kindsThatFit_r3 (List.mem_of_getElem? (i := 21) rfl)
theorem mx_X7_kindsThatFit_71 : Cond.selects RX3 yX3_grindsAt yX3_grindsAt ∈ wsX7_kindsThatFit := mb_X7_kindsThatFit_wsX7_kindsThatFit_r3 (List.mem_of_getElem? (i := 22) rfl)
theorem mx_X7_kindsThatFit_72 : Cond.code yX3_grindsAt cX3_grindsAt 4 (some .boolean) ∈ wsX7_kindsThatFit := mb_X7_kindsThatFit_wsX7_kindsThatFit_r3 (List.mem_of_getElem? (i := 23) rfl)
theorem mb_X7_kindsThatFit_wsX7_kindsThatFit_r4 {w : Cond} (h : w ∈ wsX7_kindsThatFit_r4) : w ∈ wsX7_kindsThatFit := by unfold wsX7_kindsThatFit; exact List.mem_cons_of_mem _ (List.mem_append_left _ (List.mem_append_left _ (List.mem_append_left _ (List.mem_append_right _ (List.mem_append_right _ (List.mem_append_right _ (h)))))))
theorem mx_X7_kindsThatFit_73 : Cond.methodLink RX7 179 yX3_isLoose ∈ wsX7_kindsThatFit := mb_X7_kindsThatFit_wsX7_kindsThatFit_r4 (List.mem_of_getElem? (i := 0) rfl)
theorem mx_X7_kindsThatFit_74 : Cond.methodLink RX7 337 yX5_item ∈ wsX7_kindsThatFit := mb_X7_kindsThatFit_wsX7_kindsThatFit_r4 (List.mem_of_getElem? (i := 1) rfl)
theorem mx_X7_kindsThatFit_75 : Cond.instanceMethod yX5_item ∈ wsX7_kindsThatFit := mb_X7_kindsThatFit_wsX7_kindsThatFit_r4 (List.mem_of_getElem? (i := 2) rfl)
theorem mx_X7_kindsThatFit_76 : Cond.selects RX5 yX5_item yX5_item ∈ wsX7_kindsThatFit := mb_X7_kindsThatFit_wsX7_kindsThatFit_r4 (List.mem_of_getElem? (i := 3) rfl)
theorem mx_X7_kindsThatFit_77 : Cond.initialized RX5 ∈ wsX7_kindsThatFit := mb_X7_kindsThatFit_wsX7_kindsThatFit_r4 (List.mem_of_getElem? (i := 4) rfl)
theorem mx_X7_kindsThatFit_78 : Cond.code yX5_item cX5_item 3 (some .int) ∈ wsX7_kindsThatFit := mb_X7_kindsThatFit_wsX7_kindsThatFit_r4 (List.mem_of_getElem? (i := 5) rfl)
theorem mx_X7_kindsThatFit_79 : Cond.fieldLink RX5 13 "MillTalk$Rows" "items" "[[I" ∈ wsX7_kindsThatFit := mb_X7_kindsThatFit_wsX7_kindsThatFit_r4 (List.mem_of_getElem? (i := 6) rfl)
theorem mb_X7_kindsThatFit_wsX70 {w : Cond} (h : w ∈ wsX70) : w ∈ wsX7_kindsThatFit := by unfold wsX7_kindsThatFit; exact List.mem_cons_of_mem _ (List.mem_append_left _ (List.mem_append_left _ (List.mem_append_right _ (h))))
theorem mb_X7_kindsThatFit_wsX50 {w : Cond} (h : w ∈ wsX50) : w ∈ wsX7_kindsThatFit := by unfold wsX7_kindsThatFit; exact List.mem_cons_of_mem _ (List.mem_append_right _ (h))
theorem ggX7_kindsThatFit_X7_trialFits : GoodIn wsX7_kindsThatFit wsX7_trialFits := goodIn_sub (by unfold wsX7_trialFits; exact List.forall_mem_cons.mpr ⟨mx_X7_kindsThatFit_30, List.forall_mem_append.mpr ⟨List.forall_mem_append.mpr ⟨List.forall_mem_append.mpr ⟨List.forall_mem_append.mpr ⟨(by unfold wsX7_trialFits_r1; exact List.forall_mem_cons.mpr ⟨mx_X7_kindsThatFit_1, List.forall_mem_cons.mpr ⟨mx_X7_kindsThatFit_31, List.forall_mem_cons.mpr ⟨mx_X7_kindsThatFit_32, List.forall_mem_cons.mpr ⟨mx_X7_kindsThatFit_33, List.forall_mem_cons.mpr ⟨mx_X7_kindsThatFit_34, List.forall_mem_cons.mpr ⟨mx_X7_kindsThatFit_35, List.forall_mem_cons.mpr ⟨mx_X7_kindsThatFit_7, List.forall_mem_cons.mpr ⟨mx_X7_kindsThatFit_36, List.forall_mem_cons.mpr ⟨mx_X7_kindsThatFit_13, List.forall_mem_cons.mpr ⟨mx_X7_kindsThatFit_37, List.forall_mem_cons.mpr ⟨mx_X7_kindsThatFit_38, List.forall_mem_cons.mpr ⟨mx_X7_kindsThatFit_39, List.forall_mem_cons.mpr ⟨mx_X7_kindsThatFit_40, List.forall_mem_cons.mpr ⟨mx_X7_kindsThatFit_15, List.forall_mem_cons.mpr ⟨mx_X7_kindsThatFit_17, List.forall_mem_cons.mpr ⟨mx_X7_kindsThatFit_41, List.forall_mem_cons.mpr ⟨mx_X7_kindsThatFit_42, List.forall_mem_cons.mpr ⟨mx_X7_kindsThatFit_43, List.forall_mem_cons.mpr ⟨mx_X7_kindsThatFit_44, List.forall_mem_cons.mpr ⟨mx_X7_kindsThatFit_23, List.forall_mem_cons.mpr ⟨mx_X7_kindsThatFit_25, List.forall_mem_cons.mpr ⟨mx_X7_kindsThatFit_14, List.forall_mem_cons.mpr ⟨mx_X7_kindsThatFit_45, List.forall_mem_cons.mpr ⟨mx_X7_kindsThatFit_46, fun _ h_ => absurd h_ List.not_mem_nil⟩⟩⟩⟩⟩⟩⟩⟩⟩⟩⟩⟩⟩⟩⟩⟩⟩⟩⟩⟩⟩⟩⟩⟩), List.forall_mem_append.mpr ⟨(by unfold wsX7_trialFits_r2; exact List.forall_mem_cons.mpr ⟨mx_X7_kindsThatFit_47, List.forall_mem_cons.mpr ⟨mx_X7_kindsThatFit_48, List.forall_mem_cons.mpr ⟨mx_X7_kindsThatFit_49, List.forall_mem_cons.mpr ⟨mx_X7_kindsThatFit_50, List.forall_mem_cons.mpr ⟨mx_X7_kindsThatFit_51, List.forall_mem_cons.mpr ⟨mx_X7_kindsThatFit_52, List.forall_mem_cons.mpr ⟨mx_X7_kindsThatFit_53, List.forall_mem_cons.mpr ⟨mx_X7_kindsThatFit_54, List.forall_mem_cons.mpr ⟨mx_X7_kindsThatFit_55, List.forall_mem_cons.mpr ⟨mx_X7_kindsThatFit_56, List.forall_mem_cons.mpr ⟨mx_X7_kindsThatFit_22, List.forall_mem_cons.mpr ⟨mx_X7_kindsThatFit_57, List.forall_mem_cons.mpr ⟨mx_X7_kindsThatFit_58, List.forall_mem_cons.mpr ⟨mx_X7_kindsThatFit_59, List.forall_mem_cons.mpr ⟨mx_X7_kindsThatFit_60, List.forall_mem_cons.mpr ⟨mx_X7_kindsThatFit_24, List.forall_mem_cons.mpr ⟨mx_X7_kindsThatFit_61, List.forall_mem_cons.mpr ⟨mx_X7_kindsThatFit_62, List.forall_mem_cons.mpr ⟨mx_X7_kindsThatFit_63, List.forall_mem_cons.mpr ⟨mx_X7_kindsThatFit_64, List.forall_mem_cons.mpr ⟨mx_X7_kindsThatFit_9, List.forall_mem_cons.mpr ⟨mx_X7_kindsThatFit_65, List.forall_mem_cons.mpr ⟨mx_X7_kindsThatFit_66, List.forall_mem_cons.mpr ⟨mx_X7_kindsThatFit_67, fun _ h_ => absurd h_ List.not_mem_nil⟩⟩⟩⟩⟩⟩⟩⟩⟩⟩⟩⟩⟩⟩⟩⟩⟩⟩⟩⟩⟩⟩⟩⟩), (by unfold wsX7_trialFits_r3; exact List.forall_mem_cons.mpr ⟨mx_X7_kindsThatFit_68, List.forall_mem_cons.mpr ⟨mx_X7_kindsThatFit_69, List.forall_mem_cons.mpr ⟨mx_X7_kindsThatFit_70, List.forall_mem_cons.mpr ⟨mx_X7_kindsThatFit_71, List.forall_mem_cons.mpr ⟨mx_X7_kindsThatFit_72, List.forall_mem_cons.mpr ⟨mx_X7_kindsThatFit_12, List.forall_mem_cons.mpr ⟨mx_X7_kindsThatFit_10, List.forall_mem_cons.mpr ⟨mx_X7_kindsThatFit_11, List.forall_mem_cons.mpr ⟨mx_X7_kindsThatFit_73, List.forall_mem_cons.mpr ⟨mx_X7_kindsThatFit_74, List.forall_mem_cons.mpr ⟨mx_X7_kindsThatFit_75, List.forall_mem_cons.mpr ⟨mx_X7_kindsThatFit_76, List.forall_mem_cons.mpr ⟨mx_X7_kindsThatFit_77, List.forall_mem_cons.mpr ⟨mx_X7_kindsThatFit_78, List.forall_mem_cons.mpr ⟨mx_X7_kindsThatFit_79, fun _ h_ => absurd h_ List.not_mem_nil⟩⟩⟩⟩⟩⟩⟩⟩⟩⟩⟩⟩⟩⟩⟩)⟩⟩, (fun _ h_ => mb_X7_kindsThatFit_wsX70 h_)⟩, (fun _ h_ => mb_X7_kindsThatFit_wsX30 h_)⟩, (fun _ h_ => mb_X7_kindsThatFit_wsX50 h_)⟩⟩) (by decide +kernel)
theorem mx_X7_kindsThatFit_26 : Cond.methodLink RX7 330 yX7_trialFits ∈ wsX7_kindsThatFit := mb_X7_kindsThatFit_wsX7_kindsThatFit_r2 (List.mem_of_getElem? (i := 1) rfl)
theorem mx_X7_kindsThatFit_27 : Cond.instanceMethod yX7_trialFits ∈ wsX7_kindsThatFit := mb_X7_kindsThatFit_wsX7_kindsThatFit_r2 (List.mem_of_getElem? (i := 2) rfl)
theorem mx_X7_kindsThatFit_28 : Cond.selects RX7 yX7_trialFits yX7_trialFits ∈ wsX7_kindsThatFit := mb_X7_kindsThatFit_wsX7_kindsThatFit_r2 (List.mem_of_getElem? (i := 3) rfl)
theorem mx_X7_kindsThatFit_29 : Cond.initialized RX7 ∈ wsX7_kindsThatFit := mb_X7_kindsThatFit_wsX7_kindsThatFit_r2 (List.mem_of_getElem? (i := 4) rfl)
theorem gX7_kindsThatFit_X7_trialFits : GoodIn wsX7_kindsThatFit (wsV RX7 330 RX7 yX7_trialFits wsX7_trialFits) := goodIn_app (goodIn_sub (List.forall_mem_cons.mpr ⟨mx_X7_kindsThatFit_26, List.forall_mem_cons.mpr ⟨mx_X7_kindsThatFit_27, List.forall_mem_cons.mpr ⟨mx_X7_kindsThatFit_28, List.forall_mem_cons.mpr ⟨mx_X7_kindsThatFit_29, fun _ h_ => absurd h_ List.not_mem_nil⟩⟩⟩⟩) (by decide +kernel)) ggX7_kindsThatFit_X7_trialFits
theorem mb_X7_meal_wsX7_meal_r1 {w : Cond} (h : w ∈ wsX7_meal_r1) : w ∈ wsX7_meal := by unfold wsX7_meal; exact List.mem_cons_of_mem _ (List.mem_append_left _ (List.mem_append_left _ (List.mem_append_left _ (h))))
theorem mx_X7_meal_18 : Cond.code yX3_becomeLike cX3_becomeLike 2 none ∈ wsX7_meal := mb_X7_meal_wsX7_meal_r1 (List.mem_of_getElem? (i := 17) rfl)
theorem mx_X7_meal_10 : Cond.fieldLink RX3 27 "MillTalk$Level" "cells" "I" ∈ wsX7_meal := mb_X7_meal_wsX7_meal_r1 (List.mem_of_getElem? (i := 9) rfl)
theorem mx_X7_meal_19 : Cond.fieldLink RX3 31 "MillTalk$Level" "mill" "I" ∈ wsX7_meal := mb_X7_meal_wsX7_meal_r1 (List.mem_of_getElem? (i := 18) rfl)
theorem mx_X7_meal_20 : Cond.fieldLink RX3 34 "MillTalk$Level" "reach" "I" ∈ wsX7_meal := mb_X7_meal_wsX7_meal_r1 (List.mem_of_getElem? (i := 19) rfl)
theorem mx_X7_meal_21 : Cond.fieldLink RX3 37 "MillTalk$Level" "cap" "I" ∈ wsX7_meal := mb_X7_meal_wsX7_meal_r1 (List.mem_of_getElem? (i := 20) rfl)
theorem mx_X7_meal_22 : Cond.fieldLink RX3 40 "MillTalk$Level" "hour" "I" ∈ wsX7_meal := mb_X7_meal_wsX7_meal_r1 (List.mem_of_getElem? (i := 21) rfl)
theorem mx_X7_meal_23 : Cond.fieldLink RX3 43 "MillTalk$Level" "meal" "I" ∈ wsX7_meal := mb_X7_meal_wsX7_meal_r1 (List.mem_of_getElem? (i := 22) rfl)
theorem mx_X7_meal_24 : Cond.fieldLink RX3 46 "MillTalk$Level" "windCount" "I" ∈ wsX7_meal := mb_X7_meal_wsX7_meal_r1 (List.mem_of_getElem? (i := 23) rfl)
theorem mb_X7_meal_wsX7_meal_r2 {w : Cond} (h : w ∈ wsX7_meal_r2) : w ∈ wsX7_meal := by unfold wsX7_meal; exact List.mem_cons_of_mem _ (List.mem_append_left _ (List.mem_append_left _ (List.mem_append_right _ (List.mem_append_left _ (h)))))
theorem mx_X7_meal_25 : Cond.fieldLink RX3 49 "MillTalk$Level" "soundCount" "I" ∈ wsX7_meal := mb_X7_meal_wsX7_meal_r2 (List.mem_of_getElem? (i := 0) rfl)
theorem mx_X7_meal_26 : Cond.fieldLink RX3 9 "MillTalk$Level" "winds" "[I" ∈ wsX7_meal := mb_X7_meal_wsX7_meal_r2 (List.mem_of_getElem? (i := 1) rfl)
theorem mx_X7_meal_27 : Cond.methodLink RX3 52 arraycopyName ∈ wsX7_meal := mb_X7_meal_wsX7_meal_r2 (List.mem_of_getElem? (i := 2) rfl)
theorem mx_X7_meal_28 : Cond.native arraycopyName ∈ wsX7_meal := mb_X7_meal_wsX7_meal_r2 (List.mem_of_getElem? (i := 3) rfl)
theorem mx_X7_meal_29 : Cond.static arraycopyName ∈ wsX7_meal := mb_X7_meal_wsX7_meal_r2 (List.mem_of_getElem? (i := 4) rfl)
theorem mx_X7_meal_30 : Cond.initialized "java/lang/System" ∈ wsX7_meal := mb_X7_meal_wsX7_meal_r2 (List.mem_of_getElem? (i := 5) rfl)
theorem mx_X7_meal_31 : Cond.fieldLink RX3 15 "MillTalk$Level" "kinds" "[I" ∈ wsX7_meal := mb_X7_meal_wsX7_meal_r2 (List.mem_of_getElem? (i := 6) rfl)
theorem mx_X7_meal_32 : Cond.fieldLink RX3 18 "MillTalk$Level" "places" "[I" ∈ wsX7_meal := mb_X7_meal_wsX7_meal_r2 (List.mem_of_getElem? (i := 7) rfl)
theorem mx_X7_meal_33 : Cond.fieldLink RX3 21 "MillTalk$Level" "louds" "[I" ∈ wsX7_meal := mb_X7_meal_wsX7_meal_r2 (List.mem_of_getElem? (i := 8) rfl)
theorem mx_X7_meal_34 : Cond.fieldLink RX3 24 "MillTalk$Level" "hows" "[I" ∈ wsX7_meal := mb_X7_meal_wsX7_meal_r2 (List.mem_of_getElem? (i := 9) rfl)
theorem mb_X7_meal_wsX30 {w : Cond} (h : w ∈ wsX30) : w ∈ wsX7_meal := by unfold wsX7_meal; exact List.mem_cons_of_mem _ (List.mem_append_right _ (h))
theorem ggX7_meal_X3_becomeLike : GoodIn wsX7_meal wsX3_becomeLike := goodIn_sub (by unfold wsX3_becomeLike; exact List.forall_mem_cons.mpr ⟨mx_X7_meal_18, List.forall_mem_append.mpr ⟨List.forall_mem_cons.mpr ⟨mx_X7_meal_10, List.forall_mem_cons.mpr ⟨mx_X7_meal_19, List.forall_mem_cons.mpr ⟨mx_X7_meal_20, List.forall_mem_cons.mpr ⟨mx_X7_meal_21, List.forall_mem_cons.mpr ⟨mx_X7_meal_22, List.forall_mem_cons.mpr ⟨mx_X7_meal_23, List.forall_mem_cons.mpr ⟨mx_X7_meal_24, List.forall_mem_cons.mpr ⟨mx_X7_meal_25, List.forall_mem_cons.mpr ⟨mx_X7_meal_26, List.forall_mem_cons.mpr ⟨mx_X7_meal_27, List.forall_mem_cons.mpr ⟨mx_X7_meal_28, List.forall_mem_cons.mpr ⟨mx_X7_meal_29, List.forall_mem_cons.mpr ⟨mx_X7_meal_30, List.forall_mem_cons.mpr ⟨mx_X7_meal_31, List.forall_mem_cons.mpr ⟨mx_X7_meal_32, List.forall_mem_cons.mpr ⟨mx_X7_meal_33, List.forall_mem_cons.mpr ⟨mx_X7_meal_34, fun _ h_ => absurd h_ List.not_mem_nil⟩⟩⟩⟩⟩⟩⟩⟩⟩⟩⟩⟩⟩⟩⟩⟩⟩, (fun _ h_ => mb_X7_meal_wsX30 h_)⟩⟩) (by decide +kernel)
theorem mx_X7_meal_15 : Cond.methodLink RX7 128 yX3_becomeLike ∈ wsX7_meal := mb_X7_meal_wsX7_meal_r1 (List.mem_of_getElem? (i := 14) rfl)
theorem mx_X7_meal_16 : Cond.instanceMethod yX3_becomeLike ∈ wsX7_meal := mb_X7_meal_wsX7_meal_r1 (List.mem_of_getElem? (i := 15) rfl)
theorem mx_X7_meal_17 : Cond.selects RX3 yX3_becomeLike yX3_becomeLike ∈ wsX7_meal := mb_X7_meal_wsX7_meal_r1 (List.mem_of_getElem? (i := 16) rfl)
theorem mx_X7_meal_8 : Cond.initialized RX3 ∈ wsX7_meal := mb_X7_meal_wsX7_meal_r1 (List.mem_of_getElem? (i := 7) rfl)
theorem gX7_meal_X3_becomeLike : GoodIn wsX7_meal (wsV RX7 128 RX3 yX3_becomeLike wsX3_becomeLike) := goodIn_app (goodIn_sub (List.forall_mem_cons.mpr ⟨mx_X7_meal_15, List.forall_mem_cons.mpr ⟨mx_X7_meal_16, List.forall_mem_cons.mpr ⟨mx_X7_meal_17, List.forall_mem_cons.mpr ⟨mx_X7_meal_8, fun _ h_ => absurd h_ List.not_mem_nil⟩⟩⟩⟩) (by decide +kernel)) ggX7_meal_X3_becomeLike
theorem mx_X7_meal_9 : Cond.code yX3_isTold cX3_isTold 1 (some .boolean) ∈ wsX7_meal := mb_X7_meal_wsX7_meal_r1 (List.mem_of_getElem? (i := 8) rfl)
theorem ggX7_meal_X3_isTold : GoodIn wsX7_meal wsX3_isTold := goodIn_sub (by unfold wsX3_isTold; exact List.forall_mem_cons.mpr ⟨mx_X7_meal_9, List.forall_mem_append.mpr ⟨List.forall_mem_cons.mpr ⟨mx_X7_meal_10, fun _ h_ => absurd h_ List.not_mem_nil⟩, (fun _ h_ => mb_X7_meal_wsX30 h_)⟩⟩) (by decide +kernel)
theorem mx_X7_meal_5 : Cond.methodLink RX7 145 yX3_isTold ∈ wsX7_meal := mb_X7_meal_wsX7_meal_r1 (List.mem_of_getElem? (i := 4) rfl)
theorem mx_X7_meal_6 : Cond.instanceMethod yX3_isTold ∈ wsX7_meal := mb_X7_meal_wsX7_meal_r1 (List.mem_of_getElem? (i := 5) rfl)
theorem mx_X7_meal_7 : Cond.selects RX3 yX3_isTold yX3_isTold ∈ wsX7_meal := mb_X7_meal_wsX7_meal_r1 (List.mem_of_getElem? (i := 6) rfl)
theorem gX7_meal_X3_isTold : GoodIn wsX7_meal (wsV RX7 145 RX3 yX3_isTold wsX3_isTold) := goodIn_app (goodIn_sub (List.forall_mem_cons.mpr ⟨mx_X7_meal_5, List.forall_mem_cons.mpr ⟨mx_X7_meal_6, List.forall_mem_cons.mpr ⟨mx_X7_meal_7, List.forall_mem_cons.mpr ⟨mx_X7_meal_8, fun _ h_ => absurd h_ List.not_mem_nil⟩⟩⟩⟩) (by decide +kernel)) ggX7_meal_X3_isTold
theorem mx_X7_meal_38 : Cond.code yX3_mealBehind cX3_mealBehind 3 (some .int) ∈ wsX7_meal := mb_X7_meal_wsX7_meal_r2 (List.mem_of_getElem? (i := 13) rfl)
theorem mx_X7_meal_39 : Cond.methodLink RX3 94 yX3_pass ∈ wsX7_meal := mb_X7_meal_wsX7_meal_r2 (List.mem_of_getElem? (i := 14) rfl)
theorem mx_X7_meal_40 : Cond.instanceMethod yX3_pass ∈ wsX7_meal := mb_X7_meal_wsX7_meal_r2 (List.mem_of_getElem? (i := 15) rfl)
theorem mx_X7_meal_41 : Cond.selects RX3 yX3_pass yX3_pass ∈ wsX7_meal := mb_X7_meal_wsX7_meal_r2 (List.mem_of_getElem? (i := 16) rfl)
theorem mx_X7_meal_42 : Cond.code yX3_pass cX3_pass 3 none ∈ wsX7_meal := mb_X7_meal_wsX7_meal_r2 (List.mem_of_getElem? (i := 17) rfl)
theorem mx_X7_meal_43 : Cond.methodLink RX3 87 yX3_windOn ∈ wsX7_meal := mb_X7_meal_wsX7_meal_r2 (List.mem_of_getElem? (i := 18) rfl)
theorem mx_X7_meal_44 : Cond.instanceMethod yX3_windOn ∈ wsX7_meal := mb_X7_meal_wsX7_meal_r2 (List.mem_of_getElem? (i := 19) rfl)
theorem mx_X7_meal_45 : Cond.selects RX3 yX3_windOn yX3_windOn ∈ wsX7_meal := mb_X7_meal_wsX7_meal_r2 (List.mem_of_getElem? (i := 20) rfl)
theorem mx_X7_meal_46 : Cond.code yX3_windOn cX3_windOn 2 (some .int) ∈ wsX7_meal := mb_X7_meal_wsX7_meal_r2 (List.mem_of_getElem? (i := 21) rfl)
theorem mx_X7_meal_47 : Cond.methodLink RX3 90 yX3_passSound ∈ wsX7_meal := mb_X7_meal_wsX7_meal_r2 (List.mem_of_getElem? (i := 22) rfl)
theorem mx_X7_meal_48 : Cond.instanceMethod yX3_passSound ∈ wsX7_meal := mb_X7_meal_wsX7_meal_r2 (List.mem_of_getElem? (i := 23) rfl)
theorem mb_X7_meal_wsX7_meal_r3 {w : Cond} (h : w ∈ wsX7_meal_r3) : w ∈ wsX7_meal := by unfold wsX7_meal; exact List.mem_cons_of_mem _ (List.mem_append_left _ (List.mem_append_left _ (List.mem_append_right _ (List.mem_append_right _ (List.mem_append_left _ (h))))))
theorem mx_X7_meal_49 : Cond.selects RX3 yX3_passSound yX3_passSound ∈ wsX7_meal := mb_X7_meal_wsX7_meal_r3 (List.mem_of_getElem? (i := 0) rfl)
theorem mx_X7_meal_50 : Cond.code yX3_passSound cX3_passSound 5 none ∈ wsX7_meal := mb_X7_meal_wsX7_meal_r3 (List.mem_of_getElem? (i := 1) rfl)
theorem mx_X7_meal_51 : Cond.methodLink RX3 63 Lib.Math.min.name ∈ wsX7_meal := mb_X7_meal_wsX7_meal_r3 (List.mem_of_getElem? (i := 2) rfl)
theorem mx_X7_meal_52 : Cond.static Lib.Math.min.name ∈ wsX7_meal := mb_X7_meal_wsX7_meal_r3 (List.mem_of_getElem? (i := 3) rfl)
theorem mx_X7_meal_53 : Cond.initialized "java/lang/Math" ∈ wsX7_meal := mb_X7_meal_wsX7_meal_r3 (List.mem_of_getElem? (i := 4) rfl)
theorem mx_X7_meal_54 : Cond.code Lib.Math.min.name Lib.Math.min.code 2 (some .int) ∈ wsX7_meal := mb_X7_meal_wsX7_meal_r3 (List.mem_of_getElem? (i := 5) rfl)
theorem mx_X7_meal_55 : Cond.methodLink RX3 58 yX3_isLoose ∈ wsX7_meal := mb_X7_meal_wsX7_meal_r3 (List.mem_of_getElem? (i := 6) rfl)
theorem mx_X7_meal_56 : Cond.instanceMethod yX3_isLoose ∈ wsX7_meal := mb_X7_meal_wsX7_meal_r3 (List.mem_of_getElem? (i := 7) rfl)
theorem mx_X7_meal_57 : Cond.selects RX3 yX3_isLoose yX3_isLoose ∈ wsX7_meal := mb_X7_meal_wsX7_meal_r3 (List.mem_of_getElem? (i := 8) rfl)
theorem mx_X7_meal_58 : Cond.code yX3_isLoose cX3_isLoose 2 (some .boolean) ∈ wsX7_meal := mb_X7_meal_wsX7_meal_r3 (List.mem_of_getElem? (i := 9) rfl)
theorem mx_X7_meal_59 : Cond.methodLink RX3 69 yX3_driftOf ∈ wsX7_meal := mb_X7_meal_wsX7_meal_r3 (List.mem_of_getElem? (i := 10) rfl)
theorem mx_X7_meal_60 : Cond.instanceMethod yX3_driftOf ∈ wsX7_meal := mb_X7_meal_wsX7_meal_r3 (List.mem_of_getElem? (i := 11) rfl)
theorem mx_X7_meal_61 : Cond.selects RX3 yX3_driftOf yX3_driftOf ∈ wsX7_meal := mb_X7_meal_wsX7_meal_r3 (List.mem_of_getElem? (i := 12) rfl)
theorem mx_X7_meal_62 : Cond.code yX3_driftOf cX3_driftOf 4 (some .int) ∈ wsX7_meal := mb_X7_meal_wsX7_meal_r3 (List.mem_of_getElem? (i := 13) rfl)
theorem mx_X7_meal_63 : Cond.methodLink RX3 72 yX3_loudBehindHour ∈ wsX7_meal := mb_X7_meal_wsX7_meal_r3 (List.mem_of_getElem? (i := 14) rfl)
theorem mx_X7_meal_64 : Cond.instanceMethod yX3_loudBehindHour ∈ wsX7_meal := mb_X7_meal_wsX7_meal_r3 (List.mem_of_getElem? (i := 15) rfl)
theorem mx_X7_meal_65 : Cond.selects RX3 yX3_loudBehindHour yX3_loudBehindHour ∈ wsX7_meal := mb_X7_meal_wsX7_meal_r3 (List.mem_of_getElem? (i := 16) rfl)
theorem mx_X7_meal_66 : Cond.code yX3_loudBehindHour cX3_loudBehindHour 2 (some .int) ∈ wsX7_meal := mb_X7_meal_wsX7_meal_r3 (List.mem_of_getElem? (i := 17) rfl)
theorem mx_X7_meal_67 : Cond.methodLink RX3 76 yX3_hasCell ∈ wsX7_meal := mb_X7_meal_wsX7_meal_r3 (List.mem_of_getElem? (i := 18) rfl)
theorem mx_X7_meal_68 : Cond.instanceMethod yX3_hasCell ∈ wsX7_meal := mb_X7_meal_wsX7_meal_r3 (List.mem_of_getElem? (i := 19) rfl)
theorem mx_X7_meal_69 : Cond.selects RX3 yX3_hasCell yX3_hasCell ∈ wsX7_meal := mb_X7_meal_wsX7_meal_r3 (List.mem_of_getElem? (i := 20) rfl)
theorem mx_X7_meal_70 : Cond.code yX3_hasCell cX3_hasCell 2 (some .boolean) ∈ wsX7_meal := mb_X7_meal_wsX7_meal_r3 (List.mem_of_getElem? (i := 21) rfl)
theorem mx_X7_meal_71 : Cond.methodLink RX3 79 yX3_letLoose ∈ wsX7_meal := mb_X7_meal_wsX7_meal_r3 (List.mem_of_getElem? (i := 22) rfl)
theorem mx_X7_meal_72 : Cond.instanceMethod yX3_letLoose ∈ wsX7_meal := mb_X7_meal_wsX7_meal_r3 (List.mem_of_getElem? (i := 23) rfl)
theorem mb_X7_meal_wsX7_meal_r4 {w : Cond} (h : w ∈ wsX7_meal_r4) : w ∈ wsX7_meal := by unfold wsX7_meal; exact List.mem_cons_of_mem _ (List.mem_append_left _ (List.mem_append_left _ (List.mem_append_right _ (List.mem_append_right _ (List.mem_append_right _ (h))))))
theorem mx_X7_meal_73 : Cond.selects RX3 yX3_letLoose yX3_letLoose ∈ wsX7_meal := mb_X7_meal_wsX7_meal_r4 (List.mem_of_getElem? (i := 0) rfl)
theorem mx_X7_meal_74 : Cond.code yX3_letLoose cX3_letLoose 4 none ∈ wsX7_meal := mb_X7_meal_wsX7_meal_r4 (List.mem_of_getElem? (i := 1) rfl)
theorem mx_X7_meal_75 : Cond.methodLink RX3 83 yX3_grindsAt ∈ wsX7_meal := mb_X7_meal_wsX7_meal_r4 (List.mem_of_getElem? (i := 2) rfl)
theorem mx_X7_meal_76 : Cond.instanceMethod yX3_grindsAt ∈ wsX7_meal := mb_X7_meal_wsX7_meal_r4 (List.mem_of_getElem? (i := 3) rfl)
theorem mx_X7_meal_77 : Cond.selects RX3 yX3_grindsAt yX3_grindsAt ∈ wsX7_meal := mb_X7_meal_wsX7_meal_r4 (List.mem_of_getElem? (i := 4) rfl)
theorem mx_X7_meal_78 : Cond.code yX3_grindsAt cX3_grindsAt 4 (some .boolean) ∈ wsX7_meal := mb_X7_meal_wsX7_meal_r4 (List.mem_of_getElem? (i := 5) rfl)
theorem ggX7_meal_X3_mealBehind : GoodIn wsX7_meal wsX3_mealBehind := goodIn_sub (by unfold wsX3_mealBehind; exact List.forall_mem_cons.mpr ⟨mx_X7_meal_38, List.forall_mem_append.mpr ⟨List.forall_mem_append.mpr ⟨(by unfold wsX3_mealBehind_r1; exact List.forall_mem_cons.mpr ⟨mx_X7_meal_23, List.forall_mem_cons.mpr ⟨mx_X7_meal_39, List.forall_mem_cons.mpr ⟨mx_X7_meal_40, List.forall_mem_cons.mpr ⟨mx_X7_meal_41, List.forall_mem_cons.mpr ⟨mx_X7_meal_8, List.forall_mem_cons.mpr ⟨mx_X7_meal_42, List.forall_mem_cons.mpr ⟨mx_X7_meal_25, List.forall_mem_cons.mpr ⟨mx_X7_meal_22, List.forall_mem_cons.mpr ⟨mx_X7_meal_43, List.forall_mem_cons.mpr ⟨mx_X7_meal_44, List.forall_mem_cons.mpr ⟨mx_X7_meal_45, List.forall_mem_cons.mpr ⟨mx_X7_meal_46, List.forall_mem_cons.mpr ⟨mx_X7_meal_24, List.forall_mem_cons.mpr ⟨mx_X7_meal_26, List.forall_mem_cons.mpr ⟨mx_X7_meal_47, List.forall_mem_cons.mpr ⟨mx_X7_meal_48, List.forall_mem_cons.mpr ⟨mx_X7_meal_49, List.forall_mem_cons.mpr ⟨mx_X7_meal_50, List.forall_mem_cons.mpr ⟨mx_X7_meal_32, List.forall_mem_cons.mpr ⟨mx_X7_meal_34, List.forall_mem_cons.mpr ⟨mx_X7_meal_51, List.forall_mem_cons.mpr ⟨mx_X7_meal_52, List.forall_mem_cons.mpr ⟨mx_X7_meal_53, List.forall_mem_cons.mpr ⟨mx_X7_meal_54, fun _ h_ => absurd h_ List.not_mem_nil⟩⟩⟩⟩⟩⟩⟩⟩⟩⟩⟩⟩⟩⟩⟩⟩⟩⟩⟩⟩⟩⟩⟩⟩), List.forall_mem_append.mpr ⟨(by unfold wsX3_mealBehind_r2; exact List.forall_mem_cons.mpr ⟨mx_X7_meal_55, List.forall_mem_cons.mpr ⟨mx_X7_meal_56, List.forall_mem_cons.mpr ⟨mx_X7_meal_57, List.forall_mem_cons.mpr ⟨mx_X7_meal_58, List.forall_mem_cons.mpr ⟨mx_X7_meal_59, List.forall_mem_cons.mpr ⟨mx_X7_meal_60, List.forall_mem_cons.mpr ⟨mx_X7_meal_61, List.forall_mem_cons.mpr ⟨mx_X7_meal_62, List.forall_mem_cons.mpr ⟨mx_X7_meal_31, List.forall_mem_cons.mpr ⟨mx_X7_meal_63, List.forall_mem_cons.mpr ⟨mx_X7_meal_64, List.forall_mem_cons.mpr ⟨mx_X7_meal_65, List.forall_mem_cons.mpr ⟨mx_X7_meal_66, List.forall_mem_cons.mpr ⟨mx_X7_meal_33, List.forall_mem_cons.mpr ⟨mx_X7_meal_67, List.forall_mem_cons.mpr ⟨mx_X7_meal_68, List.forall_mem_cons.mpr ⟨mx_X7_meal_69, List.forall_mem_cons.mpr ⟨mx_X7_meal_70, List.forall_mem_cons.mpr ⟨mx_X7_meal_10, List.forall_mem_cons.mpr ⟨mx_X7_meal_71, List.forall_mem_cons.mpr ⟨mx_X7_meal_72, List.forall_mem_cons.mpr ⟨mx_X7_meal_73, List.forall_mem_cons.mpr ⟨mx_X7_meal_74, List.forall_mem_cons.mpr ⟨mx_X7_meal_75, fun _ h_ => absurd h_ List.not_mem_nil⟩⟩⟩⟩⟩⟩⟩⟩⟩⟩⟩⟩⟩⟩⟩⟩⟩⟩⟩⟩⟩⟩⟩⟩), (by unfold wsX3_mealBehind_r3; exact List.forall_mem_cons.mpr ⟨mx_X7_meal_76, List.forall_mem_cons.mpr ⟨mx_X7_meal_77, List.forall_mem_cons.mpr ⟨mx_X7_meal_78, List.forall_mem_cons.mpr ⟨mx_X7_meal_21, List.forall_mem_cons.mpr ⟨mx_X7_meal_19, List.forall_mem_cons.mpr ⟨mx_X7_meal_20, fun _ h_ => absurd h_ List.not_mem_nil⟩⟩⟩⟩⟩⟩)⟩⟩, (fun _ h_ => mb_X7_meal_wsX30 h_)⟩⟩) (by decide +kernel)
theorem mx_X7_meal_35 : Cond.methodLink RX7 214 yX3_mealBehind ∈ wsX7_meal := mb_X7_meal_wsX7_meal_r2 (List.mem_of_getElem? (i := 10) rfl)
theorem mx_X7_meal_36 : Cond.instanceMethod yX3_mealBehind ∈ wsX7_meal := mb_X7_meal_wsX7_meal_r2 (List.mem_of_getElem? (i := 11) rfl)
theorem mx_X7_meal_37 : Cond.selects RX3 yX3_mealBehind yX3_mealBehind ∈ wsX7_meal := mb_X7_meal_wsX7_meal_r2 (List.mem_of_getElem? (i := 12) rfl)
theorem gX7_meal_X3_mealBehind : GoodIn wsX7_meal (wsV RX7 214 RX3 yX3_mealBehind wsX3_mealBehind) := goodIn_app (goodIn_sub (List.forall_mem_cons.mpr ⟨mx_X7_meal_35, List.forall_mem_cons.mpr ⟨mx_X7_meal_36, List.forall_mem_cons.mpr ⟨mx_X7_meal_37, List.forall_mem_cons.mpr ⟨mx_X7_meal_8, fun _ h_ => absurd h_ List.not_mem_nil⟩⟩⟩⟩) (by decide +kernel)) ggX7_meal_X3_mealBehind
theorem mx_X7_meal_14 : Cond.code yX7_isForetold cX7_isForetold 1 (some .boolean) ∈ wsX7_meal := mb_X7_meal_wsX7_meal_r1 (List.mem_of_getElem? (i := 13) rfl)
theorem ggX7_meal_X7_isForetold : GoodIn wsX7_meal wsX7_isForetold := goodIn_sub (by unfold wsX7_isForetold; exact List.forall_mem_cons.mpr ⟨mx_X7_meal_14, fun _ h_ => absurd h_ List.not_mem_nil⟩) (by decide +kernel)
set_option maxRecDepth 20000 in
theorem gX7_meal_X7_isForetold : GoodIn wsX7_meal (va_wsS RX7 207 yX7_isForetold wsX7_isForetold) := goodIn_app (goodIn_of _ (by decide +kernel)) ggX7_meal_X7_isForetold
theorem mb_X7_reachesThatFit_wsX7_reachesThatFit_r1 {w : Cond} (h : w ∈ wsX7_reachesThatFit_r1) : w ∈ wsX7_reachesThatFit := by unfold wsX7_reachesThatFit; exact List.mem_cons_of_mem _ (List.mem_append_left _ (List.mem_append_left _ (List.mem_append_left _ (List.mem_append_left _ (h)))))
theorem mx_X7_reachesThatFit_8 : Cond.code yX3_becomeLike cX3_becomeLike 2 none ∈ wsX7_reachesThatFit := mb_X7_reachesThatFit_wsX7_reachesThatFit_r1 (List.mem_of_getElem? (i := 7) rfl)
theorem mx_X7_reachesThatFit_9 : Cond.fieldLink RX3 27 "MillTalk$Level" "cells" "I" ∈ wsX7_reachesThatFit := mb_X7_reachesThatFit_wsX7_reachesThatFit_r1 (List.mem_of_getElem? (i := 8) rfl)
theorem mx_X7_reachesThatFit_10 : Cond.fieldLink RX3 31 "MillTalk$Level" "mill" "I" ∈ wsX7_reachesThatFit := mb_X7_reachesThatFit_wsX7_reachesThatFit_r1 (List.mem_of_getElem? (i := 9) rfl)
theorem mx_X7_reachesThatFit_11 : Cond.fieldLink RX3 34 "MillTalk$Level" "reach" "I" ∈ wsX7_reachesThatFit := mb_X7_reachesThatFit_wsX7_reachesThatFit_r1 (List.mem_of_getElem? (i := 10) rfl)
theorem mx_X7_reachesThatFit_12 : Cond.fieldLink RX3 37 "MillTalk$Level" "cap" "I" ∈ wsX7_reachesThatFit := mb_X7_reachesThatFit_wsX7_reachesThatFit_r1 (List.mem_of_getElem? (i := 11) rfl)
theorem mx_X7_reachesThatFit_13 : Cond.fieldLink RX3 40 "MillTalk$Level" "hour" "I" ∈ wsX7_reachesThatFit := mb_X7_reachesThatFit_wsX7_reachesThatFit_r1 (List.mem_of_getElem? (i := 12) rfl)
theorem mx_X7_reachesThatFit_14 : Cond.fieldLink RX3 43 "MillTalk$Level" "meal" "I" ∈ wsX7_reachesThatFit := mb_X7_reachesThatFit_wsX7_reachesThatFit_r1 (List.mem_of_getElem? (i := 13) rfl)
theorem mx_X7_reachesThatFit_15 : Cond.fieldLink RX3 46 "MillTalk$Level" "windCount" "I" ∈ wsX7_reachesThatFit := mb_X7_reachesThatFit_wsX7_reachesThatFit_r1 (List.mem_of_getElem? (i := 14) rfl)
theorem mx_X7_reachesThatFit_16 : Cond.fieldLink RX3 49 "MillTalk$Level" "soundCount" "I" ∈ wsX7_reachesThatFit := mb_X7_reachesThatFit_wsX7_reachesThatFit_r1 (List.mem_of_getElem? (i := 15) rfl)
theorem mx_X7_reachesThatFit_17 : Cond.fieldLink RX3 9 "MillTalk$Level" "winds" "[I" ∈ wsX7_reachesThatFit := mb_X7_reachesThatFit_wsX7_reachesThatFit_r1 (List.mem_of_getElem? (i := 16) rfl)
theorem mx_X7_reachesThatFit_18 : Cond.methodLink RX3 52 arraycopyName ∈ wsX7_reachesThatFit := mb_X7_reachesThatFit_wsX7_reachesThatFit_r1 (List.mem_of_getElem? (i := 17) rfl)
theorem mx_X7_reachesThatFit_19 : Cond.native arraycopyName ∈ wsX7_reachesThatFit := mb_X7_reachesThatFit_wsX7_reachesThatFit_r1 (List.mem_of_getElem? (i := 18) rfl)
theorem mx_X7_reachesThatFit_20 : Cond.static arraycopyName ∈ wsX7_reachesThatFit := mb_X7_reachesThatFit_wsX7_reachesThatFit_r1 (List.mem_of_getElem? (i := 19) rfl)
theorem mx_X7_reachesThatFit_21 : Cond.initialized "java/lang/System" ∈ wsX7_reachesThatFit := mb_X7_reachesThatFit_wsX7_reachesThatFit_r1 (List.mem_of_getElem? (i := 20) rfl)
theorem mx_X7_reachesThatFit_22 : Cond.fieldLink RX3 15 "MillTalk$Level" "kinds" "[I" ∈ wsX7_reachesThatFit := mb_X7_reachesThatFit_wsX7_reachesThatFit_r1 (List.mem_of_getElem? (i := 21) rfl)
theorem mx_X7_reachesThatFit_23 : Cond.fieldLink RX3 18 "MillTalk$Level" "places" "[I" ∈ wsX7_reachesThatFit := mb_X7_reachesThatFit_wsX7_reachesThatFit_r1 (List.mem_of_getElem? (i := 22) rfl)
theorem mx_X7_reachesThatFit_24 : Cond.fieldLink RX3 21 "MillTalk$Level" "louds" "[I" ∈ wsX7_reachesThatFit := mb_X7_reachesThatFit_wsX7_reachesThatFit_r1 (List.mem_of_getElem? (i := 23) rfl)
theorem mb_X7_reachesThatFit_wsX7_reachesThatFit_r2 {w : Cond} (h : w ∈ wsX7_reachesThatFit_r2) : w ∈ wsX7_reachesThatFit := by unfold wsX7_reachesThatFit; exact List.mem_cons_of_mem _ (List.mem_append_left _ (List.mem_append_left _ (List.mem_append_left _ (List.mem_append_right _ (List.mem_append_left _ (h))))))
theorem mx_X7_reachesThatFit_25 : Cond.fieldLink RX3 24 "MillTalk$Level" "hows" "[I" ∈ wsX7_reachesThatFit := mb_X7_reachesThatFit_wsX7_reachesThatFit_r2 (List.mem_of_getElem? (i := 0) rfl)
theorem mb_X7_reachesThatFit_wsX30 {w : Cond} (h : w ∈ wsX30) : w ∈ wsX7_reachesThatFit := by unfold wsX7_reachesThatFit; exact List.mem_cons_of_mem _ (List.mem_append_left _ (List.mem_append_right _ (h)))
theorem ggX7_reachesThatFit_X3_becomeLike : GoodIn wsX7_reachesThatFit wsX3_becomeLike := goodIn_sub (by unfold wsX3_becomeLike; exact List.forall_mem_cons.mpr ⟨mx_X7_reachesThatFit_8, List.forall_mem_append.mpr ⟨List.forall_mem_cons.mpr ⟨mx_X7_reachesThatFit_9, List.forall_mem_cons.mpr ⟨mx_X7_reachesThatFit_10, List.forall_mem_cons.mpr ⟨mx_X7_reachesThatFit_11, List.forall_mem_cons.mpr ⟨mx_X7_reachesThatFit_12, List.forall_mem_cons.mpr ⟨mx_X7_reachesThatFit_13, List.forall_mem_cons.mpr ⟨mx_X7_reachesThatFit_14, List.forall_mem_cons.mpr ⟨mx_X7_reachesThatFit_15, List.forall_mem_cons.mpr ⟨mx_X7_reachesThatFit_16, List.forall_mem_cons.mpr ⟨mx_X7_reachesThatFit_17, List.forall_mem_cons.mpr ⟨mx_X7_reachesThatFit_18, List.forall_mem_cons.mpr ⟨mx_X7_reachesThatFit_19, List.forall_mem_cons.mpr ⟨mx_X7_reachesThatFit_20, List.forall_mem_cons.mpr ⟨mx_X7_reachesThatFit_21, List.forall_mem_cons.mpr ⟨mx_X7_reachesThatFit_22, List.forall_mem_cons.mpr ⟨mx_X7_reachesThatFit_23, List.forall_mem_cons.mpr ⟨mx_X7_reachesThatFit_24, List.forall_mem_cons.mpr ⟨mx_X7_reachesThatFit_25, fun _ h_ => absurd h_ List.not_mem_nil⟩⟩⟩⟩⟩⟩⟩⟩⟩⟩⟩⟩⟩⟩⟩⟩⟩, (fun _ h_ => mb_X7_reachesThatFit_wsX30 h_)⟩⟩) (by decide +kernel)
theorem mx_X7_reachesThatFit_4 : Cond.methodLink RX7 128 yX3_becomeLike ∈ wsX7_reachesThatFit := mb_X7_reachesThatFit_wsX7_reachesThatFit_r1 (List.mem_of_getElem? (i := 3) rfl)
theorem mx_X7_reachesThatFit_5 : Cond.instanceMethod yX3_becomeLike ∈ wsX7_reachesThatFit := mb_X7_reachesThatFit_wsX7_reachesThatFit_r1 (List.mem_of_getElem? (i := 4) rfl)
theorem mx_X7_reachesThatFit_6 : Cond.selects RX3 yX3_becomeLike yX3_becomeLike ∈ wsX7_reachesThatFit := mb_X7_reachesThatFit_wsX7_reachesThatFit_r1 (List.mem_of_getElem? (i := 5) rfl)
theorem mx_X7_reachesThatFit_7 : Cond.initialized RX3 ∈ wsX7_reachesThatFit := mb_X7_reachesThatFit_wsX7_reachesThatFit_r1 (List.mem_of_getElem? (i := 6) rfl)
theorem gX7_reachesThatFit_X3_becomeLike : GoodIn wsX7_reachesThatFit (wsV RX7 128 RX3 yX3_becomeLike wsX3_becomeLike) := goodIn_app (goodIn_sub (List.forall_mem_cons.mpr ⟨mx_X7_reachesThatFit_4, List.forall_mem_cons.mpr ⟨mx_X7_reachesThatFit_5, List.forall_mem_cons.mpr ⟨mx_X7_reachesThatFit_6, List.forall_mem_cons.mpr ⟨mx_X7_reachesThatFit_7, fun _ h_ => absurd h_ List.not_mem_nil⟩⟩⟩⟩) (by decide +kernel)) ggX7_reachesThatFit_X3_becomeLike
theorem mx_X7_reachesThatFit_30 : Cond.code yX7_trialFits cX7_trialFits 7 (some .boolean) ∈ wsX7_reachesThatFit := mb_X7_reachesThatFit_wsX7_reachesThatFit_r2 (List.mem_of_getElem? (i := 5) rfl)
theorem mx_X7_reachesThatFit_1 : Cond.fieldLink RX7 41 "MillTalk" "trial" "LMillTalk$Level;" ∈ wsX7_reachesThatFit := mb_X7_reachesThatFit_wsX7_reachesThatFit_r1 (List.mem_of_getElem? (i := 0) rfl)
theorem mx_X7_reachesThatFit_31 : Cond.fieldLink RX7 334 "MillTalk$Level" "places" "[I" ∈ wsX7_reachesThatFit := mb_X7_reachesThatFit_wsX7_reachesThatFit_r2 (List.mem_of_getElem? (i := 6) rfl)
theorem mx_X7_reachesThatFit_32 : Cond.fieldLink RX7 10 "MillTalk" "rows" "LMillTalk$Rows;" ∈ wsX7_reachesThatFit := mb_X7_reachesThatFit_wsX7_reachesThatFit_r2 (List.mem_of_getElem? (i := 7) rfl)
theorem mx_X7_reachesThatFit_33 : Cond.methodLink RX7 210 yX3_passOnly ∈ wsX7_reachesThatFit := mb_X7_reachesThatFit_wsX7_reachesThatFit_r2 (List.mem_of_getElem? (i := 8) rfl)
theorem mx_X7_reachesThatFit_34 : Cond.instanceMethod yX3_passOnly ∈ wsX7_reachesThatFit := mb_X7_reachesThatFit_wsX7_reachesThatFit_r2 (List.mem_of_getElem? (i := 9) rfl)
theorem mx_X7_reachesThatFit_35 : Cond.selects RX3 yX3_passOnly yX3_passOnly ∈ wsX7_reachesThatFit := mb_X7_reachesThatFit_wsX7_reachesThatFit_r2 (List.mem_of_getElem? (i := 10) rfl)
theorem mx_X7_reachesThatFit_36 : Cond.code yX3_passOnly cX3_passOnly 4 none ∈ wsX7_reachesThatFit := mb_X7_reachesThatFit_wsX7_reachesThatFit_r2 (List.mem_of_getElem? (i := 11) rfl)
theorem mx_X7_reachesThatFit_37 : Cond.methodLink RX3 87 yX3_windOn ∈ wsX7_reachesThatFit := mb_X7_reachesThatFit_wsX7_reachesThatFit_r2 (List.mem_of_getElem? (i := 12) rfl)
theorem mx_X7_reachesThatFit_38 : Cond.instanceMethod yX3_windOn ∈ wsX7_reachesThatFit := mb_X7_reachesThatFit_wsX7_reachesThatFit_r2 (List.mem_of_getElem? (i := 13) rfl)
theorem mx_X7_reachesThatFit_39 : Cond.selects RX3 yX3_windOn yX3_windOn ∈ wsX7_reachesThatFit := mb_X7_reachesThatFit_wsX7_reachesThatFit_r2 (List.mem_of_getElem? (i := 14) rfl)
theorem mx_X7_reachesThatFit_40 : Cond.code yX3_windOn cX3_windOn 2 (some .int) ∈ wsX7_reachesThatFit := mb_X7_reachesThatFit_wsX7_reachesThatFit_r2 (List.mem_of_getElem? (i := 15) rfl)
theorem mx_X7_reachesThatFit_41 : Cond.methodLink RX3 90 yX3_passSound ∈ wsX7_reachesThatFit := mb_X7_reachesThatFit_wsX7_reachesThatFit_r2 (List.mem_of_getElem? (i := 16) rfl)
theorem mx_X7_reachesThatFit_42 : Cond.instanceMethod yX3_passSound ∈ wsX7_reachesThatFit := mb_X7_reachesThatFit_wsX7_reachesThatFit_r2 (List.mem_of_getElem? (i := 17) rfl)
theorem mx_X7_reachesThatFit_43 : Cond.selects RX3 yX3_passSound yX3_passSound ∈ wsX7_reachesThatFit := mb_X7_reachesThatFit_wsX7_reachesThatFit_r2 (List.mem_of_getElem? (i := 18) rfl)
theorem mx_X7_reachesThatFit_44 : Cond.code yX3_passSound cX3_passSound 5 none ∈ wsX7_reachesThatFit := mb_X7_reachesThatFit_wsX7_reachesThatFit_r2 (List.mem_of_getElem? (i := 19) rfl)
theorem mx_X7_reachesThatFit_45 : Cond.methodLink RX3 63 Lib.Math.min.name ∈ wsX7_reachesThatFit := mb_X7_reachesThatFit_wsX7_reachesThatFit_r2 (List.mem_of_getElem? (i := 20) rfl)
theorem mx_X7_reachesThatFit_46 : Cond.static Lib.Math.min.name ∈ wsX7_reachesThatFit := mb_X7_reachesThatFit_wsX7_reachesThatFit_r2 (List.mem_of_getElem? (i := 21) rfl)
theorem mx_X7_reachesThatFit_47 : Cond.initialized "java/lang/Math" ∈ wsX7_reachesThatFit := mb_X7_reachesThatFit_wsX7_reachesThatFit_r2 (List.mem_of_getElem? (i := 22) rfl)
theorem mx_X7_reachesThatFit_48 : Cond.code Lib.Math.min.name Lib.Math.min.code 2 (some .int) ∈ wsX7_reachesThatFit := mb_X7_reachesThatFit_wsX7_reachesThatFit_r2 (List.mem_of_getElem? (i := 23) rfl)
theorem mb_X7_reachesThatFit_wsX7_reachesThatFit_r3 {w : Cond} (h : w ∈ wsX7_reachesThatFit_r3) : w ∈ wsX7_reachesThatFit := by unfold wsX7_reachesThatFit; exact List.mem_cons_of_mem _ (List.mem_append_left _ (List.mem_append_left _ (List.mem_append_left _ (List.mem_append_right _ (List.mem_append_right _ (List.mem_append_left _ (h)))))))
theorem mx_X7_reachesThatFit_49 : Cond.methodLink RX3 58 yX3_isLoose ∈ wsX7_reachesThatFit := mb_X7_reachesThatFit_wsX7_reachesThatFit_r3 (List.mem_of_getElem? (i := 0) rfl)
theorem mx_X7_reachesThatFit_50 : Cond.instanceMethod yX3_isLoose ∈ wsX7_reachesThatFit := mb_X7_reachesThatFit_wsX7_reachesThatFit_r3 (List.mem_of_getElem? (i := 1) rfl)
theorem mx_X7_reachesThatFit_51 : Cond.selects RX3 yX3_isLoose yX3_isLoose ∈ wsX7_reachesThatFit := mb_X7_reachesThatFit_wsX7_reachesThatFit_r3 (List.mem_of_getElem? (i := 2) rfl)
theorem mx_X7_reachesThatFit_52 : Cond.code yX3_isLoose cX3_isLoose 2 (some .boolean) ∈ wsX7_reachesThatFit := mb_X7_reachesThatFit_wsX7_reachesThatFit_r3 (List.mem_of_getElem? (i := 3) rfl)
theorem mx_X7_reachesThatFit_53 : Cond.methodLink RX3 69 yX3_driftOf ∈ wsX7_reachesThatFit := mb_X7_reachesThatFit_wsX7_reachesThatFit_r3 (List.mem_of_getElem? (i := 4) rfl)
theorem mx_X7_reachesThatFit_54 : Cond.instanceMethod yX3_driftOf ∈ wsX7_reachesThatFit := mb_X7_reachesThatFit_wsX7_reachesThatFit_r3 (List.mem_of_getElem? (i := 5) rfl)
theorem mx_X7_reachesThatFit_55 : Cond.selects RX3 yX3_driftOf yX3_driftOf ∈ wsX7_reachesThatFit := mb_X7_reachesThatFit_wsX7_reachesThatFit_r3 (List.mem_of_getElem? (i := 6) rfl)
theorem mx_X7_reachesThatFit_56 : Cond.code yX3_driftOf cX3_driftOf 4 (some .int) ∈ wsX7_reachesThatFit := mb_X7_reachesThatFit_wsX7_reachesThatFit_r3 (List.mem_of_getElem? (i := 7) rfl)
theorem mx_X7_reachesThatFit_57 : Cond.methodLink RX3 72 yX3_loudBehindHour ∈ wsX7_reachesThatFit := mb_X7_reachesThatFit_wsX7_reachesThatFit_r3 (List.mem_of_getElem? (i := 8) rfl)
theorem mx_X7_reachesThatFit_58 : Cond.instanceMethod yX3_loudBehindHour ∈ wsX7_reachesThatFit := mb_X7_reachesThatFit_wsX7_reachesThatFit_r3 (List.mem_of_getElem? (i := 9) rfl)
theorem mx_X7_reachesThatFit_59 : Cond.selects RX3 yX3_loudBehindHour yX3_loudBehindHour ∈ wsX7_reachesThatFit := mb_X7_reachesThatFit_wsX7_reachesThatFit_r3 (List.mem_of_getElem? (i := 10) rfl)
theorem mx_X7_reachesThatFit_60 : Cond.code yX3_loudBehindHour cX3_loudBehindHour 2 (some .int) ∈ wsX7_reachesThatFit := mb_X7_reachesThatFit_wsX7_reachesThatFit_r3 (List.mem_of_getElem? (i := 11) rfl)
theorem mx_X7_reachesThatFit_61 : Cond.methodLink RX3 76 yX3_hasCell ∈ wsX7_reachesThatFit := mb_X7_reachesThatFit_wsX7_reachesThatFit_r3 (List.mem_of_getElem? (i := 12) rfl)
theorem mx_X7_reachesThatFit_62 : Cond.instanceMethod yX3_hasCell ∈ wsX7_reachesThatFit := mb_X7_reachesThatFit_wsX7_reachesThatFit_r3 (List.mem_of_getElem? (i := 13) rfl)
theorem mx_X7_reachesThatFit_63 : Cond.selects RX3 yX3_hasCell yX3_hasCell ∈ wsX7_reachesThatFit := mb_X7_reachesThatFit_wsX7_reachesThatFit_r3 (List.mem_of_getElem? (i := 14) rfl)
theorem mx_X7_reachesThatFit_64 : Cond.code yX3_hasCell cX3_hasCell 2 (some .boolean) ∈ wsX7_reachesThatFit := mb_X7_reachesThatFit_wsX7_reachesThatFit_r3 (List.mem_of_getElem? (i := 15) rfl)
theorem mx_X7_reachesThatFit_65 : Cond.methodLink RX3 79 yX3_letLoose ∈ wsX7_reachesThatFit := mb_X7_reachesThatFit_wsX7_reachesThatFit_r3 (List.mem_of_getElem? (i := 16) rfl)
theorem mx_X7_reachesThatFit_66 : Cond.instanceMethod yX3_letLoose ∈ wsX7_reachesThatFit := mb_X7_reachesThatFit_wsX7_reachesThatFit_r3 (List.mem_of_getElem? (i := 17) rfl)
theorem mx_X7_reachesThatFit_67 : Cond.selects RX3 yX3_letLoose yX3_letLoose ∈ wsX7_reachesThatFit := mb_X7_reachesThatFit_wsX7_reachesThatFit_r3 (List.mem_of_getElem? (i := 18) rfl)
theorem mx_X7_reachesThatFit_68 : Cond.code yX3_letLoose cX3_letLoose 4 none ∈ wsX7_reachesThatFit := mb_X7_reachesThatFit_wsX7_reachesThatFit_r3 (List.mem_of_getElem? (i := 19) rfl)
theorem mx_X7_reachesThatFit_69 : Cond.methodLink RX3 83 yX3_grindsAt ∈ wsX7_reachesThatFit := mb_X7_reachesThatFit_wsX7_reachesThatFit_r3 (List.mem_of_getElem? (i := 20) rfl)
theorem mx_X7_reachesThatFit_70 : Cond.instanceMethod yX3_grindsAt ∈ wsX7_reachesThatFit := mb_X7_reachesThatFit_wsX7_reachesThatFit_r3 (List.mem_of_getElem? (i := 21) rfl)
theorem mx_X7_reachesThatFit_71 : Cond.selects RX3 yX3_grindsAt yX3_grindsAt ∈ wsX7_reachesThatFit := mb_X7_reachesThatFit_wsX7_reachesThatFit_r3 (List.mem_of_getElem? (i := 22) rfl)
theorem mx_X7_reachesThatFit_72 : Cond.code yX3_grindsAt cX3_grindsAt 4 (some .boolean) ∈ wsX7_reachesThatFit := mb_X7_reachesThatFit_wsX7_reachesThatFit_r3 (List.mem_of_getElem? (i := 23) rfl)
theorem mb_X7_reachesThatFit_wsX7_reachesThatFit_r4 {w : Cond} (h : w ∈ wsX7_reachesThatFit_r4) : w ∈ wsX7_reachesThatFit := by unfold wsX7_reachesThatFit; exact List.mem_cons_of_mem _ (List.mem_append_left _ (List.mem_append_left _ (List.mem_append_left _ (List.mem_append_right _ (List.mem_append_right _ (List.mem_append_right _ (h)))))))
theorem mx_X7_reachesThatFit_73 : Cond.methodLink RX7 179 yX3_isLoose ∈ wsX7_reachesThatFit := mb_X7_reachesThatFit_wsX7_reachesThatFit_r4 (List.mem_of_getElem? (i := 0) rfl)
theorem mx_X7_reachesThatFit_74 : Cond.methodLink RX7 337 yX5_item ∈ wsX7_reachesThatFit := mb_X7_reachesThatFit_wsX7_reachesThatFit_r4 (List.mem_of_getElem? (i := 1) rfl)
theorem mx_X7_reachesThatFit_75 : Cond.instanceMethod yX5_item ∈ wsX7_reachesThatFit := mb_X7_reachesThatFit_wsX7_reachesThatFit_r4 (List.mem_of_getElem? (i := 2) rfl)
theorem mx_X7_reachesThatFit_76 : Cond.selects RX5 yX5_item yX5_item ∈ wsX7_reachesThatFit := mb_X7_reachesThatFit_wsX7_reachesThatFit_r4 (List.mem_of_getElem? (i := 3) rfl)
theorem mx_X7_reachesThatFit_77 : Cond.initialized RX5 ∈ wsX7_reachesThatFit := mb_X7_reachesThatFit_wsX7_reachesThatFit_r4 (List.mem_of_getElem? (i := 4) rfl)
theorem mx_X7_reachesThatFit_78 : Cond.code yX5_item cX5_item 3 (some .int) ∈ wsX7_reachesThatFit := mb_X7_reachesThatFit_wsX7_reachesThatFit_r4 (List.mem_of_getElem? (i := 5) rfl)
theorem mx_X7_reachesThatFit_79 : Cond.fieldLink RX5 13 "MillTalk$Rows" "items" "[[I" ∈ wsX7_reachesThatFit := mb_X7_reachesThatFit_wsX7_reachesThatFit_r4 (List.mem_of_getElem? (i := 6) rfl)
theorem mb_X7_reachesThatFit_wsX70 {w : Cond} (h : w ∈ wsX70) : w ∈ wsX7_reachesThatFit := by unfold wsX7_reachesThatFit; exact List.mem_cons_of_mem _ (List.mem_append_left _ (List.mem_append_left _ (List.mem_append_right _ (h))))
theorem mb_X7_reachesThatFit_wsX50 {w : Cond} (h : w ∈ wsX50) : w ∈ wsX7_reachesThatFit := by unfold wsX7_reachesThatFit; exact List.mem_cons_of_mem _ (List.mem_append_right _ (h))
theorem ggX7_reachesThatFit_X7_trialFits : GoodIn wsX7_reachesThatFit wsX7_trialFits := goodIn_sub (by unfold wsX7_trialFits; exact List.forall_mem_cons.mpr ⟨mx_X7_reachesThatFit_30, List.forall_mem_append.mpr ⟨List.forall_mem_append.mpr ⟨List.forall_mem_append.mpr ⟨List.forall_mem_append.mpr ⟨(by unfold wsX7_trialFits_r1; exact List.forall_mem_cons.mpr ⟨mx_X7_reachesThatFit_1, List.forall_mem_cons.mpr ⟨mx_X7_reachesThatFit_31, List.forall_mem_cons.mpr ⟨mx_X7_reachesThatFit_32, List.forall_mem_cons.mpr ⟨mx_X7_reachesThatFit_33, List.forall_mem_cons.mpr ⟨mx_X7_reachesThatFit_34, List.forall_mem_cons.mpr ⟨mx_X7_reachesThatFit_35, List.forall_mem_cons.mpr ⟨mx_X7_reachesThatFit_7, List.forall_mem_cons.mpr ⟨mx_X7_reachesThatFit_36, List.forall_mem_cons.mpr ⟨mx_X7_reachesThatFit_13, List.forall_mem_cons.mpr ⟨mx_X7_reachesThatFit_37, List.forall_mem_cons.mpr ⟨mx_X7_reachesThatFit_38, List.forall_mem_cons.mpr ⟨mx_X7_reachesThatFit_39, List.forall_mem_cons.mpr ⟨mx_X7_reachesThatFit_40, List.forall_mem_cons.mpr ⟨mx_X7_reachesThatFit_15, List.forall_mem_cons.mpr ⟨mx_X7_reachesThatFit_17, List.forall_mem_cons.mpr ⟨mx_X7_reachesThatFit_41, List.forall_mem_cons.mpr ⟨mx_X7_reachesThatFit_42, List.forall_mem_cons.mpr ⟨mx_X7_reachesThatFit_43, List.forall_mem_cons.mpr ⟨mx_X7_reachesThatFit_44, List.forall_mem_cons.mpr ⟨mx_X7_reachesThatFit_23, List.forall_mem_cons.mpr ⟨mx_X7_reachesThatFit_25, List.forall_mem_cons.mpr ⟨mx_X7_reachesThatFit_14, List.forall_mem_cons.mpr ⟨mx_X7_reachesThatFit_45, List.forall_mem_cons.mpr ⟨mx_X7_reachesThatFit_46, fun _ h_ => absurd h_ List.not_mem_nil⟩⟩⟩⟩⟩⟩⟩⟩⟩⟩⟩⟩⟩⟩⟩⟩⟩⟩⟩⟩⟩⟩⟩⟩), List.forall_mem_append.mpr ⟨(by unfold wsX7_trialFits_r2; exact List.forall_mem_cons.mpr ⟨mx_X7_reachesThatFit_47, List.forall_mem_cons.mpr ⟨mx_X7_reachesThatFit_48, List.forall_mem_cons.mpr ⟨mx_X7_reachesThatFit_49, List.forall_mem_cons.mpr ⟨mx_X7_reachesThatFit_50, List.forall_mem_cons.mpr ⟨mx_X7_reachesThatFit_51, List.forall_mem_cons.mpr ⟨mx_X7_reachesThatFit_52, List.forall_mem_cons.mpr ⟨mx_X7_reachesThatFit_53, List.forall_mem_cons.mpr ⟨mx_X7_reachesThatFit_54, List.forall_mem_cons.mpr ⟨mx_X7_reachesThatFit_55, List.forall_mem_cons.mpr ⟨mx_X7_reachesThatFit_56, List.forall_mem_cons.mpr ⟨mx_X7_reachesThatFit_22, List.forall_mem_cons.mpr ⟨mx_X7_reachesThatFit_57, List.forall_mem_cons.mpr ⟨mx_X7_reachesThatFit_58, List.forall_mem_cons.mpr ⟨mx_X7_reachesThatFit_59, List.forall_mem_cons.mpr ⟨mx_X7_reachesThatFit_60, List.forall_mem_cons.mpr ⟨mx_X7_reachesThatFit_24, List.forall_mem_cons.mpr ⟨mx_X7_reachesThatFit_61, List.forall_mem_cons.mpr ⟨mx_X7_reachesThatFit_62, List.forall_mem_cons.mpr ⟨mx_X7_reachesThatFit_63, List.forall_mem_cons.mpr ⟨mx_X7_reachesThatFit_64, List.forall_mem_cons.mpr ⟨mx_X7_reachesThatFit_9, List.forall_mem_cons.mpr ⟨mx_X7_reachesThatFit_65, List.forall_mem_cons.mpr ⟨mx_X7_reachesThatFit_66, List.forall_mem_cons.mpr ⟨mx_X7_reachesThatFit_67, fun _ h_ => absurd h_ List.not_mem_nil⟩⟩⟩⟩⟩⟩⟩⟩⟩⟩⟩⟩⟩⟩⟩⟩⟩⟩⟩⟩⟩⟩⟩⟩), (by unfold wsX7_trialFits_r3; exact List.forall_mem_cons.mpr ⟨mx_X7_reachesThatFit_68, List.forall_mem_cons.mpr ⟨mx_X7_reachesThatFit_69, List.forall_mem_cons.mpr ⟨mx_X7_reachesThatFit_70, List.forall_mem_cons.mpr ⟨mx_X7_reachesThatFit_71, List.forall_mem_cons.mpr ⟨mx_X7_reachesThatFit_72, List.forall_mem_cons.mpr ⟨mx_X7_reachesThatFit_12, List.forall_mem_cons.mpr ⟨mx_X7_reachesThatFit_10, List.forall_mem_cons.mpr ⟨mx_X7_reachesThatFit_11, List.forall_mem_cons.mpr ⟨mx_X7_reachesThatFit_73, List.forall_mem_cons.mpr ⟨mx_X7_reachesThatFit_74, List.forall_mem_cons.mpr ⟨mx_X7_reachesThatFit_75, List.forall_mem_cons.mpr ⟨mx_X7_reachesThatFit_76, List.forall_mem_cons.mpr ⟨mx_X7_reachesThatFit_77, List.forall_mem_cons.mpr ⟨mx_X7_reachesThatFit_78, List.forall_mem_cons.mpr ⟨mx_X7_reachesThatFit_79, fun _ h_ => absurd h_ List.not_mem_nil⟩⟩⟩⟩⟩⟩⟩⟩⟩⟩⟩⟩⟩⟩⟩)⟩⟩, (fun _ h_ => mb_X7_reachesThatFit_wsX70 h_)⟩, (fun _ h_ => mb_X7_reachesThatFit_wsX30 h_)⟩, (fun _ h_ => mb_X7_reachesThatFit_wsX50 h_)⟩⟩) (by decide +kernel)
theorem mx_X7_reachesThatFit_26 : Cond.methodLink RX7 330 yX7_trialFits ∈ wsX7_reachesThatFit := mb_X7_reachesThatFit_wsX7_reachesThatFit_r2 (List.mem_of_getElem? (i := 1) rfl)
theorem mx_X7_reachesThatFit_27 : Cond.instanceMethod yX7_trialFits ∈ wsX7_reachesThatFit := mb_X7_reachesThatFit_wsX7_reachesThatFit_r2 (List.mem_of_getElem? (i := 2) rfl)
theorem mx_X7_reachesThatFit_28 : Cond.selects RX7 yX7_trialFits yX7_trialFits ∈ wsX7_reachesThatFit := mb_X7_reachesThatFit_wsX7_reachesThatFit_r2 (List.mem_of_getElem? (i := 3) rfl)
theorem mx_X7_reachesThatFit_29 : Cond.initialized RX7 ∈ wsX7_reachesThatFit := mb_X7_reachesThatFit_wsX7_reachesThatFit_r2 (List.mem_of_getElem? (i := 4) rfl)
theorem gX7_reachesThatFit_X7_trialFits : GoodIn wsX7_reachesThatFit (wsV RX7 330 RX7 yX7_trialFits wsX7_trialFits) := goodIn_app (goodIn_sub (List.forall_mem_cons.mpr ⟨mx_X7_reachesThatFit_26, List.forall_mem_cons.mpr ⟨mx_X7_reachesThatFit_27, List.forall_mem_cons.mpr ⟨mx_X7_reachesThatFit_28, List.forall_mem_cons.mpr ⟨mx_X7_reachesThatFit_29, fun _ h_ => absurd h_ List.not_mem_nil⟩⟩⟩⟩) (by decide +kernel)) ggX7_reachesThatFit_X7_trialFits
theorem mb_X7_refusalToHear_wsX7_refusalToHear_r1 {w : Cond} (h : w ∈ wsX7_refusalToHear_r1) : w ∈ wsX7_refusalToHear := by unfold wsX7_refusalToHear; exact List.mem_cons_of_mem _ (List.mem_append_left _ (List.mem_append_left _ (List.mem_append_left _ (List.mem_append_left _ (h)))))
theorem mx_X7_refusalToHear_8 : Cond.code yX3_isLoose cX3_isLoose 2 (some .boolean) ∈ wsX7_refusalToHear := mb_X7_refusalToHear_wsX7_refusalToHear_r1 (List.mem_of_getElem? (i := 7) rfl)
theorem mx_X7_refusalToHear_9 : Cond.fieldLink RX3 24 "MillTalk$Level" "hows" "[I" ∈ wsX7_refusalToHear := mb_X7_refusalToHear_wsX7_refusalToHear_r1 (List.mem_of_getElem? (i := 8) rfl)
theorem mb_X7_refusalToHear_wsX30 {w : Cond} (h : w ∈ wsX30) : w ∈ wsX7_refusalToHear := by unfold wsX7_refusalToHear; exact List.mem_cons_of_mem _ (List.mem_append_left _ (List.mem_append_right _ (h)))
theorem ggX7_refusalToHear_X3_isLoose : GoodIn wsX7_refusalToHear wsX3_isLoose := goodIn_sub (by unfold wsX3_isLoose; exact List.forall_mem_cons.mpr ⟨mx_X7_refusalToHear_8, List.forall_mem_append.mpr ⟨List.forall_mem_cons.mpr ⟨mx_X7_refusalToHear_9, fun _ h_ => absurd h_ List.not_mem_nil⟩, (fun _ h_ => mb_X7_refusalToHear_wsX30 h_)⟩⟩) (by decide +kernel)
theorem mx_X7_refusalToHear_4 : Cond.methodLink RX7 179 yX3_isLoose ∈ wsX7_refusalToHear := mb_X7_refusalToHear_wsX7_refusalToHear_r1 (List.mem_of_getElem? (i := 3) rfl)
theorem mx_X7_refusalToHear_5 : Cond.instanceMethod yX3_isLoose ∈ wsX7_refusalToHear := mb_X7_refusalToHear_wsX7_refusalToHear_r1 (List.mem_of_getElem? (i := 4) rfl)
theorem mx_X7_refusalToHear_6 : Cond.selects RX3 yX3_isLoose yX3_isLoose ∈ wsX7_refusalToHear := mb_X7_refusalToHear_wsX7_refusalToHear_r1 (List.mem_of_getElem? (i := 5) rfl)
theorem mx_X7_refusalToHear_7 : Cond.initialized RX3 ∈ wsX7_refusalToHear := mb_X7_refusalToHear_wsX7_refusalToHear_r1 (List.mem_of_getElem? (i := 6) rfl)
theorem gX7_refusalToHear_X3_isLoose : GoodIn wsX7_refusalToHear (wsV RX7 179 RX3 yX3_isLoose wsX3_isLoose) := goodIn_app (goodIn_sub (List.forall_mem_cons.mpr ⟨mx_X7_refusalToHear_4, List.forall_mem_cons.mpr ⟨mx_X7_refusalToHear_5, List.forall_mem_cons.mpr ⟨mx_X7_refusalToHear_6, List.forall_mem_cons.mpr ⟨mx_X7_refusalToHear_7, fun _ h_ => absurd h_ List.not_mem_nil⟩⟩⟩⟩) (by decide +kernel)) ggX7_refusalToHear_X3_isLoose
theorem mx_X7_refusalToHear_14 : Cond.code yX5_findingOf cX5_findingOf 4 (some .int) ∈ wsX7_refusalToHear := mb_X7_refusalToHear_wsX7_refusalToHear_r1 (List.mem_of_getElem? (i := 13) rfl)
theorem mx_X7_refusalToHear_15 : Cond.methodLink RX5 29 yX5_isMissing ∈ wsX7_refusalToHear := mb_X7_refusalToHear_wsX7_refusalToHear_r1 (List.mem_of_getElem? (i := 14) rfl)
theorem mx_X7_refusalToHear_16 : Cond.instanceMethod yX5_isMissing ∈ wsX7_refusalToHear := mb_X7_refusalToHear_wsX7_refusalToHear_r1 (List.mem_of_getElem? (i := 15) rfl)
theorem mx_X7_refusalToHear_17 : Cond.selects RX5 yX5_isMissing yX5_isMissing ∈ wsX7_refusalToHear := mb_X7_refusalToHear_wsX7_refusalToHear_r1 (List.mem_of_getElem? (i := 16) rfl)
theorem mx_X7_refusalToHear_13 : Cond.initialized RX5 ∈ wsX7_refusalToHear := mb_X7_refusalToHear_wsX7_refusalToHear_r1 (List.mem_of_getElem? (i := 12) rfl)
theorem mx_X7_refusalToHear_18 : Cond.code yX5_isMissing cX5_isMissing 2 (some .boolean) ∈ wsX7_refusalToHear := mb_X7_refusalToHear_wsX7_refusalToHear_r1 (List.mem_of_getElem? (i := 17) rfl)
theorem mx_X7_refusalToHear_19 : Cond.fieldLink RX5 16 "MillTalk$Rows" "lanes" "[I" ∈ wsX7_refusalToHear := mb_X7_refusalToHear_wsX7_refusalToHear_r1 (List.mem_of_getElem? (i := 18) rfl)
theorem mx_X7_refusalToHear_20 : Cond.methodLink RX5 33 yX5_hasPlaces ∈ wsX7_refusalToHear := mb_X7_refusalToHear_wsX7_refusalToHear_r1 (List.mem_of_getElem? (i := 19) rfl)
theorem mx_X7_refusalToHear_21 : Cond.instanceMethod yX5_hasPlaces ∈ wsX7_refusalToHear := mb_X7_refusalToHear_wsX7_refusalToHear_r1 (List.mem_of_getElem? (i := 20) rfl)
theorem mx_X7_refusalToHear_22 : Cond.selects RX5 yX5_hasPlaces yX5_hasPlaces ∈ wsX7_refusalToHear := mb_X7_refusalToHear_wsX7_refusalToHear_r1 (List.mem_of_getElem? (i := 21) rfl)
theorem mx_X7_refusalToHear_23 : Cond.code yX5_hasPlaces cX5_hasPlaces 4 (some .boolean) ∈ wsX7_refusalToHear := mb_X7_refusalToHear_wsX7_refusalToHear_r1 (List.mem_of_getElem? (i := 22) rfl)
theorem mx_X7_refusalToHear_24 : Cond.fieldLink RX5 20 "MillTalk$Rows" "lengths" "[I" ∈ wsX7_refusalToHear := mb_X7_refusalToHear_wsX7_refusalToHear_r1 (List.mem_of_getElem? (i := 23) rfl)
theorem mb_X7_refusalToHear_wsX50 {w : Cond} (h : w ∈ wsX50) : w ∈ wsX7_refusalToHear := by unfold wsX7_refusalToHear; exact List.mem_cons_of_mem _ (List.mem_append_right _ (h))
theorem ggX7_refusalToHear_X5_findingOf : GoodIn wsX7_refusalToHear wsX5_findingOf := goodIn_sub (by unfold wsX5_findingOf; exact List.forall_mem_cons.mpr ⟨mx_X7_refusalToHear_14, List.forall_mem_append.mpr ⟨List.forall_mem_cons.mpr ⟨mx_X7_refusalToHear_15, List.forall_mem_cons.mpr ⟨mx_X7_refusalToHear_16, List.forall_mem_cons.mpr ⟨mx_X7_refusalToHear_17, List.forall_mem_cons.mpr ⟨mx_X7_refusalToHear_13, List.forall_mem_cons.mpr ⟨mx_X7_refusalToHear_18, List.forall_mem_cons.mpr ⟨mx_X7_refusalToHear_19, List.forall_mem_cons.mpr ⟨mx_X7_refusalToHear_20, List.forall_mem_cons.mpr ⟨mx_X7_refusalToHear_21, List.forall_mem_cons.mpr ⟨mx_X7_refusalToHear_22, List.forall_mem_cons.mpr ⟨mx_X7_refusalToHear_23, List.forall_mem_cons.mpr ⟨mx_X7_refusalToHear_24, fun _ h_ => absurd h_ List.not_mem_nil⟩⟩⟩⟩⟩⟩⟩⟩⟩⟩⟩, (fun _ h_ => mb_X7_refusalToHear_wsX50 h_)⟩⟩) (by decide +kernel)
theorem mx_X7_refusalToHear_10 : Cond.methodLink RX7 84 yX5_findingOf ∈ wsX7_refusalToHear := mb_X7_refusalToHear_wsX7_refusalToHear_r1 (List.mem_of_getElem? (i := 9) rfl)
theorem mx_X7_refusalToHear_11 : Cond.instanceMethod yX5_findingOf ∈ wsX7_refusalToHear := mb_X7_refusalToHear_wsX7_refusalToHear_r1 (List.mem_of_getElem? (i := 10) rfl)
theorem mx_X7_refusalToHear_12 : Cond.selects RX5 yX5_findingOf yX5_findingOf ∈ wsX7_refusalToHear := mb_X7_refusalToHear_wsX7_refusalToHear_r1 (List.mem_of_getElem? (i := 11) rfl)
theorem gX7_refusalToHear_X5_findingOf : GoodIn wsX7_refusalToHear (wsV RX7 84 RX5 yX5_findingOf wsX5_findingOf) := goodIn_app (goodIn_sub (List.forall_mem_cons.mpr ⟨mx_X7_refusalToHear_10, List.forall_mem_cons.mpr ⟨mx_X7_refusalToHear_11, List.forall_mem_cons.mpr ⟨mx_X7_refusalToHear_12, List.forall_mem_cons.mpr ⟨mx_X7_refusalToHear_13, fun _ h_ => absurd h_ List.not_mem_nil⟩⟩⟩⟩) (by decide +kernel)) ggX7_refusalToHear_X5_findingOf
theorem mb_X7_refusalToHear_wsX7_refusalToHear_r2 {w : Cond} (h : w ∈ wsX7_refusalToHear_r2) : w ∈ wsX7_refusalToHear := by unfold wsX7_refusalToHear; exact List.mem_cons_of_mem _ (List.mem_append_left _ (List.mem_append_left _ (List.mem_append_left _ (List.mem_append_right _ (h)))))
theorem mx_X7_refusalToHear_29 : Cond.code yX7_found cX7_found 2 (some .int) ∈ wsX7_refusalToHear := mb_X7_refusalToHear_wsX7_refusalToHear_r2 (List.mem_of_getElem? (i := 4) rfl)
theorem mx_X7_refusalToHear_30 : Cond.fieldLink RX7 323 "MillTalk" "latestFinding" "I" ∈ wsX7_refusalToHear := mb_X7_refusalToHear_wsX7_refusalToHear_r2 (List.mem_of_getElem? (i := 5) rfl)
theorem mx_X7_refusalToHear_31 : Cond.constant RX7 326 (-1000010) ∈ wsX7_refusalToHear := mb_X7_refusalToHear_wsX7_refusalToHear_r2 (List.mem_of_getElem? (i := 6) rfl)
theorem mb_X7_refusalToHear_wsX70 {w : Cond} (h : w ∈ wsX70) : w ∈ wsX7_refusalToHear := by unfold wsX7_refusalToHear; exact List.mem_cons_of_mem _ (List.mem_append_left _ (List.mem_append_left _ (List.mem_append_right _ (h))))
theorem ggX7_refusalToHear_X7_found : GoodIn wsX7_refusalToHear wsX7_found := goodIn_sub (by unfold wsX7_found; exact List.forall_mem_cons.mpr ⟨mx_X7_refusalToHear_29, List.forall_mem_append.mpr ⟨List.forall_mem_cons.mpr ⟨mx_X7_refusalToHear_30, List.forall_mem_cons.mpr ⟨mx_X7_refusalToHear_31, fun _ h_ => absurd h_ List.not_mem_nil⟩⟩, (fun _ h_ => mb_X7_refusalToHear_wsX70 h_)⟩⟩) (by decide +kernel)
theorem mx_X7_refusalToHear_25 : Cond.methodLink RX7 73 yX7_found ∈ wsX7_refusalToHear := mb_X7_refusalToHear_wsX7_refusalToHear_r2 (List.mem_of_getElem? (i := 0) rfl)
theorem mx_X7_refusalToHear_26 : Cond.instanceMethod yX7_found ∈ wsX7_refusalToHear := mb_X7_refusalToHear_wsX7_refusalToHear_r2 (List.mem_of_getElem? (i := 1) rfl)
theorem mx_X7_refusalToHear_27 : Cond.selects RX7 yX7_found yX7_found ∈ wsX7_refusalToHear := mb_X7_refusalToHear_wsX7_refusalToHear_r2 (List.mem_of_getElem? (i := 2) rfl)
theorem mx_X7_refusalToHear_28 : Cond.initialized RX7 ∈ wsX7_refusalToHear := mb_X7_refusalToHear_wsX7_refusalToHear_r2 (List.mem_of_getElem? (i := 3) rfl)
theorem gX7_refusalToHear_X7_found : GoodIn wsX7_refusalToHear (wsV RX7 73 RX7 yX7_found wsX7_found) := goodIn_app (goodIn_sub (List.forall_mem_cons.mpr ⟨mx_X7_refusalToHear_25, List.forall_mem_cons.mpr ⟨mx_X7_refusalToHear_26, List.forall_mem_cons.mpr ⟨mx_X7_refusalToHear_27, List.forall_mem_cons.mpr ⟨mx_X7_refusalToHear_28, fun _ h_ => absurd h_ List.not_mem_nil⟩⟩⟩⟩) (by decide +kernel)) ggX7_refusalToHear_X7_found
theorem mb_X7_site_wsX7_site_r1 {w : Cond} (h : w ∈ wsX7_site_r1) : w ∈ wsX7_site := by unfold wsX7_site; exact List.mem_cons_of_mem _ (List.mem_append_left _ (List.mem_append_left _ (List.mem_append_left _ (h))))
theorem mx_X7_site_16 : Cond.code yX3_becomeLike cX3_becomeLike 2 none ∈ wsX7_site := mb_X7_site_wsX7_site_r1 (List.mem_of_getElem? (i := 15) rfl)
theorem mx_X7_site_12 : Cond.fieldLink RX3 27 "MillTalk$Level" "cells" "I" ∈ wsX7_site := mb_X7_site_wsX7_site_r1 (List.mem_of_getElem? (i := 11) rfl)
theorem mx_X7_site_17 : Cond.fieldLink RX3 31 "MillTalk$Level" "mill" "I" ∈ wsX7_site := mb_X7_site_wsX7_site_r1 (List.mem_of_getElem? (i := 16) rfl)
theorem mx_X7_site_18 : Cond.fieldLink RX3 34 "MillTalk$Level" "reach" "I" ∈ wsX7_site := mb_X7_site_wsX7_site_r1 (List.mem_of_getElem? (i := 17) rfl)
theorem mx_X7_site_19 : Cond.fieldLink RX3 37 "MillTalk$Level" "cap" "I" ∈ wsX7_site := mb_X7_site_wsX7_site_r1 (List.mem_of_getElem? (i := 18) rfl)
theorem mx_X7_site_20 : Cond.fieldLink RX3 40 "MillTalk$Level" "hour" "I" ∈ wsX7_site := mb_X7_site_wsX7_site_r1 (List.mem_of_getElem? (i := 19) rfl)
theorem mx_X7_site_21 : Cond.fieldLink RX3 43 "MillTalk$Level" "meal" "I" ∈ wsX7_site := mb_X7_site_wsX7_site_r1 (List.mem_of_getElem? (i := 20) rfl)
theorem mx_X7_site_22 : Cond.fieldLink RX3 46 "MillTalk$Level" "windCount" "I" ∈ wsX7_site := mb_X7_site_wsX7_site_r1 (List.mem_of_getElem? (i := 21) rfl)
theorem mx_X7_site_23 : Cond.fieldLink RX3 49 "MillTalk$Level" "soundCount" "I" ∈ wsX7_site := mb_X7_site_wsX7_site_r1 (List.mem_of_getElem? (i := 22) rfl)
theorem mx_X7_site_24 : Cond.fieldLink RX3 9 "MillTalk$Level" "winds" "[I" ∈ wsX7_site := mb_X7_site_wsX7_site_r1 (List.mem_of_getElem? (i := 23) rfl)
theorem mb_X7_site_wsX7_site_r2 {w : Cond} (h : w ∈ wsX7_site_r2) : w ∈ wsX7_site := by unfold wsX7_site; exact List.mem_cons_of_mem _ (List.mem_append_left _ (List.mem_append_left _ (List.mem_append_right _ (List.mem_append_left _ (h)))))
theorem mx_X7_site_25 : Cond.methodLink RX3 52 arraycopyName ∈ wsX7_site := mb_X7_site_wsX7_site_r2 (List.mem_of_getElem? (i := 0) rfl)
theorem mx_X7_site_26 : Cond.native arraycopyName ∈ wsX7_site := mb_X7_site_wsX7_site_r2 (List.mem_of_getElem? (i := 1) rfl)
theorem mx_X7_site_27 : Cond.static arraycopyName ∈ wsX7_site := mb_X7_site_wsX7_site_r2 (List.mem_of_getElem? (i := 2) rfl)
theorem mx_X7_site_28 : Cond.initialized "java/lang/System" ∈ wsX7_site := mb_X7_site_wsX7_site_r2 (List.mem_of_getElem? (i := 3) rfl)
theorem mx_X7_site_29 : Cond.fieldLink RX3 15 "MillTalk$Level" "kinds" "[I" ∈ wsX7_site := mb_X7_site_wsX7_site_r2 (List.mem_of_getElem? (i := 4) rfl)
theorem mx_X7_site_30 : Cond.fieldLink RX3 18 "MillTalk$Level" "places" "[I" ∈ wsX7_site := mb_X7_site_wsX7_site_r2 (List.mem_of_getElem? (i := 5) rfl)
theorem mx_X7_site_31 : Cond.fieldLink RX3 21 "MillTalk$Level" "louds" "[I" ∈ wsX7_site := mb_X7_site_wsX7_site_r2 (List.mem_of_getElem? (i := 6) rfl)
theorem mx_X7_site_32 : Cond.fieldLink RX3 24 "MillTalk$Level" "hows" "[I" ∈ wsX7_site := mb_X7_site_wsX7_site_r2 (List.mem_of_getElem? (i := 7) rfl)
theorem mb_X7_site_wsX30 {w : Cond} (h : w ∈ wsX30) : w ∈ wsX7_site := by unfold wsX7_site; exact List.mem_cons_of_mem _ (List.mem_append_right _ (h))
theorem ggX7_site_X3_becomeLike : GoodIn wsX7_site wsX3_becomeLike := goodIn_sub (by unfold wsX3_becomeLike; exact List.forall_mem_cons.mpr ⟨mx_X7_site_16, List.forall_mem_append.mpr ⟨List.forall_mem_cons.mpr ⟨mx_X7_site_12, List.forall_mem_cons.mpr ⟨mx_X7_site_17, List.forall_mem_cons.mpr ⟨mx_X7_site_18, List.forall_mem_cons.mpr ⟨mx_X7_site_19, List.forall_mem_cons.mpr ⟨mx_X7_site_20, List.forall_mem_cons.mpr ⟨mx_X7_site_21, List.forall_mem_cons.mpr ⟨mx_X7_site_22, List.forall_mem_cons.mpr ⟨mx_X7_site_23, List.forall_mem_cons.mpr ⟨mx_X7_site_24, List.forall_mem_cons.mpr ⟨mx_X7_site_25, List.forall_mem_cons.mpr ⟨mx_X7_site_26, List.forall_mem_cons.mpr ⟨mx_X7_site_27, List.forall_mem_cons.mpr ⟨mx_X7_site_28, List.forall_mem_cons.mpr ⟨mx_X7_site_29, List.forall_mem_cons.mpr ⟨mx_X7_site_30, List.forall_mem_cons.mpr ⟨mx_X7_site_31, List.forall_mem_cons.mpr ⟨mx_X7_site_32, fun _ h_ => absurd h_ List.not_mem_nil⟩⟩⟩⟩⟩⟩⟩⟩⟩⟩⟩⟩⟩⟩⟩⟩⟩, (fun _ h_ => mb_X7_site_wsX30 h_)⟩⟩) (by decide +kernel)
theorem mx_X7_site_13 : Cond.methodLink RX7 128 yX3_becomeLike ∈ wsX7_site := mb_X7_site_wsX7_site_r1 (List.mem_of_getElem? (i := 12) rfl)
theorem mx_X7_site_14 : Cond.instanceMethod yX3_becomeLike ∈ wsX7_site := mb_X7_site_wsX7_site_r1 (List.mem_of_getElem? (i := 13) rfl)
theorem mx_X7_site_15 : Cond.selects RX3 yX3_becomeLike yX3_becomeLike ∈ wsX7_site := mb_X7_site_wsX7_site_r1 (List.mem_of_getElem? (i := 14) rfl)
theorem mx_X7_site_10 : Cond.initialized RX3 ∈ wsX7_site := mb_X7_site_wsX7_site_r1 (List.mem_of_getElem? (i := 9) rfl)
theorem gX7_site_X3_becomeLike : GoodIn wsX7_site (wsV RX7 128 RX3 yX3_becomeLike wsX3_becomeLike) := goodIn_app (goodIn_sub (List.forall_mem_cons.mpr ⟨mx_X7_site_13, List.forall_mem_cons.mpr ⟨mx_X7_site_14, List.forall_mem_cons.mpr ⟨mx_X7_site_15, List.forall_mem_cons.mpr ⟨mx_X7_site_10, fun _ h_ => absurd h_ List.not_mem_nil⟩⟩⟩⟩) (by decide +kernel)) ggX7_site_X3_becomeLike
theorem mx_X7_site_11 : Cond.code yX3_isTold cX3_isTold 1 (some .boolean) ∈ wsX7_site := mb_X7_site_wsX7_site_r1 (List.mem_of_getElem? (i := 10) rfl)
theorem ggX7_site_X3_isTold : GoodIn wsX7_site wsX3_isTold := goodIn_sub (by unfold wsX3_isTold; exact List.forall_mem_cons.mpr ⟨mx_X7_site_11, List.forall_mem_append.mpr ⟨List.forall_mem_cons.mpr ⟨mx_X7_site_12, fun _ h_ => absurd h_ List.not_mem_nil⟩, (fun _ h_ => mb_X7_site_wsX30 h_)⟩⟩) (by decide +kernel)
theorem mx_X7_site_7 : Cond.methodLink RX7 145 yX3_isTold ∈ wsX7_site := mb_X7_site_wsX7_site_r1 (List.mem_of_getElem? (i := 6) rfl)
theorem mx_X7_site_8 : Cond.instanceMethod yX3_isTold ∈ wsX7_site := mb_X7_site_wsX7_site_r1 (List.mem_of_getElem? (i := 7) rfl)
theorem mx_X7_site_9 : Cond.selects RX3 yX3_isTold yX3_isTold ∈ wsX7_site := mb_X7_site_wsX7_site_r1 (List.mem_of_getElem? (i := 8) rfl)
theorem gX7_site_X3_isTold : GoodIn wsX7_site (wsV RX7 145 RX3 yX3_isTold wsX3_isTold) := goodIn_app (goodIn_sub (List.forall_mem_cons.mpr ⟨mx_X7_site_7, List.forall_mem_cons.mpr ⟨mx_X7_site_8, List.forall_mem_cons.mpr ⟨mx_X7_site_9, List.forall_mem_cons.mpr ⟨mx_X7_site_10, fun _ h_ => absurd h_ List.not_mem_nil⟩⟩⟩⟩) (by decide +kernel)) ggX7_site_X3_isTold
theorem mx_X7_site_36 : Cond.code yX3_mealBehind cX3_mealBehind 3 (some .int) ∈ wsX7_site := mb_X7_site_wsX7_site_r2 (List.mem_of_getElem? (i := 11) rfl)
theorem mx_X7_site_37 : Cond.methodLink RX3 94 yX3_pass ∈ wsX7_site := mb_X7_site_wsX7_site_r2 (List.mem_of_getElem? (i := 12) rfl)
theorem mx_X7_site_38 : Cond.instanceMethod yX3_pass ∈ wsX7_site := mb_X7_site_wsX7_site_r2 (List.mem_of_getElem? (i := 13) rfl)
theorem mx_X7_site_39 : Cond.selects RX3 yX3_pass yX3_pass ∈ wsX7_site := mb_X7_site_wsX7_site_r2 (List.mem_of_getElem? (i := 14) rfl)
theorem mx_X7_site_40 : Cond.code yX3_pass cX3_pass 3 none ∈ wsX7_site := mb_X7_site_wsX7_site_r2 (List.mem_of_getElem? (i := 15) rfl)
theorem mx_X7_site_41 : Cond.methodLink RX3 87 yX3_windOn ∈ wsX7_site := mb_X7_site_wsX7_site_r2 (List.mem_of_getElem? (i := 16) rfl)
theorem mx_X7_site_42 : Cond.instanceMethod yX3_windOn ∈ wsX7_site := mb_X7_site_wsX7_site_r2 (List.mem_of_getElem? (i := 17) rfl)
theorem mx_X7_site_43 : Cond.selects RX3 yX3_windOn yX3_windOn ∈ wsX7_site := mb_X7_site_wsX7_site_r2 (List.mem_of_getElem? (i := 18) rfl)
theorem mx_X7_site_44 : Cond.code yX3_windOn cX3_windOn 2 (some .int) ∈ wsX7_site := mb_X7_site_wsX7_site_r2 (List.mem_of_getElem? (i := 19) rfl)
theorem mx_X7_site_45 : Cond.methodLink RX3 90 yX3_passSound ∈ wsX7_site := mb_X7_site_wsX7_site_r2 (List.mem_of_getElem? (i := 20) rfl)
theorem mx_X7_site_46 : Cond.instanceMethod yX3_passSound ∈ wsX7_site := mb_X7_site_wsX7_site_r2 (List.mem_of_getElem? (i := 21) rfl)
theorem mx_X7_site_47 : Cond.selects RX3 yX3_passSound yX3_passSound ∈ wsX7_site := mb_X7_site_wsX7_site_r2 (List.mem_of_getElem? (i := 22) rfl)
theorem mx_X7_site_48 : Cond.code yX3_passSound cX3_passSound 5 none ∈ wsX7_site := mb_X7_site_wsX7_site_r2 (List.mem_of_getElem? (i := 23) rfl)
theorem mb_X7_site_wsX7_site_r3 {w : Cond} (h : w ∈ wsX7_site_r3) : w ∈ wsX7_site := by unfold wsX7_site; exact List.mem_cons_of_mem _ (List.mem_append_left _ (List.mem_append_left _ (List.mem_append_right _ (List.mem_append_right _ (List.mem_append_left _ (h))))))
theorem mx_X7_site_49 : Cond.methodLink RX3 63 Lib.Math.min.name ∈ wsX7_site := mb_X7_site_wsX7_site_r3 (List.mem_of_getElem? (i := 0) rfl)
theorem mx_X7_site_50 : Cond.static Lib.Math.min.name ∈ wsX7_site := mb_X7_site_wsX7_site_r3 (List.mem_of_getElem? (i := 1) rfl)
theorem mx_X7_site_51 : Cond.initialized "java/lang/Math" ∈ wsX7_site := mb_X7_site_wsX7_site_r3 (List.mem_of_getElem? (i := 2) rfl)
theorem mx_X7_site_52 : Cond.code Lib.Math.min.name Lib.Math.min.code 2 (some .int) ∈ wsX7_site := mb_X7_site_wsX7_site_r3 (List.mem_of_getElem? (i := 3) rfl)
theorem mx_X7_site_53 : Cond.methodLink RX3 58 yX3_isLoose ∈ wsX7_site := mb_X7_site_wsX7_site_r3 (List.mem_of_getElem? (i := 4) rfl)
theorem mx_X7_site_54 : Cond.instanceMethod yX3_isLoose ∈ wsX7_site := mb_X7_site_wsX7_site_r3 (List.mem_of_getElem? (i := 5) rfl)
theorem mx_X7_site_55 : Cond.selects RX3 yX3_isLoose yX3_isLoose ∈ wsX7_site := mb_X7_site_wsX7_site_r3 (List.mem_of_getElem? (i := 6) rfl)
theorem mx_X7_site_56 : Cond.code yX3_isLoose cX3_isLoose 2 (some .boolean) ∈ wsX7_site := mb_X7_site_wsX7_site_r3 (List.mem_of_getElem? (i := 7) rfl)
theorem mx_X7_site_57 : Cond.methodLink RX3 69 yX3_driftOf ∈ wsX7_site := mb_X7_site_wsX7_site_r3 (List.mem_of_getElem? (i := 8) rfl)
theorem mx_X7_site_58 : Cond.instanceMethod yX3_driftOf ∈ wsX7_site := mb_X7_site_wsX7_site_r3 (List.mem_of_getElem? (i := 9) rfl)
theorem mx_X7_site_59 : Cond.selects RX3 yX3_driftOf yX3_driftOf ∈ wsX7_site := mb_X7_site_wsX7_site_r3 (List.mem_of_getElem? (i := 10) rfl)
theorem mx_X7_site_60 : Cond.code yX3_driftOf cX3_driftOf 4 (some .int) ∈ wsX7_site := mb_X7_site_wsX7_site_r3 (List.mem_of_getElem? (i := 11) rfl)
theorem mx_X7_site_61 : Cond.methodLink RX3 72 yX3_loudBehindHour ∈ wsX7_site := mb_X7_site_wsX7_site_r3 (List.mem_of_getElem? (i := 12) rfl)
theorem mx_X7_site_62 : Cond.instanceMethod yX3_loudBehindHour ∈ wsX7_site := mb_X7_site_wsX7_site_r3 (List.mem_of_getElem? (i := 13) rfl)
theorem mx_X7_site_63 : Cond.selects RX3 yX3_loudBehindHour yX3_loudBehindHour ∈ wsX7_site := mb_X7_site_wsX7_site_r3 (List.mem_of_getElem? (i := 14) rfl)
theorem mx_X7_site_64 : Cond.code yX3_loudBehindHour cX3_loudBehindHour 2 (some .int) ∈ wsX7_site := mb_X7_site_wsX7_site_r3 (List.mem_of_getElem? (i := 15) rfl)
theorem mx_X7_site_65 : Cond.methodLink RX3 76 yX3_hasCell ∈ wsX7_site := mb_X7_site_wsX7_site_r3 (List.mem_of_getElem? (i := 16) rfl)
theorem mx_X7_site_66 : Cond.instanceMethod yX3_hasCell ∈ wsX7_site := mb_X7_site_wsX7_site_r3 (List.mem_of_getElem? (i := 17) rfl)
theorem mx_X7_site_67 : Cond.selects RX3 yX3_hasCell yX3_hasCell ∈ wsX7_site := mb_X7_site_wsX7_site_r3 (List.mem_of_getElem? (i := 18) rfl)
theorem mx_X7_site_68 : Cond.code yX3_hasCell cX3_hasCell 2 (some .boolean) ∈ wsX7_site := mb_X7_site_wsX7_site_r3 (List.mem_of_getElem? (i := 19) rfl)
theorem mx_X7_site_69 : Cond.methodLink RX3 79 yX3_letLoose ∈ wsX7_site := mb_X7_site_wsX7_site_r3 (List.mem_of_getElem? (i := 20) rfl)
theorem mx_X7_site_70 : Cond.instanceMethod yX3_letLoose ∈ wsX7_site := mb_X7_site_wsX7_site_r3 (List.mem_of_getElem? (i := 21) rfl)
theorem mx_X7_site_71 : Cond.selects RX3 yX3_letLoose yX3_letLoose ∈ wsX7_site := mb_X7_site_wsX7_site_r3 (List.mem_of_getElem? (i := 22) rfl)
theorem mx_X7_site_72 : Cond.code yX3_letLoose cX3_letLoose 4 none ∈ wsX7_site := mb_X7_site_wsX7_site_r3 (List.mem_of_getElem? (i := 23) rfl)
theorem mb_X7_site_wsX7_site_r4 {w : Cond} (h : w ∈ wsX7_site_r4) : w ∈ wsX7_site := by unfold wsX7_site; exact List.mem_cons_of_mem _ (List.mem_append_left _ (List.mem_append_left _ (List.mem_append_right _ (List.mem_append_right _ (List.mem_append_right _ (h))))))
theorem mx_X7_site_73 : Cond.methodLink RX3 83 yX3_grindsAt ∈ wsX7_site := mb_X7_site_wsX7_site_r4 (List.mem_of_getElem? (i := 0) rfl)
theorem mx_X7_site_74 : Cond.instanceMethod yX3_grindsAt ∈ wsX7_site := mb_X7_site_wsX7_site_r4 (List.mem_of_getElem? (i := 1) rfl)
theorem mx_X7_site_75 : Cond.selects RX3 yX3_grindsAt yX3_grindsAt ∈ wsX7_site := mb_X7_site_wsX7_site_r4 (List.mem_of_getElem? (i := 2) rfl)
theorem mx_X7_site_76 : Cond.code yX3_grindsAt cX3_grindsAt 4 (some .boolean) ∈ wsX7_site := mb_X7_site_wsX7_site_r4 (List.mem_of_getElem? (i := 3) rfl)
theorem ggX7_site_X3_mealBehind : GoodIn wsX7_site wsX3_mealBehind := goodIn_sub (by unfold wsX3_mealBehind; exact List.forall_mem_cons.mpr ⟨mx_X7_site_36, List.forall_mem_append.mpr ⟨List.forall_mem_append.mpr ⟨(by unfold wsX3_mealBehind_r1; exact List.forall_mem_cons.mpr ⟨mx_X7_site_21, List.forall_mem_cons.mpr ⟨mx_X7_site_37, List.forall_mem_cons.mpr ⟨mx_X7_site_38, List.forall_mem_cons.mpr ⟨mx_X7_site_39, List.forall_mem_cons.mpr ⟨mx_X7_site_10, List.forall_mem_cons.mpr ⟨mx_X7_site_40, List.forall_mem_cons.mpr ⟨mx_X7_site_23, List.forall_mem_cons.mpr ⟨mx_X7_site_20, List.forall_mem_cons.mpr ⟨mx_X7_site_41, List.forall_mem_cons.mpr ⟨mx_X7_site_42, List.forall_mem_cons.mpr ⟨mx_X7_site_43, List.forall_mem_cons.mpr ⟨mx_X7_site_44, List.forall_mem_cons.mpr ⟨mx_X7_site_22, List.forall_mem_cons.mpr ⟨mx_X7_site_24, List.forall_mem_cons.mpr ⟨mx_X7_site_45, List.forall_mem_cons.mpr ⟨mx_X7_site_46, List.forall_mem_cons.mpr ⟨mx_X7_site_47, List.forall_mem_cons.mpr ⟨mx_X7_site_48, List.forall_mem_cons.mpr ⟨mx_X7_site_30, List.forall_mem_cons.mpr ⟨mx_X7_site_32, List.forall_mem_cons.mpr ⟨mx_X7_site_49, List.forall_mem_cons.mpr ⟨mx_X7_site_50, List.forall_mem_cons.mpr ⟨mx_X7_site_51, List.forall_mem_cons.mpr ⟨mx_X7_site_52, fun _ h_ => absurd h_ List.not_mem_nil⟩⟩⟩⟩⟩⟩⟩⟩⟩⟩⟩⟩⟩⟩⟩⟩⟩⟩⟩⟩⟩⟩⟩⟩), List.forall_mem_append.mpr ⟨(by unfold wsX3_mealBehind_r2; exact List.forall_mem_cons.mpr ⟨mx_X7_site_53, List.forall_mem_cons.mpr ⟨mx_X7_site_54, List.forall_mem_cons.mpr ⟨mx_X7_site_55, List.forall_mem_cons.mpr ⟨mx_X7_site_56, List.forall_mem_cons.mpr ⟨mx_X7_site_57, List.forall_mem_cons.mpr ⟨mx_X7_site_58, List.forall_mem_cons.mpr ⟨mx_X7_site_59, List.forall_mem_cons.mpr ⟨mx_X7_site_60, List.forall_mem_cons.mpr ⟨mx_X7_site_29, List.forall_mem_cons.mpr ⟨mx_X7_site_61, List.forall_mem_cons.mpr ⟨mx_X7_site_62, List.forall_mem_cons.mpr ⟨mx_X7_site_63, List.forall_mem_cons.mpr ⟨mx_X7_site_64, List.forall_mem_cons.mpr ⟨mx_X7_site_31, List.forall_mem_cons.mpr ⟨mx_X7_site_65, List.forall_mem_cons.mpr ⟨mx_X7_site_66, List.forall_mem_cons.mpr ⟨mx_X7_site_67, List.forall_mem_cons.mpr ⟨mx_X7_site_68, List.forall_mem_cons.mpr ⟨mx_X7_site_12, List.forall_mem_cons.mpr ⟨mx_X7_site_69, List.forall_mem_cons.mpr ⟨mx_X7_site_70, List.forall_mem_cons.mpr ⟨mx_X7_site_71, List.forall_mem_cons.mpr ⟨mx_X7_site_72, List.forall_mem_cons.mpr ⟨mx_X7_site_73, fun _ h_ => absurd h_ List.not_mem_nil⟩⟩⟩⟩⟩⟩⟩⟩⟩⟩⟩⟩⟩⟩⟩⟩⟩⟩⟩⟩⟩⟩⟩⟩), (by unfold wsX3_mealBehind_r3; exact List.forall_mem_cons.mpr ⟨mx_X7_site_74, List.forall_mem_cons.mpr ⟨mx_X7_site_75, List.forall_mem_cons.mpr ⟨mx_X7_site_76, List.forall_mem_cons.mpr ⟨mx_X7_site_19, List.forall_mem_cons.mpr ⟨mx_X7_site_17, List.forall_mem_cons.mpr ⟨mx_X7_site_18, fun _ h_ => absurd h_ List.not_mem_nil⟩⟩⟩⟩⟩⟩)⟩⟩, (fun _ h_ => mb_X7_site_wsX30 h_)⟩⟩) (by decide +kernel)
theorem mx_X7_site_33 : Cond.methodLink RX7 214 yX3_mealBehind ∈ wsX7_site := mb_X7_site_wsX7_site_r2 (List.mem_of_getElem? (i := 8) rfl)
theorem mx_X7_site_34 : Cond.instanceMethod yX3_mealBehind ∈ wsX7_site := mb_X7_site_wsX7_site_r2 (List.mem_of_getElem? (i := 9) rfl)
theorem mx_X7_site_35 : Cond.selects RX3 yX3_mealBehind yX3_mealBehind ∈ wsX7_site := mb_X7_site_wsX7_site_r2 (List.mem_of_getElem? (i := 10) rfl)
theorem gX7_site_X3_mealBehind : GoodIn wsX7_site (wsV RX7 214 RX3 yX3_mealBehind wsX3_mealBehind) := goodIn_app (goodIn_sub (List.forall_mem_cons.mpr ⟨mx_X7_site_33, List.forall_mem_cons.mpr ⟨mx_X7_site_34, List.forall_mem_cons.mpr ⟨mx_X7_site_35, List.forall_mem_cons.mpr ⟨mx_X7_site_10, fun _ h_ => absurd h_ List.not_mem_nil⟩⟩⟩⟩) (by decide +kernel)) ggX7_site_X3_mealBehind
theorem mb_X7_startsThatFit_wsX7_startsThatFit_r1 {w : Cond} (h : w ∈ wsX7_startsThatFit_r1) : w ∈ wsX7_startsThatFit := by unfold wsX7_startsThatFit; exact List.mem_cons_of_mem _ (List.mem_append_left _ (List.mem_append_left _ (List.mem_append_left _ (List.mem_append_left _ (h)))))
theorem mx_X7_startsThatFit_9 : Cond.code yX3_becomeLike cX3_becomeLike 2 none ∈ wsX7_startsThatFit := mb_X7_startsThatFit_wsX7_startsThatFit_r1 (List.mem_of_getElem? (i := 8) rfl)
theorem mx_X7_startsThatFit_10 : Cond.fieldLink RX3 27 "MillTalk$Level" "cells" "I" ∈ wsX7_startsThatFit := mb_X7_startsThatFit_wsX7_startsThatFit_r1 (List.mem_of_getElem? (i := 9) rfl)
theorem mx_X7_startsThatFit_11 : Cond.fieldLink RX3 31 "MillTalk$Level" "mill" "I" ∈ wsX7_startsThatFit := mb_X7_startsThatFit_wsX7_startsThatFit_r1 (List.mem_of_getElem? (i := 10) rfl)
theorem mx_X7_startsThatFit_12 : Cond.fieldLink RX3 34 "MillTalk$Level" "reach" "I" ∈ wsX7_startsThatFit := mb_X7_startsThatFit_wsX7_startsThatFit_r1 (List.mem_of_getElem? (i := 11) rfl)
theorem mx_X7_startsThatFit_13 : Cond.fieldLink RX3 37 "MillTalk$Level" "cap" "I" ∈ wsX7_startsThatFit := mb_X7_startsThatFit_wsX7_startsThatFit_r1 (List.mem_of_getElem? (i := 12) rfl)
theorem mx_X7_startsThatFit_14 : Cond.fieldLink RX3 40 "MillTalk$Level" "hour" "I" ∈ wsX7_startsThatFit := mb_X7_startsThatFit_wsX7_startsThatFit_r1 (List.mem_of_getElem? (i := 13) rfl)
theorem mx_X7_startsThatFit_15 : Cond.fieldLink RX3 43 "MillTalk$Level" "meal" "I" ∈ wsX7_startsThatFit := mb_X7_startsThatFit_wsX7_startsThatFit_r1 (List.mem_of_getElem? (i := 14) rfl)
theorem mx_X7_startsThatFit_16 : Cond.fieldLink RX3 46 "MillTalk$Level" "windCount" "I" ∈ wsX7_startsThatFit := mb_X7_startsThatFit_wsX7_startsThatFit_r1 (List.mem_of_getElem? (i := 15) rfl)
theorem mx_X7_startsThatFit_17 : Cond.fieldLink RX3 49 "MillTalk$Level" "soundCount" "I" ∈ wsX7_startsThatFit := mb_X7_startsThatFit_wsX7_startsThatFit_r1 (List.mem_of_getElem? (i := 16) rfl)
theorem mx_X7_startsThatFit_18 : Cond.fieldLink RX3 9 "MillTalk$Level" "winds" "[I" ∈ wsX7_startsThatFit := mb_X7_startsThatFit_wsX7_startsThatFit_r1 (List.mem_of_getElem? (i := 17) rfl)
theorem mx_X7_startsThatFit_19 : Cond.methodLink RX3 52 arraycopyName ∈ wsX7_startsThatFit := mb_X7_startsThatFit_wsX7_startsThatFit_r1 (List.mem_of_getElem? (i := 18) rfl)
theorem mx_X7_startsThatFit_20 : Cond.native arraycopyName ∈ wsX7_startsThatFit := mb_X7_startsThatFit_wsX7_startsThatFit_r1 (List.mem_of_getElem? (i := 19) rfl)
theorem mx_X7_startsThatFit_21 : Cond.static arraycopyName ∈ wsX7_startsThatFit := mb_X7_startsThatFit_wsX7_startsThatFit_r1 (List.mem_of_getElem? (i := 20) rfl)
theorem mx_X7_startsThatFit_22 : Cond.initialized "java/lang/System" ∈ wsX7_startsThatFit := mb_X7_startsThatFit_wsX7_startsThatFit_r1 (List.mem_of_getElem? (i := 21) rfl)
theorem mx_X7_startsThatFit_23 : Cond.fieldLink RX3 15 "MillTalk$Level" "kinds" "[I" ∈ wsX7_startsThatFit := mb_X7_startsThatFit_wsX7_startsThatFit_r1 (List.mem_of_getElem? (i := 22) rfl)
theorem mx_X7_startsThatFit_24 : Cond.fieldLink RX3 18 "MillTalk$Level" "places" "[I" ∈ wsX7_startsThatFit := mb_X7_startsThatFit_wsX7_startsThatFit_r1 (List.mem_of_getElem? (i := 23) rfl)
theorem mb_X7_startsThatFit_wsX7_startsThatFit_r2 {w : Cond} (h : w ∈ wsX7_startsThatFit_r2) : w ∈ wsX7_startsThatFit := by unfold wsX7_startsThatFit; exact List.mem_cons_of_mem _ (List.mem_append_left _ (List.mem_append_left _ (List.mem_append_left _ (List.mem_append_right _ (List.mem_append_left _ (h))))))
theorem mx_X7_startsThatFit_25 : Cond.fieldLink RX3 21 "MillTalk$Level" "louds" "[I" ∈ wsX7_startsThatFit := mb_X7_startsThatFit_wsX7_startsThatFit_r2 (List.mem_of_getElem? (i := 0) rfl)
theorem mx_X7_startsThatFit_26 : Cond.fieldLink RX3 24 "MillTalk$Level" "hows" "[I" ∈ wsX7_startsThatFit := mb_X7_startsThatFit_wsX7_startsThatFit_r2 (List.mem_of_getElem? (i := 1) rfl)
theorem mb_X7_startsThatFit_wsX30 {w : Cond} (h : w ∈ wsX30) : w ∈ wsX7_startsThatFit := by unfold wsX7_startsThatFit; exact List.mem_cons_of_mem _ (List.mem_append_left _ (List.mem_append_right _ (h)))
theorem ggX7_startsThatFit_X3_becomeLike : GoodIn wsX7_startsThatFit wsX3_becomeLike := goodIn_sub (by unfold wsX3_becomeLike; exact List.forall_mem_cons.mpr ⟨mx_X7_startsThatFit_9, List.forall_mem_append.mpr ⟨List.forall_mem_cons.mpr ⟨mx_X7_startsThatFit_10, List.forall_mem_cons.mpr ⟨mx_X7_startsThatFit_11, List.forall_mem_cons.mpr ⟨mx_X7_startsThatFit_12, List.forall_mem_cons.mpr ⟨mx_X7_startsThatFit_13, List.forall_mem_cons.mpr ⟨mx_X7_startsThatFit_14, List.forall_mem_cons.mpr ⟨mx_X7_startsThatFit_15, List.forall_mem_cons.mpr ⟨mx_X7_startsThatFit_16, List.forall_mem_cons.mpr ⟨mx_X7_startsThatFit_17, List.forall_mem_cons.mpr ⟨mx_X7_startsThatFit_18, List.forall_mem_cons.mpr ⟨mx_X7_startsThatFit_19, List.forall_mem_cons.mpr ⟨mx_X7_startsThatFit_20, List.forall_mem_cons.mpr ⟨mx_X7_startsThatFit_21, List.forall_mem_cons.mpr ⟨mx_X7_startsThatFit_22, List.forall_mem_cons.mpr ⟨mx_X7_startsThatFit_23, List.forall_mem_cons.mpr ⟨mx_X7_startsThatFit_24, List.forall_mem_cons.mpr ⟨mx_X7_startsThatFit_25, List.forall_mem_cons.mpr ⟨mx_X7_startsThatFit_26, fun _ h_ => absurd h_ List.not_mem_nil⟩⟩⟩⟩⟩⟩⟩⟩⟩⟩⟩⟩⟩⟩⟩⟩⟩, (fun _ h_ => mb_X7_startsThatFit_wsX30 h_)⟩⟩) (by decide +kernel)
theorem mx_X7_startsThatFit_5 : Cond.methodLink RX7 128 yX3_becomeLike ∈ wsX7_startsThatFit := mb_X7_startsThatFit_wsX7_startsThatFit_r1 (List.mem_of_getElem? (i := 4) rfl)
theorem mx_X7_startsThatFit_6 : Cond.instanceMethod yX3_becomeLike ∈ wsX7_startsThatFit := mb_X7_startsThatFit_wsX7_startsThatFit_r1 (List.mem_of_getElem? (i := 5) rfl)
theorem mx_X7_startsThatFit_7 : Cond.selects RX3 yX3_becomeLike yX3_becomeLike ∈ wsX7_startsThatFit := mb_X7_startsThatFit_wsX7_startsThatFit_r1 (List.mem_of_getElem? (i := 6) rfl)
theorem mx_X7_startsThatFit_8 : Cond.initialized RX3 ∈ wsX7_startsThatFit := mb_X7_startsThatFit_wsX7_startsThatFit_r1 (List.mem_of_getElem? (i := 7) rfl)
theorem gX7_startsThatFit_X3_becomeLike : GoodIn wsX7_startsThatFit (wsV RX7 128 RX3 yX3_becomeLike wsX3_becomeLike) := goodIn_app (goodIn_sub (List.forall_mem_cons.mpr ⟨mx_X7_startsThatFit_5, List.forall_mem_cons.mpr ⟨mx_X7_startsThatFit_6, List.forall_mem_cons.mpr ⟨mx_X7_startsThatFit_7, List.forall_mem_cons.mpr ⟨mx_X7_startsThatFit_8, fun _ h_ => absurd h_ List.not_mem_nil⟩⟩⟩⟩) (by decide +kernel)) ggX7_startsThatFit_X3_becomeLike
theorem mx_X7_startsThatFit_31 : Cond.code yX7_trialFits cX7_trialFits 7 (some .boolean) ∈ wsX7_startsThatFit := mb_X7_startsThatFit_wsX7_startsThatFit_r2 (List.mem_of_getElem? (i := 6) rfl)
theorem mx_X7_startsThatFit_3 : Cond.fieldLink RX7 41 "MillTalk" "trial" "LMillTalk$Level;" ∈ wsX7_startsThatFit := mb_X7_startsThatFit_wsX7_startsThatFit_r1 (List.mem_of_getElem? (i := 2) rfl)
theorem mx_X7_startsThatFit_4 : Cond.fieldLink RX7 334 "MillTalk$Level" "places" "[I" ∈ wsX7_startsThatFit := mb_X7_startsThatFit_wsX7_startsThatFit_r1 (List.mem_of_getElem? (i := 3) rfl)
theorem mx_X7_startsThatFit_32 : Cond.fieldLink RX7 10 "MillTalk" "rows" "LMillTalk$Rows;" ∈ wsX7_startsThatFit := mb_X7_startsThatFit_wsX7_startsThatFit_r2 (List.mem_of_getElem? (i := 7) rfl)
theorem mx_X7_startsThatFit_33 : Cond.methodLink RX7 210 yX3_passOnly ∈ wsX7_startsThatFit := mb_X7_startsThatFit_wsX7_startsThatFit_r2 (List.mem_of_getElem? (i := 8) rfl)
theorem mx_X7_startsThatFit_34 : Cond.instanceMethod yX3_passOnly ∈ wsX7_startsThatFit := mb_X7_startsThatFit_wsX7_startsThatFit_r2 (List.mem_of_getElem? (i := 9) rfl)
theorem mx_X7_startsThatFit_35 : Cond.selects RX3 yX3_passOnly yX3_passOnly ∈ wsX7_startsThatFit := mb_X7_startsThatFit_wsX7_startsThatFit_r2 (List.mem_of_getElem? (i := 10) rfl)
theorem mx_X7_startsThatFit_36 : Cond.code yX3_passOnly cX3_passOnly 4 none ∈ wsX7_startsThatFit := mb_X7_startsThatFit_wsX7_startsThatFit_r2 (List.mem_of_getElem? (i := 11) rfl)
theorem mx_X7_startsThatFit_37 : Cond.methodLink RX3 87 yX3_windOn ∈ wsX7_startsThatFit := mb_X7_startsThatFit_wsX7_startsThatFit_r2 (List.mem_of_getElem? (i := 12) rfl)
theorem mx_X7_startsThatFit_38 : Cond.instanceMethod yX3_windOn ∈ wsX7_startsThatFit := mb_X7_startsThatFit_wsX7_startsThatFit_r2 (List.mem_of_getElem? (i := 13) rfl)
theorem mx_X7_startsThatFit_39 : Cond.selects RX3 yX3_windOn yX3_windOn ∈ wsX7_startsThatFit := mb_X7_startsThatFit_wsX7_startsThatFit_r2 (List.mem_of_getElem? (i := 14) rfl)
theorem mx_X7_startsThatFit_40 : Cond.code yX3_windOn cX3_windOn 2 (some .int) ∈ wsX7_startsThatFit := mb_X7_startsThatFit_wsX7_startsThatFit_r2 (List.mem_of_getElem? (i := 15) rfl)
theorem mx_X7_startsThatFit_41 : Cond.methodLink RX3 90 yX3_passSound ∈ wsX7_startsThatFit := mb_X7_startsThatFit_wsX7_startsThatFit_r2 (List.mem_of_getElem? (i := 16) rfl)
theorem mx_X7_startsThatFit_42 : Cond.instanceMethod yX3_passSound ∈ wsX7_startsThatFit := mb_X7_startsThatFit_wsX7_startsThatFit_r2 (List.mem_of_getElem? (i := 17) rfl)
theorem mx_X7_startsThatFit_43 : Cond.selects RX3 yX3_passSound yX3_passSound ∈ wsX7_startsThatFit := mb_X7_startsThatFit_wsX7_startsThatFit_r2 (List.mem_of_getElem? (i := 18) rfl)
theorem mx_X7_startsThatFit_44 : Cond.code yX3_passSound cX3_passSound 5 none ∈ wsX7_startsThatFit := mb_X7_startsThatFit_wsX7_startsThatFit_r2 (List.mem_of_getElem? (i := 19) rfl)
theorem mx_X7_startsThatFit_45 : Cond.methodLink RX3 63 Lib.Math.min.name ∈ wsX7_startsThatFit := mb_X7_startsThatFit_wsX7_startsThatFit_r2 (List.mem_of_getElem? (i := 20) rfl)
theorem mx_X7_startsThatFit_46 : Cond.static Lib.Math.min.name ∈ wsX7_startsThatFit := mb_X7_startsThatFit_wsX7_startsThatFit_r2 (List.mem_of_getElem? (i := 21) rfl)
theorem mx_X7_startsThatFit_47 : Cond.initialized "java/lang/Math" ∈ wsX7_startsThatFit := mb_X7_startsThatFit_wsX7_startsThatFit_r2 (List.mem_of_getElem? (i := 22) rfl)
theorem mx_X7_startsThatFit_48 : Cond.code Lib.Math.min.name Lib.Math.min.code 2 (some .int) ∈ wsX7_startsThatFit := mb_X7_startsThatFit_wsX7_startsThatFit_r2 (List.mem_of_getElem? (i := 23) rfl)
theorem mb_X7_startsThatFit_wsX7_startsThatFit_r3 {w : Cond} (h : w ∈ wsX7_startsThatFit_r3) : w ∈ wsX7_startsThatFit := by unfold wsX7_startsThatFit; exact List.mem_cons_of_mem _ (List.mem_append_left _ (List.mem_append_left _ (List.mem_append_left _ (List.mem_append_right _ (List.mem_append_right _ (List.mem_append_left _ (h)))))))
theorem mx_X7_startsThatFit_49 : Cond.methodLink RX3 58 yX3_isLoose ∈ wsX7_startsThatFit := mb_X7_startsThatFit_wsX7_startsThatFit_r3 (List.mem_of_getElem? (i := 0) rfl)
theorem mx_X7_startsThatFit_50 : Cond.instanceMethod yX3_isLoose ∈ wsX7_startsThatFit := mb_X7_startsThatFit_wsX7_startsThatFit_r3 (List.mem_of_getElem? (i := 1) rfl)
theorem mx_X7_startsThatFit_51 : Cond.selects RX3 yX3_isLoose yX3_isLoose ∈ wsX7_startsThatFit := mb_X7_startsThatFit_wsX7_startsThatFit_r3 (List.mem_of_getElem? (i := 2) rfl)
theorem mx_X7_startsThatFit_52 : Cond.code yX3_isLoose cX3_isLoose 2 (some .boolean) ∈ wsX7_startsThatFit := mb_X7_startsThatFit_wsX7_startsThatFit_r3 (List.mem_of_getElem? (i := 3) rfl)
theorem mx_X7_startsThatFit_53 : Cond.methodLink RX3 69 yX3_driftOf ∈ wsX7_startsThatFit := mb_X7_startsThatFit_wsX7_startsThatFit_r3 (List.mem_of_getElem? (i := 4) rfl)
theorem mx_X7_startsThatFit_54 : Cond.instanceMethod yX3_driftOf ∈ wsX7_startsThatFit := mb_X7_startsThatFit_wsX7_startsThatFit_r3 (List.mem_of_getElem? (i := 5) rfl)
theorem mx_X7_startsThatFit_55 : Cond.selects RX3 yX3_driftOf yX3_driftOf ∈ wsX7_startsThatFit := mb_X7_startsThatFit_wsX7_startsThatFit_r3 (List.mem_of_getElem? (i := 6) rfl)
theorem mx_X7_startsThatFit_56 : Cond.code yX3_driftOf cX3_driftOf 4 (some .int) ∈ wsX7_startsThatFit := mb_X7_startsThatFit_wsX7_startsThatFit_r3 (List.mem_of_getElem? (i := 7) rfl)
theorem mx_X7_startsThatFit_57 : Cond.methodLink RX3 72 yX3_loudBehindHour ∈ wsX7_startsThatFit := mb_X7_startsThatFit_wsX7_startsThatFit_r3 (List.mem_of_getElem? (i := 8) rfl)
theorem mx_X7_startsThatFit_58 : Cond.instanceMethod yX3_loudBehindHour ∈ wsX7_startsThatFit := mb_X7_startsThatFit_wsX7_startsThatFit_r3 (List.mem_of_getElem? (i := 9) rfl)
theorem mx_X7_startsThatFit_59 : Cond.selects RX3 yX3_loudBehindHour yX3_loudBehindHour ∈ wsX7_startsThatFit := mb_X7_startsThatFit_wsX7_startsThatFit_r3 (List.mem_of_getElem? (i := 10) rfl)
theorem mx_X7_startsThatFit_60 : Cond.code yX3_loudBehindHour cX3_loudBehindHour 2 (some .int) ∈ wsX7_startsThatFit := mb_X7_startsThatFit_wsX7_startsThatFit_r3 (List.mem_of_getElem? (i := 11) rfl)
theorem mx_X7_startsThatFit_61 : Cond.methodLink RX3 76 yX3_hasCell ∈ wsX7_startsThatFit := mb_X7_startsThatFit_wsX7_startsThatFit_r3 (List.mem_of_getElem? (i := 12) rfl)
theorem mx_X7_startsThatFit_62 : Cond.instanceMethod yX3_hasCell ∈ wsX7_startsThatFit := mb_X7_startsThatFit_wsX7_startsThatFit_r3 (List.mem_of_getElem? (i := 13) rfl)
theorem mx_X7_startsThatFit_63 : Cond.selects RX3 yX3_hasCell yX3_hasCell ∈ wsX7_startsThatFit := mb_X7_startsThatFit_wsX7_startsThatFit_r3 (List.mem_of_getElem? (i := 14) rfl)
theorem mx_X7_startsThatFit_64 : Cond.code yX3_hasCell cX3_hasCell 2 (some .boolean) ∈ wsX7_startsThatFit := mb_X7_startsThatFit_wsX7_startsThatFit_r3 (List.mem_of_getElem? (i := 15) rfl)
theorem mx_X7_startsThatFit_65 : Cond.methodLink RX3 79 yX3_letLoose ∈ wsX7_startsThatFit := mb_X7_startsThatFit_wsX7_startsThatFit_r3 (List.mem_of_getElem? (i := 16) rfl)
theorem mx_X7_startsThatFit_66 : Cond.instanceMethod yX3_letLoose ∈ wsX7_startsThatFit := mb_X7_startsThatFit_wsX7_startsThatFit_r3 (List.mem_of_getElem? (i := 17) rfl)
theorem mx_X7_startsThatFit_67 : Cond.selects RX3 yX3_letLoose yX3_letLoose ∈ wsX7_startsThatFit := mb_X7_startsThatFit_wsX7_startsThatFit_r3 (List.mem_of_getElem? (i := 18) rfl)
theorem mx_X7_startsThatFit_68 : Cond.code yX3_letLoose cX3_letLoose 4 none ∈ wsX7_startsThatFit := mb_X7_startsThatFit_wsX7_startsThatFit_r3 (List.mem_of_getElem? (i := 19) rfl)
theorem mx_X7_startsThatFit_69 : Cond.methodLink RX3 83 yX3_grindsAt ∈ wsX7_startsThatFit := mb_X7_startsThatFit_wsX7_startsThatFit_r3 (List.mem_of_getElem? (i := 20) rfl)
theorem mx_X7_startsThatFit_70 : Cond.instanceMethod yX3_grindsAt ∈ wsX7_startsThatFit := mb_X7_startsThatFit_wsX7_startsThatFit_r3 (List.mem_of_getElem? (i := 21) rfl)
theorem mx_X7_startsThatFit_71 : Cond.selects RX3 yX3_grindsAt yX3_grindsAt ∈ wsX7_startsThatFit := mb_X7_startsThatFit_wsX7_startsThatFit_r3 (List.mem_of_getElem? (i := 22) rfl)
theorem mx_X7_startsThatFit_72 : Cond.code yX3_grindsAt cX3_grindsAt 4 (some .boolean) ∈ wsX7_startsThatFit := mb_X7_startsThatFit_wsX7_startsThatFit_r3 (List.mem_of_getElem? (i := 23) rfl)
theorem mb_X7_startsThatFit_wsX7_startsThatFit_r4 {w : Cond} (h : w ∈ wsX7_startsThatFit_r4) : w ∈ wsX7_startsThatFit := by unfold wsX7_startsThatFit; exact List.mem_cons_of_mem _ (List.mem_append_left _ (List.mem_append_left _ (List.mem_append_left _ (List.mem_append_right _ (List.mem_append_right _ (List.mem_append_right _ (h)))))))
theorem mx_X7_startsThatFit_73 : Cond.methodLink RX7 179 yX3_isLoose ∈ wsX7_startsThatFit := mb_X7_startsThatFit_wsX7_startsThatFit_r4 (List.mem_of_getElem? (i := 0) rfl)
theorem mx_X7_startsThatFit_74 : Cond.methodLink RX7 337 yX5_item ∈ wsX7_startsThatFit := mb_X7_startsThatFit_wsX7_startsThatFit_r4 (List.mem_of_getElem? (i := 1) rfl)
theorem mx_X7_startsThatFit_75 : Cond.instanceMethod yX5_item ∈ wsX7_startsThatFit := mb_X7_startsThatFit_wsX7_startsThatFit_r4 (List.mem_of_getElem? (i := 2) rfl)
theorem mx_X7_startsThatFit_76 : Cond.selects RX5 yX5_item yX5_item ∈ wsX7_startsThatFit := mb_X7_startsThatFit_wsX7_startsThatFit_r4 (List.mem_of_getElem? (i := 3) rfl)
theorem mx_X7_startsThatFit_77 : Cond.initialized RX5 ∈ wsX7_startsThatFit := mb_X7_startsThatFit_wsX7_startsThatFit_r4 (List.mem_of_getElem? (i := 4) rfl)
theorem mx_X7_startsThatFit_78 : Cond.code yX5_item cX5_item 3 (some .int) ∈ wsX7_startsThatFit := mb_X7_startsThatFit_wsX7_startsThatFit_r4 (List.mem_of_getElem? (i := 5) rfl)
theorem mx_X7_startsThatFit_79 : Cond.fieldLink RX5 13 "MillTalk$Rows" "items" "[[I" ∈ wsX7_startsThatFit := mb_X7_startsThatFit_wsX7_startsThatFit_r4 (List.mem_of_getElem? (i := 6) rfl)
theorem mb_X7_startsThatFit_wsX70 {w : Cond} (h : w ∈ wsX70) : w ∈ wsX7_startsThatFit := by unfold wsX7_startsThatFit; exact List.mem_cons_of_mem _ (List.mem_append_left _ (List.mem_append_left _ (List.mem_append_right _ (h))))
theorem mb_X7_startsThatFit_wsX50 {w : Cond} (h : w ∈ wsX50) : w ∈ wsX7_startsThatFit := by unfold wsX7_startsThatFit; exact List.mem_cons_of_mem _ (List.mem_append_right _ (h))
theorem ggX7_startsThatFit_X7_trialFits : GoodIn wsX7_startsThatFit wsX7_trialFits := goodIn_sub (by unfold wsX7_trialFits; exact List.forall_mem_cons.mpr ⟨mx_X7_startsThatFit_31, List.forall_mem_append.mpr ⟨List.forall_mem_append.mpr ⟨List.forall_mem_append.mpr ⟨List.forall_mem_append.mpr ⟨(by unfold wsX7_trialFits_r1; exact List.forall_mem_cons.mpr ⟨mx_X7_startsThatFit_3, List.forall_mem_cons.mpr ⟨mx_X7_startsThatFit_4, List.forall_mem_cons.mpr ⟨mx_X7_startsThatFit_32, List.forall_mem_cons.mpr ⟨mx_X7_startsThatFit_33, List.forall_mem_cons.mpr ⟨mx_X7_startsThatFit_34, List.forall_mem_cons.mpr ⟨mx_X7_startsThatFit_35, List.forall_mem_cons.mpr ⟨mx_X7_startsThatFit_8, List.forall_mem_cons.mpr ⟨mx_X7_startsThatFit_36, List.forall_mem_cons.mpr ⟨mx_X7_startsThatFit_14, List.forall_mem_cons.mpr ⟨mx_X7_startsThatFit_37, List.forall_mem_cons.mpr ⟨mx_X7_startsThatFit_38, List.forall_mem_cons.mpr ⟨mx_X7_startsThatFit_39, List.forall_mem_cons.mpr ⟨mx_X7_startsThatFit_40, List.forall_mem_cons.mpr ⟨mx_X7_startsThatFit_16, List.forall_mem_cons.mpr ⟨mx_X7_startsThatFit_18, List.forall_mem_cons.mpr ⟨mx_X7_startsThatFit_41, List.forall_mem_cons.mpr ⟨mx_X7_startsThatFit_42, List.forall_mem_cons.mpr ⟨mx_X7_startsThatFit_43, List.forall_mem_cons.mpr ⟨mx_X7_startsThatFit_44, List.forall_mem_cons.mpr ⟨mx_X7_startsThatFit_24, List.forall_mem_cons.mpr ⟨mx_X7_startsThatFit_26, List.forall_mem_cons.mpr ⟨mx_X7_startsThatFit_15, List.forall_mem_cons.mpr ⟨mx_X7_startsThatFit_45, List.forall_mem_cons.mpr ⟨mx_X7_startsThatFit_46, fun _ h_ => absurd h_ List.not_mem_nil⟩⟩⟩⟩⟩⟩⟩⟩⟩⟩⟩⟩⟩⟩⟩⟩⟩⟩⟩⟩⟩⟩⟩⟩), List.forall_mem_append.mpr ⟨(by unfold wsX7_trialFits_r2; exact List.forall_mem_cons.mpr ⟨mx_X7_startsThatFit_47, List.forall_mem_cons.mpr ⟨mx_X7_startsThatFit_48, List.forall_mem_cons.mpr ⟨mx_X7_startsThatFit_49, List.forall_mem_cons.mpr ⟨mx_X7_startsThatFit_50, List.forall_mem_cons.mpr ⟨mx_X7_startsThatFit_51, List.forall_mem_cons.mpr ⟨mx_X7_startsThatFit_52, List.forall_mem_cons.mpr ⟨mx_X7_startsThatFit_53, List.forall_mem_cons.mpr ⟨mx_X7_startsThatFit_54, List.forall_mem_cons.mpr ⟨mx_X7_startsThatFit_55, List.forall_mem_cons.mpr ⟨mx_X7_startsThatFit_56, List.forall_mem_cons.mpr ⟨mx_X7_startsThatFit_23, List.forall_mem_cons.mpr ⟨mx_X7_startsThatFit_57, List.forall_mem_cons.mpr ⟨mx_X7_startsThatFit_58, List.forall_mem_cons.mpr ⟨mx_X7_startsThatFit_59, List.forall_mem_cons.mpr ⟨mx_X7_startsThatFit_60, List.forall_mem_cons.mpr ⟨mx_X7_startsThatFit_25, List.forall_mem_cons.mpr ⟨mx_X7_startsThatFit_61, List.forall_mem_cons.mpr ⟨mx_X7_startsThatFit_62, List.forall_mem_cons.mpr ⟨mx_X7_startsThatFit_63, List.forall_mem_cons.mpr ⟨mx_X7_startsThatFit_64, List.forall_mem_cons.mpr ⟨mx_X7_startsThatFit_10, List.forall_mem_cons.mpr ⟨mx_X7_startsThatFit_65, List.forall_mem_cons.mpr ⟨mx_X7_startsThatFit_66, List.forall_mem_cons.mpr ⟨mx_X7_startsThatFit_67, fun _ h_ => absurd h_ List.not_mem_nil⟩⟩⟩⟩⟩⟩⟩⟩⟩⟩⟩⟩⟩⟩⟩⟩⟩⟩⟩⟩⟩⟩⟩⟩), (by unfold wsX7_trialFits_r3; exact List.forall_mem_cons.mpr ⟨mx_X7_startsThatFit_68, List.forall_mem_cons.mpr ⟨mx_X7_startsThatFit_69, List.forall_mem_cons.mpr ⟨mx_X7_startsThatFit_70, List.forall_mem_cons.mpr ⟨mx_X7_startsThatFit_71, List.forall_mem_cons.mpr ⟨mx_X7_startsThatFit_72, List.forall_mem_cons.mpr ⟨mx_X7_startsThatFit_13, List.forall_mem_cons.mpr ⟨mx_X7_startsThatFit_11, List.forall_mem_cons.mpr ⟨mx_X7_startsThatFit_12, List.forall_mem_cons.mpr ⟨mx_X7_startsThatFit_73, List.forall_mem_cons.mpr ⟨mx_X7_startsThatFit_74, List.forall_mem_cons.mpr ⟨mx_X7_startsThatFit_75, List.forall_mem_cons.mpr ⟨mx_X7_startsThatFit_76, List.forall_mem_cons.mpr ⟨mx_X7_startsThatFit_77, List.forall_mem_cons.mpr ⟨mx_X7_startsThatFit_78, List.forall_mem_cons.mpr ⟨mx_X7_startsThatFit_79, fun _ h_ => absurd h_ List.not_mem_nil⟩⟩⟩⟩⟩⟩⟩⟩⟩⟩⟩⟩⟩⟩⟩)⟩⟩, (fun _ h_ => mb_X7_startsThatFit_wsX70 h_)⟩, (fun _ h_ => mb_X7_startsThatFit_wsX30 h_)⟩, (fun _ h_ => mb_X7_startsThatFit_wsX50 h_)⟩⟩) (by decide +kernel)
theorem mx_X7_startsThatFit_27 : Cond.methodLink RX7 330 yX7_trialFits ∈ wsX7_startsThatFit := mb_X7_startsThatFit_wsX7_startsThatFit_r2 (List.mem_of_getElem? (i := 2) rfl)
theorem mx_X7_startsThatFit_28 : Cond.instanceMethod yX7_trialFits ∈ wsX7_startsThatFit := mb_X7_startsThatFit_wsX7_startsThatFit_r2 (List.mem_of_getElem? (i := 3) rfl)
theorem mx_X7_startsThatFit_29 : Cond.selects RX7 yX7_trialFits yX7_trialFits ∈ wsX7_startsThatFit := mb_X7_startsThatFit_wsX7_startsThatFit_r2 (List.mem_of_getElem? (i := 4) rfl)
theorem mx_X7_startsThatFit_30 : Cond.initialized RX7 ∈ wsX7_startsThatFit := mb_X7_startsThatFit_wsX7_startsThatFit_r2 (List.mem_of_getElem? (i := 5) rfl)
theorem gX7_startsThatFit_X7_trialFits : GoodIn wsX7_startsThatFit (wsV RX7 330 RX7 yX7_trialFits wsX7_trialFits) := goodIn_app (goodIn_sub (List.forall_mem_cons.mpr ⟨mx_X7_startsThatFit_27, List.forall_mem_cons.mpr ⟨mx_X7_startsThatFit_28, List.forall_mem_cons.mpr ⟨mx_X7_startsThatFit_29, List.forall_mem_cons.mpr ⟨mx_X7_startsThatFit_30, fun _ h_ => absurd h_ List.not_mem_nil⟩⟩⟩⟩) (by decide +kernel)) ggX7_startsThatFit_X7_trialFits
theorem mb_X7_trialFits_wsX7_trialFits_r2 {w : Cond} (h : w ∈ wsX7_trialFits_r2) : w ∈ wsX7_trialFits := by unfold wsX7_trialFits; exact List.mem_cons_of_mem _ (List.mem_append_left _ (List.mem_append_left _ (List.mem_append_left _ (List.mem_append_right _ (List.mem_append_left _ (h))))))
theorem mx_X7_trialFits_30 : Cond.code yX3_isLoose cX3_isLoose 2 (some .boolean) ∈ wsX7_trialFits := mb_X7_trialFits_wsX7_trialFits_r2 (List.mem_of_getElem? (i := 5) rfl)
theorem mb_X7_trialFits_wsX7_trialFits_r1 {w : Cond} (h : w ∈ wsX7_trialFits_r1) : w ∈ wsX7_trialFits := by unfold wsX7_trialFits; exact List.mem_cons_of_mem _ (List.mem_append_left _ (List.mem_append_left _ (List.mem_append_left _ (List.mem_append_left _ (h)))))
theorem mx_X7_trialFits_21 : Cond.fieldLink RX3 24 "MillTalk$Level" "hows" "[I" ∈ wsX7_trialFits := mb_X7_trialFits_wsX7_trialFits_r1 (List.mem_of_getElem? (i := 20) rfl)
theorem mb_X7_trialFits_wsX30 {w : Cond} (h : w ∈ wsX30) : w ∈ wsX7_trialFits := by unfold wsX7_trialFits; exact List.mem_cons_of_mem _ (List.mem_append_left _ (List.mem_append_right _ (h)))
theorem ggX7_trialFits_X3_isLoose : GoodIn wsX7_trialFits wsX3_isLoose := goodIn_sub (by unfold wsX3_isLoose; exact List.forall_mem_cons.mpr ⟨mx_X7_trialFits_30, List.forall_mem_append.mpr ⟨List.forall_mem_cons.mpr ⟨mx_X7_trialFits_21, fun _ h_ => absurd h_ List.not_mem_nil⟩, (fun _ h_ => mb_X7_trialFits_wsX30 h_)⟩⟩) (by decide +kernel)
theorem mb_X7_trialFits_wsX7_trialFits_r3 {w : Cond} (h : w ∈ wsX7_trialFits_r3) : w ∈ wsX7_trialFits := by unfold wsX7_trialFits; exact List.mem_cons_of_mem _ (List.mem_append_left _ (List.mem_append_left _ (List.mem_append_left _ (List.mem_append_right _ (List.mem_append_right _ (h))))))
theorem mx_X7_trialFits_57 : Cond.methodLink RX7 179 yX3_isLoose ∈ wsX7_trialFits := mb_X7_trialFits_wsX7_trialFits_r3 (List.mem_of_getElem? (i := 8) rfl)
theorem mx_X7_trialFits_28 : Cond.instanceMethod yX3_isLoose ∈ wsX7_trialFits := mb_X7_trialFits_wsX7_trialFits_r2 (List.mem_of_getElem? (i := 3) rfl)
theorem mx_X7_trialFits_29 : Cond.selects RX3 yX3_isLoose yX3_isLoose ∈ wsX7_trialFits := mb_X7_trialFits_wsX7_trialFits_r2 (List.mem_of_getElem? (i := 4) rfl)
theorem mx_X7_trialFits_7 : Cond.initialized RX3 ∈ wsX7_trialFits := mb_X7_trialFits_wsX7_trialFits_r1 (List.mem_of_getElem? (i := 6) rfl)
theorem gX7_trialFits_X3_isLoose : GoodIn wsX7_trialFits (wsV RX7 179 RX3 yX3_isLoose wsX3_isLoose) := goodIn_app (goodIn_sub (List.forall_mem_cons.mpr ⟨mx_X7_trialFits_57, List.forall_mem_cons.mpr ⟨mx_X7_trialFits_28, List.forall_mem_cons.mpr ⟨mx_X7_trialFits_29, List.forall_mem_cons.mpr ⟨mx_X7_trialFits_7, fun _ h_ => absurd h_ List.not_mem_nil⟩⟩⟩⟩) (by decide +kernel)) ggX7_trialFits_X3_isLoose
theorem mx_X7_trialFits_8 : Cond.code yX3_passOnly cX3_passOnly 4 none ∈ wsX7_trialFits := mb_X7_trialFits_wsX7_trialFits_r1 (List.mem_of_getElem? (i := 7) rfl)
theorem mx_X7_trialFits_9 : Cond.fieldLink RX3 40 "MillTalk$Level" "hour" "I" ∈ wsX7_trialFits := mb_X7_trialFits_wsX7_trialFits_r1 (List.mem_of_getElem? (i := 8) rfl)
theorem mx_X7_trialFits_10 : Cond.methodLink RX3 87 yX3_windOn ∈ wsX7_trialFits := mb_X7_trialFits_wsX7_trialFits_r1 (List.mem_of_getElem? (i := 9) rfl)
theorem mx_X7_trialFits_11 : Cond.instanceMethod yX3_windOn ∈ wsX7_trialFits := mb_X7_trialFits_wsX7_trialFits_r1 (List.mem_of_getElem? (i := 10) rfl)
theorem mx_X7_trialFits_12 : Cond.selects RX3 yX3_windOn yX3_windOn ∈ wsX7_trialFits := mb_X7_trialFits_wsX7_trialFits_r1 (List.mem_of_getElem? (i := 11) rfl)
theorem mx_X7_trialFits_13 : Cond.code yX3_windOn cX3_windOn 2 (some .int) ∈ wsX7_trialFits := mb_X7_trialFits_wsX7_trialFits_r1 (List.mem_of_getElem? (i := 12) rfl)
theorem mx_X7_trialFits_14 : Cond.fieldLink RX3 46 "MillTalk$Level" "windCount" "I" ∈ wsX7_trialFits := mb_X7_trialFits_wsX7_trialFits_r1 (List.mem_of_getElem? (i := 13) rfl)
theorem mx_X7_trialFits_15 : Cond.fieldLink RX3 9 "MillTalk$Level" "winds" "[I" ∈ wsX7_trialFits := mb_X7_trialFits_wsX7_trialFits_r1 (List.mem_of_getElem? (i := 14) rfl)
theorem mx_X7_trialFits_16 : Cond.methodLink RX3 90 yX3_passSound ∈ wsX7_trialFits := mb_X7_trialFits_wsX7_trialFits_r1 (List.mem_of_getElem? (i := 15) rfl)
theorem mx_X7_trialFits_17 : Cond.instanceMethod yX3_passSound ∈ wsX7_trialFits := mb_X7_trialFits_wsX7_trialFits_r1 (List.mem_of_getElem? (i := 16) rfl)
theorem mx_X7_trialFits_18 : Cond.selects RX3 yX3_passSound yX3_passSound ∈ wsX7_trialFits := mb_X7_trialFits_wsX7_trialFits_r1 (List.mem_of_getElem? (i := 17) rfl)
theorem mx_X7_trialFits_19 : Cond.code yX3_passSound cX3_passSound 5 none ∈ wsX7_trialFits := mb_X7_trialFits_wsX7_trialFits_r1 (List.mem_of_getElem? (i := 18) rfl)
theorem mx_X7_trialFits_20 : Cond.fieldLink RX3 18 "MillTalk$Level" "places" "[I" ∈ wsX7_trialFits := mb_X7_trialFits_wsX7_trialFits_r1 (List.mem_of_getElem? (i := 19) rfl)
theorem mx_X7_trialFits_22 : Cond.fieldLink RX3 43 "MillTalk$Level" "meal" "I" ∈ wsX7_trialFits := mb_X7_trialFits_wsX7_trialFits_r1 (List.mem_of_getElem? (i := 21) rfl)
theorem mx_X7_trialFits_23 : Cond.methodLink RX3 63 Lib.Math.min.name ∈ wsX7_trialFits := mb_X7_trialFits_wsX7_trialFits_r1 (List.mem_of_getElem? (i := 22) rfl)
theorem mx_X7_trialFits_24 : Cond.static Lib.Math.min.name ∈ wsX7_trialFits := mb_X7_trialFits_wsX7_trialFits_r1 (List.mem_of_getElem? (i := 23) rfl)
theorem mx_X7_trialFits_25 : Cond.initialized "java/lang/Math" ∈ wsX7_trialFits := mb_X7_trialFits_wsX7_trialFits_r2 (List.mem_of_getElem? (i := 0) rfl)
theorem mx_X7_trialFits_26 : Cond.code Lib.Math.min.name Lib.Math.min.code 2 (some .int) ∈ wsX7_trialFits := mb_X7_trialFits_wsX7_trialFits_r2 (List.mem_of_getElem? (i := 1) rfl)
theorem mx_X7_trialFits_27 : Cond.methodLink RX3 58 yX3_isLoose ∈ wsX7_trialFits := mb_X7_trialFits_wsX7_trialFits_r2 (List.mem_of_getElem? (i := 2) rfl)
theorem mx_X7_trialFits_31 : Cond.methodLink RX3 69 yX3_driftOf ∈ wsX7_trialFits := mb_X7_trialFits_wsX7_trialFits_r2 (List.mem_of_getElem? (i := 6) rfl)
theorem mx_X7_trialFits_32 : Cond.instanceMethod yX3_driftOf ∈ wsX7_trialFits := mb_X7_trialFits_wsX7_trialFits_r2 (List.mem_of_getElem? (i := 7) rfl)
theorem mx_X7_trialFits_33 : Cond.selects RX3 yX3_driftOf yX3_driftOf ∈ wsX7_trialFits := mb_X7_trialFits_wsX7_trialFits_r2 (List.mem_of_getElem? (i := 8) rfl)
theorem mx_X7_trialFits_34 : Cond.code yX3_driftOf cX3_driftOf 4 (some .int) ∈ wsX7_trialFits := mb_X7_trialFits_wsX7_trialFits_r2 (List.mem_of_getElem? (i := 9) rfl)
theorem mx_X7_trialFits_35 : Cond.fieldLink RX3 15 "MillTalk$Level" "kinds" "[I" ∈ wsX7_trialFits := mb_X7_trialFits_wsX7_trialFits_r2 (List.mem_of_getElem? (i := 10) rfl)
theorem mx_X7_trialFits_36 : Cond.methodLink RX3 72 yX3_loudBehindHour ∈ wsX7_trialFits := mb_X7_trialFits_wsX7_trialFits_r2 (List.mem_of_getElem? (i := 11) rfl)
theorem mx_X7_trialFits_37 : Cond.instanceMethod yX3_loudBehindHour ∈ wsX7_trialFits := mb_X7_trialFits_wsX7_trialFits_r2 (List.mem_of_getElem? (i := 12) rfl)
theorem mx_X7_trialFits_38 : Cond.selects RX3 yX3_loudBehindHour yX3_loudBehindHour ∈ wsX7_trialFits := mb_X7_trialFits_wsX7_trialFits_r2 (List.mem_of_getElem? (i := 13) rfl)
theorem mx_X7_trialFits_39 : Cond.code yX3_loudBehindHour cX3_loudBehindHour 2 (some .int) ∈ wsX7_trialFits := mb_X7_trialFits_wsX7_trialFits_r2 (List.mem_of_getElem? (i := 14) rfl)
theorem mx_X7_trialFits_40 : Cond.fieldLink RX3 21 "MillTalk$Level" "louds" "[I" ∈ wsX7_trialFits := mb_X7_trialFits_wsX7_trialFits_r2 (List.mem_of_getElem? (i := 15) rfl)
theorem mx_X7_trialFits_41 : Cond.methodLink RX3 76 yX3_hasCell ∈ wsX7_trialFits := mb_X7_trialFits_wsX7_trialFits_r2 (List.mem_of_getElem? (i := 16) rfl)
theorem mx_X7_trialFits_42 : Cond.instanceMethod yX3_hasCell ∈ wsX7_trialFits := mb_X7_trialFits_wsX7_trialFits_r2 (List.mem_of_getElem? (i := 17) rfl)
theorem mx_X7_trialFits_43 : Cond.selects RX3 yX3_hasCell yX3_hasCell ∈ wsX7_trialFits := mb_X7_trialFits_wsX7_trialFits_r2 (List.mem_of_getElem? (i := 18) rfl)
theorem mx_X7_trialFits_44 : Cond.code yX3_hasCell cX3_hasCell 2 (some .boolean) ∈ wsX7_trialFits := mb_X7_trialFits_wsX7_trialFits_r2 (List.mem_of_getElem? (i := 19) rfl)
theorem mx_X7_trialFits_45 : Cond.fieldLink RX3 27 "MillTalk$Level" "cells" "I" ∈ wsX7_trialFits := mb_X7_trialFits_wsX7_trialFits_r2 (List.mem_of_getElem? (i := 20) rfl)
theorem mx_X7_trialFits_46 : Cond.methodLink RX3 79 yX3_letLoose ∈ wsX7_trialFits := mb_X7_trialFits_wsX7_trialFits_r2 (List.mem_of_getElem? (i := 21) rfl)
theorem mx_X7_trialFits_47 : Cond.instanceMethod yX3_letLoose ∈ wsX7_trialFits := mb_X7_trialFits_wsX7_trialFits_r2 (List.mem_of_getElem? (i := 22) rfl)
theorem mx_X7_trialFits_48 : Cond.selects RX3 yX3_letLoose yX3_letLoose ∈ wsX7_trialFits := mb_X7_trialFits_wsX7_trialFits_r2 (List.mem_of_getElem? (i := 23) rfl)
theorem mx_X7_trialFits_49 : Cond.code yX3_letLoose cX3_letLoose 4 none ∈ wsX7_trialFits := mb_X7_trialFits_wsX7_trialFits_r3 (List.mem_of_getElem? (i := 0) rfl)
theorem mx_X7_trialFits_50 : Cond.methodLink RX3 83 yX3_grindsAt ∈ wsX7_trialFits := mb_X7_trialFits_wsX7_trialFits_r3 (List.mem_of_getElem? (i := 1) rfl)
theorem mx_X7_trialFits_51 : Cond.instanceMethod yX3_grindsAt ∈ wsX7_trialFits := mb_X7_trialFits_wsX7_trialFits_r3 (List.mem_of_getElem? (i := 2) rfl)
theorem mx_X7_trialFits_52 : Cond.selects RX3 yX3_grindsAt yX3_grindsAt ∈ wsX7_trialFits := mb_X7_trialFits_wsX7_trialFits_r3 (List.mem_of_getElem? (i := 3) rfl)
theorem mx_X7_trialFits_53 : Cond.code yX3_grindsAt cX3_grindsAt 4 (some .boolean) ∈ wsX7_trialFits := mb_X7_trialFits_wsX7_trialFits_r3 (List.mem_of_getElem? (i := 4) rfl)
theorem mx_X7_trialFits_54 : Cond.fieldLink RX3 37 "MillTalk$Level" "cap" "I" ∈ wsX7_trialFits := mb_X7_trialFits_wsX7_trialFits_r3 (List.mem_of_getElem? (i := 5) rfl)
theorem mx_X7_trialFits_55 : Cond.fieldLink RX3 31 "MillTalk$Level" "mill" "I" ∈ wsX7_trialFits := mb_X7_trialFits_wsX7_trialFits_r3 (List.mem_of_getElem? (i := 6) rfl)
theorem mx_X7_trialFits_56 : Cond.fieldLink RX3 34 "MillTalk$Level" "reach" "I" ∈ wsX7_trialFits := mb_X7_trialFits_wsX7_trialFits_r3 (List.mem_of_getElem? (i := 7) rfl)
theorem ggX7_trialFits_X3_passOnly : GoodIn wsX7_trialFits wsX3_passOnly := goodIn_sub (by unfold wsX3_passOnly; exact List.forall_mem_cons.mpr ⟨mx_X7_trialFits_8, List.forall_mem_append.mpr ⟨List.forall_mem_append.mpr ⟨(by unfold wsX3_passOnly_r1; exact List.forall_mem_cons.mpr ⟨mx_X7_trialFits_9, List.forall_mem_cons.mpr ⟨mx_X7_trialFits_10, List.forall_mem_cons.mpr ⟨mx_X7_trialFits_11, List.forall_mem_cons.mpr ⟨mx_X7_trialFits_12, List.forall_mem_cons.mpr ⟨mx_X7_trialFits_7, List.forall_mem_cons.mpr ⟨mx_X7_trialFits_13, List.forall_mem_cons.mpr ⟨mx_X7_trialFits_14, List.forall_mem_cons.mpr ⟨mx_X7_trialFits_15, List.forall_mem_cons.mpr ⟨mx_X7_trialFits_16, List.forall_mem_cons.mpr ⟨mx_X7_trialFits_17, List.forall_mem_cons.mpr ⟨mx_X7_trialFits_18, List.forall_mem_cons.mpr ⟨mx_X7_trialFits_19, List.forall_mem_cons.mpr ⟨mx_X7_trialFits_20, List.forall_mem_cons.mpr ⟨mx_X7_trialFits_21, List.forall_mem_cons.mpr ⟨mx_X7_trialFits_22, List.forall_mem_cons.mpr ⟨mx_X7_trialFits_23, List.forall_mem_cons.mpr ⟨mx_X7_trialFits_24, List.forall_mem_cons.mpr ⟨mx_X7_trialFits_25, List.forall_mem_cons.mpr ⟨mx_X7_trialFits_26, List.forall_mem_cons.mpr ⟨mx_X7_trialFits_27, List.forall_mem_cons.mpr ⟨mx_X7_trialFits_28, List.forall_mem_cons.mpr ⟨mx_X7_trialFits_29, List.forall_mem_cons.mpr ⟨mx_X7_trialFits_30, List.forall_mem_cons.mpr ⟨mx_X7_trialFits_31, fun _ h_ => absurd h_ List.not_mem_nil⟩⟩⟩⟩⟩⟩⟩⟩⟩⟩⟩⟩⟩⟩⟩⟩⟩⟩⟩⟩⟩⟩⟩⟩), List.forall_mem_append.mpr ⟨(by unfold wsX3_passOnly_r2; exact List.forall_mem_cons.mpr ⟨mx_X7_trialFits_32, List.forall_mem_cons.mpr ⟨mx_X7_trialFits_33, List.forall_mem_cons.mpr ⟨mx_X7_trialFits_34, List.forall_mem_cons.mpr ⟨mx_X7_trialFits_35, List.forall_mem_cons.mpr ⟨mx_X7_trialFits_36, List.forall_mem_cons.mpr ⟨mx_X7_trialFits_37, List.forall_mem_cons.mpr ⟨mx_X7_trialFits_38, List.forall_mem_cons.mpr ⟨mx_X7_trialFits_39, List.forall_mem_cons.mpr ⟨mx_X7_trialFits_40, List.forall_mem_cons.mpr ⟨mx_X7_trialFits_41, List.forall_mem_cons.mpr ⟨mx_X7_trialFits_42, List.forall_mem_cons.mpr ⟨mx_X7_trialFits_43, List.forall_mem_cons.mpr ⟨mx_X7_trialFits_44, List.forall_mem_cons.mpr ⟨mx_X7_trialFits_45, List.forall_mem_cons.mpr ⟨mx_X7_trialFits_46, List.forall_mem_cons.mpr ⟨mx_X7_trialFits_47, List.forall_mem_cons.mpr ⟨mx_X7_trialFits_48, List.forall_mem_cons.mpr ⟨mx_X7_trialFits_49, List.forall_mem_cons.mpr ⟨mx_X7_trialFits_50, List.forall_mem_cons.mpr ⟨mx_X7_trialFits_51, List.forall_mem_cons.mpr ⟨mx_X7_trialFits_52, List.forall_mem_cons.mpr ⟨mx_X7_trialFits_53, List.forall_mem_cons.mpr ⟨mx_X7_trialFits_54, List.forall_mem_cons.mpr ⟨mx_X7_trialFits_55, fun _ h_ => absurd h_ List.not_mem_nil⟩⟩⟩⟩⟩⟩⟩⟩⟩⟩⟩⟩⟩⟩⟩⟩⟩⟩⟩⟩⟩⟩⟩⟩), (by unfold wsX3_passOnly_r3; exact List.forall_mem_cons.mpr ⟨mx_X7_trialFits_56, fun _ h_ => absurd h_ List.not_mem_nil⟩)⟩⟩, (fun _ h_ => mb_X7_trialFits_wsX30 h_)⟩⟩) (by decide +kernel)
theorem mx_X7_trialFits_4 : Cond.methodLink RX7 210 yX3_passOnly ∈ wsX7_trialFits := mb_X7_trialFits_wsX7_trialFits_r1 (List.mem_of_getElem? (i := 3) rfl)
theorem mx_X7_trialFits_5 : Cond.instanceMethod yX3_passOnly ∈ wsX7_trialFits := mb_X7_trialFits_wsX7_trialFits_r1 (List.mem_of_getElem? (i := 4) rfl)
theorem mx_X7_trialFits_6 : Cond.selects RX3 yX3_passOnly yX3_passOnly ∈ wsX7_trialFits := mb_X7_trialFits_wsX7_trialFits_r1 (List.mem_of_getElem? (i := 5) rfl)
theorem gX7_trialFits_X3_passOnly : GoodIn wsX7_trialFits (wsV RX7 210 RX3 yX3_passOnly wsX3_passOnly) := goodIn_app (goodIn_sub (List.forall_mem_cons.mpr ⟨mx_X7_trialFits_4, List.forall_mem_cons.mpr ⟨mx_X7_trialFits_5, List.forall_mem_cons.mpr ⟨mx_X7_trialFits_6, List.forall_mem_cons.mpr ⟨mx_X7_trialFits_7, fun _ h_ => absurd h_ List.not_mem_nil⟩⟩⟩⟩) (by decide +kernel)) ggX7_trialFits_X3_passOnly
theorem mx_X7_trialFits_62 : Cond.code yX5_item cX5_item 3 (some .int) ∈ wsX7_trialFits := mb_X7_trialFits_wsX7_trialFits_r3 (List.mem_of_getElem? (i := 13) rfl)
theorem mx_X7_trialFits_63 : Cond.fieldLink RX5 13 "MillTalk$Rows" "items" "[[I" ∈ wsX7_trialFits := mb_X7_trialFits_wsX7_trialFits_r3 (List.mem_of_getElem? (i := 14) rfl)
theorem mb_X7_trialFits_wsX50 {w : Cond} (h : w ∈ wsX50) : w ∈ wsX7_trialFits := by unfold wsX7_trialFits; exact List.mem_cons_of_mem _ (List.mem_append_right _ (h))
theorem ggX7_trialFits_X5_item : GoodIn wsX7_trialFits wsX5_item := goodIn_sub (by unfold wsX5_item; exact List.forall_mem_cons.mpr ⟨mx_X7_trialFits_62, List.forall_mem_append.mpr ⟨List.forall_mem_cons.mpr ⟨mx_X7_trialFits_63, fun _ h_ => absurd h_ List.not_mem_nil⟩, (fun _ h_ => mb_X7_trialFits_wsX50 h_)⟩⟩) (by decide +kernel)
theorem mx_X7_trialFits_58 : Cond.methodLink RX7 337 yX5_item ∈ wsX7_trialFits := mb_X7_trialFits_wsX7_trialFits_r3 (List.mem_of_getElem? (i := 9) rfl)
theorem mx_X7_trialFits_59 : Cond.instanceMethod yX5_item ∈ wsX7_trialFits := mb_X7_trialFits_wsX7_trialFits_r3 (List.mem_of_getElem? (i := 10) rfl)
theorem mx_X7_trialFits_60 : Cond.selects RX5 yX5_item yX5_item ∈ wsX7_trialFits := mb_X7_trialFits_wsX7_trialFits_r3 (List.mem_of_getElem? (i := 11) rfl)
theorem mx_X7_trialFits_61 : Cond.initialized RX5 ∈ wsX7_trialFits := mb_X7_trialFits_wsX7_trialFits_r3 (List.mem_of_getElem? (i := 12) rfl)
theorem gX7_trialFits_X5_item : GoodIn wsX7_trialFits (wsV RX7 337 RX5 yX5_item wsX5_item) := goodIn_app (goodIn_sub (List.forall_mem_cons.mpr ⟨mx_X7_trialFits_58, List.forall_mem_cons.mpr ⟨mx_X7_trialFits_59, List.forall_mem_cons.mpr ⟨mx_X7_trialFits_60, List.forall_mem_cons.mpr ⟨mx_X7_trialFits_61, fun _ h_ => absurd h_ List.not_mem_nil⟩⟩⟩⟩) (by decide +kernel)) ggX7_trialFits_X5_item
theorem mb_X7_when_wsX7_when_r1 {w : Cond} (h : w ∈ wsX7_when_r1) : w ∈ wsX7_when := by unfold wsX7_when; exact List.mem_cons_of_mem _ (List.mem_append_left _ (List.mem_append_left _ (List.mem_append_left _ (h))))
theorem mx_X7_when_15 : Cond.code yX3_becomeLike cX3_becomeLike 2 none ∈ wsX7_when := mb_X7_when_wsX7_when_r1 (List.mem_of_getElem? (i := 14) rfl)
theorem mx_X7_when_16 : Cond.fieldLink RX3 27 "MillTalk$Level" "cells" "I" ∈ wsX7_when := mb_X7_when_wsX7_when_r1 (List.mem_of_getElem? (i := 15) rfl)
theorem mx_X7_when_17 : Cond.fieldLink RX3 31 "MillTalk$Level" "mill" "I" ∈ wsX7_when := mb_X7_when_wsX7_when_r1 (List.mem_of_getElem? (i := 16) rfl)
theorem mx_X7_when_18 : Cond.fieldLink RX3 34 "MillTalk$Level" "reach" "I" ∈ wsX7_when := mb_X7_when_wsX7_when_r1 (List.mem_of_getElem? (i := 17) rfl)
theorem mx_X7_when_19 : Cond.fieldLink RX3 37 "MillTalk$Level" "cap" "I" ∈ wsX7_when := mb_X7_when_wsX7_when_r1 (List.mem_of_getElem? (i := 18) rfl)
theorem mx_X7_when_20 : Cond.fieldLink RX3 40 "MillTalk$Level" "hour" "I" ∈ wsX7_when := mb_X7_when_wsX7_when_r1 (List.mem_of_getElem? (i := 19) rfl)
theorem mx_X7_when_21 : Cond.fieldLink RX3 43 "MillTalk$Level" "meal" "I" ∈ wsX7_when := mb_X7_when_wsX7_when_r1 (List.mem_of_getElem? (i := 20) rfl)
theorem mx_X7_when_22 : Cond.fieldLink RX3 46 "MillTalk$Level" "windCount" "I" ∈ wsX7_when := mb_X7_when_wsX7_when_r1 (List.mem_of_getElem? (i := 21) rfl)
theorem mx_X7_when_11 : Cond.fieldLink RX3 49 "MillTalk$Level" "soundCount" "I" ∈ wsX7_when := mb_X7_when_wsX7_when_r1 (List.mem_of_getElem? (i := 10) rfl)
theorem mx_X7_when_23 : Cond.fieldLink RX3 9 "MillTalk$Level" "winds" "[I" ∈ wsX7_when := mb_X7_when_wsX7_when_r1 (List.mem_of_getElem? (i := 22) rfl)
theorem mx_X7_when_24 : Cond.methodLink RX3 52 arraycopyName ∈ wsX7_when := mb_X7_when_wsX7_when_r1 (List.mem_of_getElem? (i := 23) rfl)
theorem mb_X7_when_wsX7_when_r2 {w : Cond} (h : w ∈ wsX7_when_r2) : w ∈ wsX7_when := by unfold wsX7_when; exact List.mem_cons_of_mem _ (List.mem_append_left _ (List.mem_append_left _ (List.mem_append_right _ (List.mem_append_left _ (h)))))
theorem mx_X7_when_25 : Cond.native arraycopyName ∈ wsX7_when := mb_X7_when_wsX7_when_r2 (List.mem_of_getElem? (i := 0) rfl)
theorem mx_X7_when_26 : Cond.static arraycopyName ∈ wsX7_when := mb_X7_when_wsX7_when_r2 (List.mem_of_getElem? (i := 1) rfl)
theorem mx_X7_when_27 : Cond.initialized "java/lang/System" ∈ wsX7_when := mb_X7_when_wsX7_when_r2 (List.mem_of_getElem? (i := 2) rfl)
theorem mx_X7_when_28 : Cond.fieldLink RX3 15 "MillTalk$Level" "kinds" "[I" ∈ wsX7_when := mb_X7_when_wsX7_when_r2 (List.mem_of_getElem? (i := 3) rfl)
theorem mx_X7_when_29 : Cond.fieldLink RX3 18 "MillTalk$Level" "places" "[I" ∈ wsX7_when := mb_X7_when_wsX7_when_r2 (List.mem_of_getElem? (i := 4) rfl)
theorem mx_X7_when_30 : Cond.fieldLink RX3 21 "MillTalk$Level" "louds" "[I" ∈ wsX7_when := mb_X7_when_wsX7_when_r2 (List.mem_of_getElem? (i := 5) rfl)
theorem mx_X7_when_31 : Cond.fieldLink RX3 24 "MillTalk$Level" "hows" "[I" ∈ wsX7_when := mb_X7_when_wsX7_when_r2 (List.mem_of_getElem? (i := 6) rfl)
theorem mb_X7_when_wsX30 {w : Cond} (h : w ∈ wsX30) : w ∈ wsX7_when := by unfold wsX7_when; exact List.mem_cons_of_mem _ (List.mem_append_right _ (h))
theorem ggX7_when_X3_becomeLike : GoodIn wsX7_when wsX3_becomeLike := goodIn_sub (by unfold wsX3_becomeLike; exact List.forall_mem_cons.mpr ⟨mx_X7_when_15, List.forall_mem_append.mpr ⟨List.forall_mem_cons.mpr ⟨mx_X7_when_16, List.forall_mem_cons.mpr ⟨mx_X7_when_17, List.forall_mem_cons.mpr ⟨mx_X7_when_18, List.forall_mem_cons.mpr ⟨mx_X7_when_19, List.forall_mem_cons.mpr ⟨mx_X7_when_20, List.forall_mem_cons.mpr ⟨mx_X7_when_21, List.forall_mem_cons.mpr ⟨mx_X7_when_22, List.forall_mem_cons.mpr ⟨mx_X7_when_11, List.forall_mem_cons.mpr ⟨mx_X7_when_23, List.forall_mem_cons.mpr ⟨mx_X7_when_24, List.forall_mem_cons.mpr ⟨mx_X7_when_25, List.forall_mem_cons.mpr ⟨mx_X7_when_26, List.forall_mem_cons.mpr ⟨mx_X7_when_27, List.forall_mem_cons.mpr ⟨mx_X7_when_28, List.forall_mem_cons.mpr ⟨mx_X7_when_29, List.forall_mem_cons.mpr ⟨mx_X7_when_30, List.forall_mem_cons.mpr ⟨mx_X7_when_31, fun _ h_ => absurd h_ List.not_mem_nil⟩⟩⟩⟩⟩⟩⟩⟩⟩⟩⟩⟩⟩⟩⟩⟩⟩, (fun _ h_ => mb_X7_when_wsX30 h_)⟩⟩) (by decide +kernel)
theorem mx_X7_when_12 : Cond.methodLink RX7 128 yX3_becomeLike ∈ wsX7_when := mb_X7_when_wsX7_when_r1 (List.mem_of_getElem? (i := 11) rfl)
theorem mx_X7_when_13 : Cond.instanceMethod yX3_becomeLike ∈ wsX7_when := mb_X7_when_wsX7_when_r1 (List.mem_of_getElem? (i := 12) rfl)
theorem mx_X7_when_14 : Cond.selects RX3 yX3_becomeLike yX3_becomeLike ∈ wsX7_when := mb_X7_when_wsX7_when_r1 (List.mem_of_getElem? (i := 13) rfl)
theorem mx_X7_when_9 : Cond.initialized RX3 ∈ wsX7_when := mb_X7_when_wsX7_when_r1 (List.mem_of_getElem? (i := 8) rfl)
theorem gX7_when_X3_becomeLike : GoodIn wsX7_when (wsV RX7 128 RX3 yX3_becomeLike wsX3_becomeLike) := goodIn_app (goodIn_sub (List.forall_mem_cons.mpr ⟨mx_X7_when_12, List.forall_mem_cons.mpr ⟨mx_X7_when_13, List.forall_mem_cons.mpr ⟨mx_X7_when_14, List.forall_mem_cons.mpr ⟨mx_X7_when_9, fun _ h_ => absurd h_ List.not_mem_nil⟩⟩⟩⟩) (by decide +kernel)) ggX7_when_X3_becomeLike
theorem mx_X7_when_10 : Cond.code yX3_hasSound cX3_hasSound 2 (some .boolean) ∈ wsX7_when := mb_X7_when_wsX7_when_r1 (List.mem_of_getElem? (i := 9) rfl)
theorem ggX7_when_X3_hasSound : GoodIn wsX7_when wsX3_hasSound := goodIn_sub (by unfold wsX3_hasSound; exact List.forall_mem_cons.mpr ⟨mx_X7_when_10, List.forall_mem_append.mpr ⟨List.forall_mem_cons.mpr ⟨mx_X7_when_11, fun _ h_ => absurd h_ List.not_mem_nil⟩, (fun _ h_ => mb_X7_when_wsX30 h_)⟩⟩) (by decide +kernel)
theorem mx_X7_when_6 : Cond.methodLink RX7 173 yX3_hasSound ∈ wsX7_when := mb_X7_when_wsX7_when_r1 (List.mem_of_getElem? (i := 5) rfl)
theorem mx_X7_when_7 : Cond.instanceMethod yX3_hasSound ∈ wsX7_when := mb_X7_when_wsX7_when_r1 (List.mem_of_getElem? (i := 6) rfl)
theorem mx_X7_when_8 : Cond.selects RX3 yX3_hasSound yX3_hasSound ∈ wsX7_when := mb_X7_when_wsX7_when_r1 (List.mem_of_getElem? (i := 7) rfl)
theorem gX7_when_X3_hasSound : GoodIn wsX7_when (wsV RX7 173 RX3 yX3_hasSound wsX3_hasSound) := goodIn_app (goodIn_sub (List.forall_mem_cons.mpr ⟨mx_X7_when_6, List.forall_mem_cons.mpr ⟨mx_X7_when_7, List.forall_mem_cons.mpr ⟨mx_X7_when_8, List.forall_mem_cons.mpr ⟨mx_X7_when_9, fun _ h_ => absurd h_ List.not_mem_nil⟩⟩⟩⟩) (by decide +kernel)) ggX7_when_X3_hasSound
theorem mx_X7_when_35 : Cond.code yX3_passOnly cX3_passOnly 4 none ∈ wsX7_when := mb_X7_when_wsX7_when_r2 (List.mem_of_getElem? (i := 10) rfl)
theorem mx_X7_when_36 : Cond.methodLink RX3 87 yX3_windOn ∈ wsX7_when := mb_X7_when_wsX7_when_r2 (List.mem_of_getElem? (i := 11) rfl)
theorem mx_X7_when_37 : Cond.instanceMethod yX3_windOn ∈ wsX7_when := mb_X7_when_wsX7_when_r2 (List.mem_of_getElem? (i := 12) rfl)
theorem mx_X7_when_38 : Cond.selects RX3 yX3_windOn yX3_windOn ∈ wsX7_when := mb_X7_when_wsX7_when_r2 (List.mem_of_getElem? (i := 13) rfl)
theorem mx_X7_when_39 : Cond.code yX3_windOn cX3_windOn 2 (some .int) ∈ wsX7_when := mb_X7_when_wsX7_when_r2 (List.mem_of_getElem? (i := 14) rfl)
theorem mx_X7_when_40 : Cond.methodLink RX3 90 yX3_passSound ∈ wsX7_when := mb_X7_when_wsX7_when_r2 (List.mem_of_getElem? (i := 15) rfl)
theorem mx_X7_when_41 : Cond.instanceMethod yX3_passSound ∈ wsX7_when := mb_X7_when_wsX7_when_r2 (List.mem_of_getElem? (i := 16) rfl)
theorem mx_X7_when_42 : Cond.selects RX3 yX3_passSound yX3_passSound ∈ wsX7_when := mb_X7_when_wsX7_when_r2 (List.mem_of_getElem? (i := 17) rfl)
theorem mx_X7_when_43 : Cond.code yX3_passSound cX3_passSound 5 none ∈ wsX7_when := mb_X7_when_wsX7_when_r2 (List.mem_of_getElem? (i := 18) rfl)
theorem mx_X7_when_44 : Cond.methodLink RX3 63 Lib.Math.min.name ∈ wsX7_when := mb_X7_when_wsX7_when_r2 (List.mem_of_getElem? (i := 19) rfl)
theorem mx_X7_when_45 : Cond.static Lib.Math.min.name ∈ wsX7_when := mb_X7_when_wsX7_when_r2 (List.mem_of_getElem? (i := 20) rfl)
theorem mx_X7_when_46 : Cond.initialized "java/lang/Math" ∈ wsX7_when := mb_X7_when_wsX7_when_r2 (List.mem_of_getElem? (i := 21) rfl)
theorem mx_X7_when_47 : Cond.code Lib.Math.min.name Lib.Math.min.code 2 (some .int) ∈ wsX7_when := mb_X7_when_wsX7_when_r2 (List.mem_of_getElem? (i := 22) rfl)
theorem mx_X7_when_48 : Cond.methodLink RX3 58 yX3_isLoose ∈ wsX7_when := mb_X7_when_wsX7_when_r2 (List.mem_of_getElem? (i := 23) rfl)
theorem mb_X7_when_wsX7_when_r3 {w : Cond} (h : w ∈ wsX7_when_r3) : w ∈ wsX7_when := by unfold wsX7_when; exact List.mem_cons_of_mem _ (List.mem_append_left _ (List.mem_append_left _ (List.mem_append_right _ (List.mem_append_right _ (h)))))
theorem mx_X7_when_49 : Cond.instanceMethod yX3_isLoose ∈ wsX7_when := mb_X7_when_wsX7_when_r3 (List.mem_of_getElem? (i := 0) rfl)
theorem mx_X7_when_50 : Cond.selects RX3 yX3_isLoose yX3_isLoose ∈ wsX7_when := mb_X7_when_wsX7_when_r3 (List.mem_of_getElem? (i := 1) rfl)
theorem mx_X7_when_51 : Cond.code yX3_isLoose cX3_isLoose 2 (some .boolean) ∈ wsX7_when := mb_X7_when_wsX7_when_r3 (List.mem_of_getElem? (i := 2) rfl)
theorem mx_X7_when_52 : Cond.methodLink RX3 69 yX3_driftOf ∈ wsX7_when := mb_X7_when_wsX7_when_r3 (List.mem_of_getElem? (i := 3) rfl)
theorem mx_X7_when_53 : Cond.instanceMethod yX3_driftOf ∈ wsX7_when := mb_X7_when_wsX7_when_r3 (List.mem_of_getElem? (i := 4) rfl)
theorem mx_X7_when_54 : Cond.selects RX3 yX3_driftOf yX3_driftOf ∈ wsX7_when := mb_X7_when_wsX7_when_r3 (List.mem_of_getElem? (i := 5) rfl)
theorem mx_X7_when_55 : Cond.code yX3_driftOf cX3_driftOf 4 (some .int) ∈ wsX7_when := mb_X7_when_wsX7_when_r3 (List.mem_of_getElem? (i := 6) rfl)
theorem mx_X7_when_56 : Cond.methodLink RX3 72 yX3_loudBehindHour ∈ wsX7_when := mb_X7_when_wsX7_when_r3 (List.mem_of_getElem? (i := 7) rfl)
theorem mx_X7_when_57 : Cond.instanceMethod yX3_loudBehindHour ∈ wsX7_when := mb_X7_when_wsX7_when_r3 (List.mem_of_getElem? (i := 8) rfl)
theorem mx_X7_when_58 : Cond.selects RX3 yX3_loudBehindHour yX3_loudBehindHour ∈ wsX7_when := mb_X7_when_wsX7_when_r3 (List.mem_of_getElem? (i := 9) rfl)
theorem mx_X7_when_59 : Cond.code yX3_loudBehindHour cX3_loudBehindHour 2 (some .int) ∈ wsX7_when := mb_X7_when_wsX7_when_r3 (List.mem_of_getElem? (i := 10) rfl)
theorem mx_X7_when_60 : Cond.methodLink RX3 76 yX3_hasCell ∈ wsX7_when := mb_X7_when_wsX7_when_r3 (List.mem_of_getElem? (i := 11) rfl)
theorem mx_X7_when_61 : Cond.instanceMethod yX3_hasCell ∈ wsX7_when := mb_X7_when_wsX7_when_r3 (List.mem_of_getElem? (i := 12) rfl)
theorem mx_X7_when_62 : Cond.selects RX3 yX3_hasCell yX3_hasCell ∈ wsX7_when := mb_X7_when_wsX7_when_r3 (List.mem_of_getElem? (i := 13) rfl)
theorem mx_X7_when_63 : Cond.code yX3_hasCell cX3_hasCell 2 (some .boolean) ∈ wsX7_when := mb_X7_when_wsX7_when_r3 (List.mem_of_getElem? (i := 14) rfl)
theorem mx_X7_when_64 : Cond.methodLink RX3 79 yX3_letLoose ∈ wsX7_when := mb_X7_when_wsX7_when_r3 (List.mem_of_getElem? (i := 15) rfl)
theorem mx_X7_when_65 : Cond.instanceMethod yX3_letLoose ∈ wsX7_when := mb_X7_when_wsX7_when_r3 (List.mem_of_getElem? (i := 16) rfl)
theorem mx_X7_when_66 : Cond.selects RX3 yX3_letLoose yX3_letLoose ∈ wsX7_when := mb_X7_when_wsX7_when_r3 (List.mem_of_getElem? (i := 17) rfl)
theorem mx_X7_when_67 : Cond.code yX3_letLoose cX3_letLoose 4 none ∈ wsX7_when := mb_X7_when_wsX7_when_r3 (List.mem_of_getElem? (i := 18) rfl)
theorem mx_X7_when_68 : Cond.methodLink RX3 83 yX3_grindsAt ∈ wsX7_when := mb_X7_when_wsX7_when_r3 (List.mem_of_getElem? (i := 19) rfl)
theorem mx_X7_when_69 : Cond.instanceMethod yX3_grindsAt ∈ wsX7_when := mb_X7_when_wsX7_when_r3 (List.mem_of_getElem? (i := 20) rfl)
theorem mx_X7_when_70 : Cond.selects RX3 yX3_grindsAt yX3_grindsAt ∈ wsX7_when := mb_X7_when_wsX7_when_r3 (List.mem_of_getElem? (i := 21) rfl)
theorem mx_X7_when_71 : Cond.code yX3_grindsAt cX3_grindsAt 4 (some .boolean) ∈ wsX7_when := mb_X7_when_wsX7_when_r3 (List.mem_of_getElem? (i := 22) rfl)
theorem ggX7_when_X3_passOnly : GoodIn wsX7_when wsX3_passOnly := goodIn_sub (by unfold wsX3_passOnly; exact List.forall_mem_cons.mpr ⟨mx_X7_when_35, List.forall_mem_append.mpr ⟨List.forall_mem_append.mpr ⟨(by unfold wsX3_passOnly_r1; exact List.forall_mem_cons.mpr ⟨mx_X7_when_20, List.forall_mem_cons.mpr ⟨mx_X7_when_36, List.forall_mem_cons.mpr ⟨mx_X7_when_37, List.forall_mem_cons.mpr ⟨mx_X7_when_38, List.forall_mem_cons.mpr ⟨mx_X7_when_9, List.forall_mem_cons.mpr ⟨mx_X7_when_39, List.forall_mem_cons.mpr ⟨mx_X7_when_22, List.forall_mem_cons.mpr ⟨mx_X7_when_23, List.forall_mem_cons.mpr ⟨mx_X7_when_40, List.forall_mem_cons.mpr ⟨mx_X7_when_41, List.forall_mem_cons.mpr ⟨mx_X7_when_42, List.forall_mem_cons.mpr ⟨mx_X7_when_43, List.forall_mem_cons.mpr ⟨mx_X7_when_29, List.forall_mem_cons.mpr ⟨mx_X7_when_31, List.forall_mem_cons.mpr ⟨mx_X7_when_21, List.forall_mem_cons.mpr ⟨mx_X7_when_44, List.forall_mem_cons.mpr ⟨mx_X7_when_45, List.forall_mem_cons.mpr ⟨mx_X7_when_46, List.forall_mem_cons.mpr ⟨mx_X7_when_47, List.forall_mem_cons.mpr ⟨mx_X7_when_48, List.forall_mem_cons.mpr ⟨mx_X7_when_49, List.forall_mem_cons.mpr ⟨mx_X7_when_50, List.forall_mem_cons.mpr ⟨mx_X7_when_51, List.forall_mem_cons.mpr ⟨mx_X7_when_52, fun _ h_ => absurd h_ List.not_mem_nil⟩⟩⟩⟩⟩⟩⟩⟩⟩⟩⟩⟩⟩⟩⟩⟩⟩⟩⟩⟩⟩⟩⟩⟩), List.forall_mem_append.mpr ⟨(by unfold wsX3_passOnly_r2; exact List.forall_mem_cons.mpr ⟨mx_X7_when_53, List.forall_mem_cons.mpr ⟨mx_X7_when_54, List.forall_mem_cons.mpr ⟨mx_X7_when_55, List.forall_mem_cons.mpr ⟨mx_X7_when_28, List.forall_mem_cons.mpr ⟨mx_X7_when_56, List.forall_mem_cons.mpr ⟨mx_X7_when_57, List.forall_mem_cons.mpr ⟨mx_X7_when_58, List.forall_mem_cons.mpr ⟨mx_X7_when_59, List.forall_mem_cons.mpr ⟨mx_X7_when_30, List.forall_mem_cons.mpr ⟨mx_X7_when_60, List.forall_mem_cons.mpr ⟨mx_X7_when_61, List.forall_mem_cons.mpr ⟨mx_X7_when_62, List.forall_mem_cons.mpr ⟨mx_X7_when_63, List.forall_mem_cons.mpr ⟨mx_X7_when_16, List.forall_mem_cons.mpr ⟨mx_X7_when_64, List.forall_mem_cons.mpr ⟨mx_X7_when_65, List.forall_mem_cons.mpr ⟨mx_X7_when_66, List.forall_mem_cons.mpr ⟨mx_X7_when_67, List.forall_mem_cons.mpr ⟨mx_X7_when_68, List.forall_mem_cons.mpr ⟨mx_X7_when_69, List.forall_mem_cons.mpr ⟨mx_X7_when_70, List.forall_mem_cons.mpr ⟨mx_X7_when_71, List.forall_mem_cons.mpr ⟨mx_X7_when_19, List.forall_mem_cons.mpr ⟨mx_X7_when_17, fun _ h_ => absurd h_ List.not_mem_nil⟩⟩⟩⟩⟩⟩⟩⟩⟩⟩⟩⟩⟩⟩⟩⟩⟩⟩⟩⟩⟩⟩⟩⟩), (by unfold wsX3_passOnly_r3; exact List.forall_mem_cons.mpr ⟨mx_X7_when_18, fun _ h_ => absurd h_ List.not_mem_nil⟩)⟩⟩, (fun _ h_ => mb_X7_when_wsX30 h_)⟩⟩) (by decide +kernel)
theorem mx_X7_when_32 : Cond.methodLink RX7 210 yX3_passOnly ∈ wsX7_when := mb_X7_when_wsX7_when_r2 (List.mem_of_getElem? (i := 7) rfl)
theorem mx_X7_when_33 : Cond.instanceMethod yX3_passOnly ∈ wsX7_when := mb_X7_when_wsX7_when_r2 (List.mem_of_getElem? (i := 8) rfl)
theorem mx_X7_when_34 : Cond.selects RX3 yX3_passOnly yX3_passOnly ∈ wsX7_when := mb_X7_when_wsX7_when_r2 (List.mem_of_getElem? (i := 9) rfl)
theorem gX7_when_X3_passOnly : GoodIn wsX7_when (wsV RX7 210 RX3 yX3_passOnly wsX3_passOnly) := goodIn_app (goodIn_sub (List.forall_mem_cons.mpr ⟨mx_X7_when_32, List.forall_mem_cons.mpr ⟨mx_X7_when_33, List.forall_mem_cons.mpr ⟨mx_X7_when_34, List.forall_mem_cons.mpr ⟨mx_X7_when_9, fun _ h_ => absurd h_ List.not_mem_nil⟩⟩⟩⟩) (by decide +kernel)) ggX7_when_X3_passOnly
theorem mb_X7_who_wsX7_who_r1 {w : Cond} (h : w ∈ wsX7_who_r1) : w ∈ wsX7_who := by unfold wsX7_who; exact List.mem_cons_of_mem _ (List.mem_append_left _ (List.mem_append_left _ (List.mem_append_left _ (List.mem_append_left _ (h)))))
theorem mx_X7_who_7 : Cond.code yX3_hasSound cX3_hasSound 2 (some .boolean) ∈ wsX7_who := mb_X7_who_wsX7_who_r1 (List.mem_of_getElem? (i := 6) rfl)
theorem mx_X7_who_8 : Cond.fieldLink RX3 49 "MillTalk$Level" "soundCount" "I" ∈ wsX7_who := mb_X7_who_wsX7_who_r1 (List.mem_of_getElem? (i := 7) rfl)
theorem mb_X7_who_wsX30 {w : Cond} (h : w ∈ wsX30) : w ∈ wsX7_who := by unfold wsX7_who; exact List.mem_cons_of_mem _ (List.mem_append_left _ (List.mem_append_right _ (h)))
theorem ggX7_who_X3_hasSound : GoodIn wsX7_who wsX3_hasSound := goodIn_sub (by unfold wsX3_hasSound; exact List.forall_mem_cons.mpr ⟨mx_X7_who_7, List.forall_mem_append.mpr ⟨List.forall_mem_cons.mpr ⟨mx_X7_who_8, fun _ h_ => absurd h_ List.not_mem_nil⟩, (fun _ h_ => mb_X7_who_wsX30 h_)⟩⟩) (by decide +kernel)
theorem mx_X7_who_3 : Cond.methodLink RX7 173 yX3_hasSound ∈ wsX7_who := mb_X7_who_wsX7_who_r1 (List.mem_of_getElem? (i := 2) rfl)
theorem mx_X7_who_4 : Cond.instanceMethod yX3_hasSound ∈ wsX7_who := mb_X7_who_wsX7_who_r1 (List.mem_of_getElem? (i := 3) rfl)
theorem mx_X7_who_5 : Cond.selects RX3 yX3_hasSound yX3_hasSound ∈ wsX7_who := mb_X7_who_wsX7_who_r1 (List.mem_of_getElem? (i := 4) rfl)
theorem mx_X7_who_6 : Cond.initialized RX3 ∈ wsX7_who := mb_X7_who_wsX7_who_r1 (List.mem_of_getElem? (i := 5) rfl)
theorem gX7_who_X3_hasSound : GoodIn wsX7_who (wsV RX7 173 RX3 yX3_hasSound wsX3_hasSound) := goodIn_app (goodIn_sub (List.forall_mem_cons.mpr ⟨mx_X7_who_3, List.forall_mem_cons.mpr ⟨mx_X7_who_4, List.forall_mem_cons.mpr ⟨mx_X7_who_5, List.forall_mem_cons.mpr ⟨mx_X7_who_6, fun _ h_ => absurd h_ List.not_mem_nil⟩⟩⟩⟩) (by decide +kernel)) ggX7_who_X3_hasSound
theorem mb_X7_who_wsX7_who_r6 {w : Cond} (h : w ∈ wsX7_who_r6) : w ∈ wsX7_who := by unfold wsX7_who; exact List.mem_cons_of_mem _ (List.mem_append_left _ (List.mem_append_left _ (List.mem_append_left _ (List.mem_append_right _ (List.mem_append_right _ (List.mem_append_right _ (List.mem_append_right _ (List.mem_append_right _ (h)))))))))
theorem mx_X7_who_128 : Cond.code yX7_foundNothing cX7_foundNothing 2 (some .int) ∈ wsX7_who := mb_X7_who_wsX7_who_r6 (List.mem_of_getElem? (i := 7) rfl)
theorem mb_X7_who_wsX7_who_r2 {w : Cond} (h : w ∈ wsX7_who_r2) : w ∈ wsX7_who := by unfold wsX7_who; exact List.mem_cons_of_mem _ (List.mem_append_left _ (List.mem_append_left _ (List.mem_append_left _ (List.mem_append_right _ (List.mem_append_left _ (h))))))
theorem mx_X7_who_46 : Cond.fieldLink RX7 323 "MillTalk" "latestFinding" "I" ∈ wsX7_who := mb_X7_who_wsX7_who_r2 (List.mem_of_getElem? (i := 21) rfl)
theorem mb_X7_who_wsX70 {w : Cond} (h : w ∈ wsX70) : w ∈ wsX7_who := by unfold wsX7_who; exact List.mem_cons_of_mem _ (List.mem_append_left _ (List.mem_append_left _ (List.mem_append_right _ (h))))
theorem ggX7_who_X7_foundNothing : GoodIn wsX7_who wsX7_foundNothing := goodIn_sub (by unfold wsX7_foundNothing; exact List.forall_mem_cons.mpr ⟨mx_X7_who_128, List.forall_mem_append.mpr ⟨List.forall_mem_cons.mpr ⟨mx_X7_who_46, fun _ h_ => absurd h_ List.not_mem_nil⟩, (fun _ h_ => mb_X7_who_wsX70 h_)⟩⟩) (by decide +kernel)
theorem mx_X7_who_125 : Cond.methodLink RX7 81 yX7_foundNothing ∈ wsX7_who := mb_X7_who_wsX7_who_r6 (List.mem_of_getElem? (i := 4) rfl)
theorem mx_X7_who_126 : Cond.instanceMethod yX7_foundNothing ∈ wsX7_who := mb_X7_who_wsX7_who_r6 (List.mem_of_getElem? (i := 5) rfl)
theorem mx_X7_who_127 : Cond.selects RX7 yX7_foundNothing yX7_foundNothing ∈ wsX7_who := mb_X7_who_wsX7_who_r6 (List.mem_of_getElem? (i := 6) rfl)
theorem mx_X7_who_11 : Cond.initialized RX7 ∈ wsX7_who := mb_X7_who_wsX7_who_r1 (List.mem_of_getElem? (i := 10) rfl)
theorem gX7_who_X7_foundNothing : GoodIn wsX7_who (wsV RX7 81 RX7 yX7_foundNothing wsX7_foundNothing) := goodIn_app (goodIn_sub (List.forall_mem_cons.mpr ⟨mx_X7_who_125, List.forall_mem_cons.mpr ⟨mx_X7_who_126, List.forall_mem_cons.mpr ⟨mx_X7_who_127, List.forall_mem_cons.mpr ⟨mx_X7_who_11, fun _ h_ => absurd h_ List.not_mem_nil⟩⟩⟩⟩) (by decide +kernel)) ggX7_who_X7_foundNothing
theorem mx_X7_who_12 : Cond.code yX7_isHeard cX7_isHeard 2 (some .boolean) ∈ wsX7_who := mb_X7_who_wsX7_who_r1 (List.mem_of_getElem? (i := 11) rfl)
theorem mx_X7_who_13 : Cond.methodLink RX7 65 yX5_isRow ∈ wsX7_who := mb_X7_who_wsX7_who_r1 (List.mem_of_getElem? (i := 12) rfl)
theorem mx_X7_who_14 : Cond.static yX5_isRow ∈ wsX7_who := mb_X7_who_wsX7_who_r1 (List.mem_of_getElem? (i := 13) rfl)
theorem mx_X7_who_15 : Cond.initialized RX5 ∈ wsX7_who := mb_X7_who_wsX7_who_r1 (List.mem_of_getElem? (i := 14) rfl)
theorem mx_X7_who_16 : Cond.code yX5_isRow cX5_isRow 1 (some .boolean) ∈ wsX7_who := mb_X7_who_wsX7_who_r1 (List.mem_of_getElem? (i := 15) rfl)
theorem ggX7_who_X7_isHeard : GoodIn wsX7_who wsX7_isHeard := goodIn_sub (by unfold wsX7_isHeard; exact List.forall_mem_cons.mpr ⟨mx_X7_who_12, List.forall_mem_cons.mpr ⟨mx_X7_who_13, List.forall_mem_cons.mpr ⟨mx_X7_who_14, List.forall_mem_cons.mpr ⟨mx_X7_who_15, List.forall_mem_cons.mpr ⟨mx_X7_who_16, fun _ h_ => absurd h_ List.not_mem_nil⟩⟩⟩⟩⟩) (by decide +kernel)
set_option maxRecDepth 20000 in
theorem gX7_who_X7_isHeard : GoodIn wsX7_who (va_wsS RX7 247 yX7_isHeard wsX7_isHeard) := goodIn_app (goodIn_of _ (by decide +kernel)) ggX7_who_X7_isHeard
theorem mb_X7_who_wsX7_who_r3 {w : Cond} (h : w ∈ wsX7_who_r3) : w ∈ wsX7_who := by unfold wsX7_who; exact List.mem_cons_of_mem _ (List.mem_append_left _ (List.mem_append_left _ (List.mem_append_left _ (List.mem_append_right _ (List.mem_append_right _ (List.mem_append_left _ (h)))))))
theorem mx_X7_who_51 : Cond.code yX7_kindsThatFit cX7_kindsThatFit 7 (some .int) ∈ wsX7_who := mb_X7_who_wsX7_who_r3 (List.mem_of_getElem? (i := 2) rfl)
theorem mx_X7_who_52 : Cond.fieldLink RX7 41 "MillTalk" "trial" "LMillTalk$Level;" ∈ wsX7_who := mb_X7_who_wsX7_who_r3 (List.mem_of_getElem? (i := 3) rfl)
theorem mx_X7_who_1 : Cond.fieldLink RX7 26 "MillTalk" "now" "LMillTalk$Level;" ∈ wsX7_who := mb_X7_who_wsX7_who_r1 (List.mem_of_getElem? (i := 0) rfl)
theorem mx_X7_who_53 : Cond.fieldLink RX7 301 "MillTalk$Level" "kinds" "[I" ∈ wsX7_who := mb_X7_who_wsX7_who_r3 (List.mem_of_getElem? (i := 4) rfl)
theorem mx_X7_who_54 : Cond.methodLink RX7 128 yX3_becomeLike ∈ wsX7_who := mb_X7_who_wsX7_who_r3 (List.mem_of_getElem? (i := 5) rfl)
theorem mx_X7_who_55 : Cond.instanceMethod yX3_becomeLike ∈ wsX7_who := mb_X7_who_wsX7_who_r3 (List.mem_of_getElem? (i := 6) rfl)
theorem mx_X7_who_56 : Cond.selects RX3 yX3_becomeLike yX3_becomeLike ∈ wsX7_who := mb_X7_who_wsX7_who_r3 (List.mem_of_getElem? (i := 7) rfl)
theorem mx_X7_who_57 : Cond.code yX3_becomeLike cX3_becomeLike 2 none ∈ wsX7_who := mb_X7_who_wsX7_who_r3 (List.mem_of_getElem? (i := 8) rfl)
theorem mx_X7_who_58 : Cond.fieldLink RX3 27 "MillTalk$Level" "cells" "I" ∈ wsX7_who := mb_X7_who_wsX7_who_r3 (List.mem_of_getElem? (i := 9) rfl)
theorem mx_X7_who_59 : Cond.fieldLink RX3 31 "MillTalk$Level" "mill" "I" ∈ wsX7_who := mb_X7_who_wsX7_who_r3 (List.mem_of_getElem? (i := 10) rfl)
theorem mx_X7_who_60 : Cond.fieldLink RX3 34 "MillTalk$Level" "reach" "I" ∈ wsX7_who := mb_X7_who_wsX7_who_r3 (List.mem_of_getElem? (i := 11) rfl)
theorem mx_X7_who_61 : Cond.fieldLink RX3 37 "MillTalk$Level" "cap" "I" ∈ wsX7_who := mb_X7_who_wsX7_who_r3 (List.mem_of_getElem? (i := 12) rfl)
theorem mx_X7_who_62 : Cond.fieldLink RX3 40 "MillTalk$Level" "hour" "I" ∈ wsX7_who := mb_X7_who_wsX7_who_r3 (List.mem_of_getElem? (i := 13) rfl)
theorem mx_X7_who_63 : Cond.fieldLink RX3 43 "MillTalk$Level" "meal" "I" ∈ wsX7_who := mb_X7_who_wsX7_who_r3 (List.mem_of_getElem? (i := 14) rfl)
theorem mx_X7_who_64 : Cond.fieldLink RX3 46 "MillTalk$Level" "windCount" "I" ∈ wsX7_who := mb_X7_who_wsX7_who_r3 (List.mem_of_getElem? (i := 15) rfl)
theorem mx_X7_who_65 : Cond.fieldLink RX3 9 "MillTalk$Level" "winds" "[I" ∈ wsX7_who := mb_X7_who_wsX7_who_r3 (List.mem_of_getElem? (i := 16) rfl)
theorem mx_X7_who_66 : Cond.methodLink RX3 52 arraycopyName ∈ wsX7_who := mb_X7_who_wsX7_who_r3 (List.mem_of_getElem? (i := 17) rfl)
theorem mx_X7_who_67 : Cond.native arraycopyName ∈ wsX7_who := mb_X7_who_wsX7_who_r3 (List.mem_of_getElem? (i := 18) rfl)
theorem mx_X7_who_68 : Cond.static arraycopyName ∈ wsX7_who := mb_X7_who_wsX7_who_r3 (List.mem_of_getElem? (i := 19) rfl)
theorem mx_X7_who_69 : Cond.initialized "java/lang/System" ∈ wsX7_who := mb_X7_who_wsX7_who_r3 (List.mem_of_getElem? (i := 20) rfl)
theorem mx_X7_who_70 : Cond.fieldLink RX3 15 "MillTalk$Level" "kinds" "[I" ∈ wsX7_who := mb_X7_who_wsX7_who_r3 (List.mem_of_getElem? (i := 21) rfl)
theorem mx_X7_who_71 : Cond.fieldLink RX3 18 "MillTalk$Level" "places" "[I" ∈ wsX7_who := mb_X7_who_wsX7_who_r3 (List.mem_of_getElem? (i := 22) rfl)
theorem mx_X7_who_72 : Cond.fieldLink RX3 21 "MillTalk$Level" "louds" "[I" ∈ wsX7_who := mb_X7_who_wsX7_who_r3 (List.mem_of_getElem? (i := 23) rfl)
theorem mx_X7_who_27 : Cond.fieldLink RX3 24 "MillTalk$Level" "hows" "[I" ∈ wsX7_who := mb_X7_who_wsX7_who_r2 (List.mem_of_getElem? (i := 2) rfl)
theorem mb_X7_who_wsX7_who_r4 {w : Cond} (h : w ∈ wsX7_who_r4) : w ∈ wsX7_who := by unfold wsX7_who; exact List.mem_cons_of_mem _ (List.mem_append_left _ (List.mem_append_left _ (List.mem_append_left _ (List.mem_append_right _ (List.mem_append_right _ (List.mem_append_right _ (List.mem_append_left _ (h))))))))
theorem mx_X7_who_73 : Cond.methodLink RX7 330 yX7_trialFits ∈ wsX7_who := mb_X7_who_wsX7_who_r4 (List.mem_of_getElem? (i := 0) rfl)
theorem mx_X7_who_74 : Cond.instanceMethod yX7_trialFits ∈ wsX7_who := mb_X7_who_wsX7_who_r4 (List.mem_of_getElem? (i := 1) rfl)
theorem mx_X7_who_75 : Cond.selects RX7 yX7_trialFits yX7_trialFits ∈ wsX7_who := mb_X7_who_wsX7_who_r4 (List.mem_of_getElem? (i := 2) rfl)
theorem mx_X7_who_76 : Cond.code yX7_trialFits cX7_trialFits 7 (some .boolean) ∈ wsX7_who := mb_X7_who_wsX7_who_r4 (List.mem_of_getElem? (i := 3) rfl)
theorem mx_X7_who_77 : Cond.fieldLink RX7 334 "MillTalk$Level" "places" "[I" ∈ wsX7_who := mb_X7_who_wsX7_who_r4 (List.mem_of_getElem? (i := 4) rfl)
theorem mx_X7_who_22 : Cond.fieldLink RX7 10 "MillTalk" "rows" "LMillTalk$Rows;" ∈ wsX7_who := mb_X7_who_wsX7_who_r1 (List.mem_of_getElem? (i := 21) rfl)
theorem mx_X7_who_78 : Cond.methodLink RX7 210 yX3_passOnly ∈ wsX7_who := mb_X7_who_wsX7_who_r4 (List.mem_of_getElem? (i := 5) rfl)
theorem mx_X7_who_79 : Cond.instanceMethod yX3_passOnly ∈ wsX7_who := mb_X7_who_wsX7_who_r4 (List.mem_of_getElem? (i := 6) rfl)
theorem mx_X7_who_80 : Cond.selects RX3 yX3_passOnly yX3_passOnly ∈ wsX7_who := mb_X7_who_wsX7_who_r4 (List.mem_of_getElem? (i := 7) rfl)
theorem mx_X7_who_81 : Cond.code yX3_passOnly cX3_passOnly 4 none ∈ wsX7_who := mb_X7_who_wsX7_who_r4 (List.mem_of_getElem? (i := 8) rfl)
theorem mx_X7_who_82 : Cond.methodLink RX3 87 yX3_windOn ∈ wsX7_who := mb_X7_who_wsX7_who_r4 (List.mem_of_getElem? (i := 9) rfl)
theorem mx_X7_who_83 : Cond.instanceMethod yX3_windOn ∈ wsX7_who := mb_X7_who_wsX7_who_r4 (List.mem_of_getElem? (i := 10) rfl)
theorem mx_X7_who_84 : Cond.selects RX3 yX3_windOn yX3_windOn ∈ wsX7_who := mb_X7_who_wsX7_who_r4 (List.mem_of_getElem? (i := 11) rfl)
theorem mx_X7_who_85 : Cond.code yX3_windOn cX3_windOn 2 (some .int) ∈ wsX7_who := mb_X7_who_wsX7_who_r4 (List.mem_of_getElem? (i := 12) rfl)
theorem mx_X7_who_86 : Cond.methodLink RX3 90 yX3_passSound ∈ wsX7_who := mb_X7_who_wsX7_who_r4 (List.mem_of_getElem? (i := 13) rfl)
theorem mx_X7_who_87 : Cond.instanceMethod yX3_passSound ∈ wsX7_who := mb_X7_who_wsX7_who_r4 (List.mem_of_getElem? (i := 14) rfl)
theorem mx_X7_who_88 : Cond.selects RX3 yX3_passSound yX3_passSound ∈ wsX7_who := mb_X7_who_wsX7_who_r4 (List.mem_of_getElem? (i := 15) rfl)
theorem mx_X7_who_89 : Cond.code yX3_passSound cX3_passSound 5 none ∈ wsX7_who := mb_X7_who_wsX7_who_r4 (List.mem_of_getElem? (i := 16) rfl)
theorem mx_X7_who_90 : Cond.methodLink RX3 63 Lib.Math.min.name ∈ wsX7_who := mb_X7_who_wsX7_who_r4 (List.mem_of_getElem? (i := 17) rfl)
theorem mx_X7_who_91 : Cond.static Lib.Math.min.name ∈ wsX7_who := mb_X7_who_wsX7_who_r4 (List.mem_of_getElem? (i := 18) rfl)
theorem mx_X7_who_92 : Cond.initialized "java/lang/Math" ∈ wsX7_who := mb_X7_who_wsX7_who_r4 (List.mem_of_getElem? (i := 19) rfl)
theorem mx_X7_who_93 : Cond.code Lib.Math.min.name Lib.Math.min.code 2 (some .int) ∈ wsX7_who := mb_X7_who_wsX7_who_r4 (List.mem_of_getElem? (i := 20) rfl)
theorem mx_X7_who_94 : Cond.methodLink RX3 58 yX3_isLoose ∈ wsX7_who := mb_X7_who_wsX7_who_r4 (List.mem_of_getElem? (i := 21) rfl)
theorem mx_X7_who_24 : Cond.instanceMethod yX3_isLoose ∈ wsX7_who := mb_X7_who_wsX7_who_r1 (List.mem_of_getElem? (i := 23) rfl)
theorem mx_X7_who_25 : Cond.selects RX3 yX3_isLoose yX3_isLoose ∈ wsX7_who := mb_X7_who_wsX7_who_r2 (List.mem_of_getElem? (i := 0) rfl)
theorem mx_X7_who_26 : Cond.code yX3_isLoose cX3_isLoose 2 (some .boolean) ∈ wsX7_who := mb_X7_who_wsX7_who_r2 (List.mem_of_getElem? (i := 1) rfl)
theorem mx_X7_who_95 : Cond.methodLink RX3 69 yX3_driftOf ∈ wsX7_who := mb_X7_who_wsX7_who_r4 (List.mem_of_getElem? (i := 22) rfl)
theorem mx_X7_who_96 : Cond.instanceMethod yX3_driftOf ∈ wsX7_who := mb_X7_who_wsX7_who_r4 (List.mem_of_getElem? (i := 23) rfl)
theorem mb_X7_who_wsX7_who_r5 {w : Cond} (h : w ∈ wsX7_who_r5) : w ∈ wsX7_who := by unfold wsX7_who; exact List.mem_cons_of_mem _ (List.mem_append_left _ (List.mem_append_left _ (List.mem_append_left _ (List.mem_append_right _ (List.mem_append_right _ (List.mem_append_right _ (List.mem_append_right _ (List.mem_append_left _ (h)))))))))
theorem mx_X7_who_97 : Cond.selects RX3 yX3_driftOf yX3_driftOf ∈ wsX7_who := mb_X7_who_wsX7_who_r5 (List.mem_of_getElem? (i := 0) rfl)
theorem mx_X7_who_98 : Cond.code yX3_driftOf cX3_driftOf 4 (some .int) ∈ wsX7_who := mb_X7_who_wsX7_who_r5 (List.mem_of_getElem? (i := 1) rfl)
theorem mx_X7_who_99 : Cond.methodLink RX3 72 yX3_loudBehindHour ∈ wsX7_who := mb_X7_who_wsX7_who_r5 (List.mem_of_getElem? (i := 2) rfl)
theorem mx_X7_who_100 : Cond.instanceMethod yX3_loudBehindHour ∈ wsX7_who := mb_X7_who_wsX7_who_r5 (List.mem_of_getElem? (i := 3) rfl)
theorem mx_X7_who_101 : Cond.selects RX3 yX3_loudBehindHour yX3_loudBehindHour ∈ wsX7_who := mb_X7_who_wsX7_who_r5 (List.mem_of_getElem? (i := 4) rfl)
theorem mx_X7_who_102 : Cond.code yX3_loudBehindHour cX3_loudBehindHour 2 (some .int) ∈ wsX7_who := mb_X7_who_wsX7_who_r5 (List.mem_of_getElem? (i := 5) rfl)
theorem mx_X7_who_103 : Cond.methodLink RX3 76 yX3_hasCell ∈ wsX7_who := mb_X7_who_wsX7_who_r5 (List.mem_of_getElem? (i := 6) rfl)
theorem mx_X7_who_104 : Cond.instanceMethod yX3_hasCell ∈ wsX7_who := mb_X7_who_wsX7_who_r5 (List.mem_of_getElem? (i := 7) rfl)
theorem mx_X7_who_105 : Cond.selects RX3 yX3_hasCell yX3_hasCell ∈ wsX7_who := mb_X7_who_wsX7_who_r5 (List.mem_of_getElem? (i := 8) rfl)
theorem mx_X7_who_106 : Cond.code yX3_hasCell cX3_hasCell 2 (some .boolean) ∈ wsX7_who := mb_X7_who_wsX7_who_r5 (List.mem_of_getElem? (i := 9) rfl)
theorem mx_X7_who_107 : Cond.methodLink RX3 79 yX3_letLoose ∈ wsX7_who := mb_X7_who_wsX7_who_r5 (List.mem_of_getElem? (i := 10) rfl)
theorem mx_X7_who_108 : Cond.instanceMethod yX3_letLoose ∈ wsX7_who := mb_X7_who_wsX7_who_r5 (List.mem_of_getElem? (i := 11) rfl)
theorem mx_X7_who_109 : Cond.selects RX3 yX3_letLoose yX3_letLoose ∈ wsX7_who := mb_X7_who_wsX7_who_r5 (List.mem_of_getElem? (i := 12) rfl)
theorem mx_X7_who_110 : Cond.code yX3_letLoose cX3_letLoose 4 none ∈ wsX7_who := mb_X7_who_wsX7_who_r5 (List.mem_of_getElem? (i := 13) rfl)
theorem mx_X7_who_111 : Cond.methodLink RX3 83 yX3_grindsAt ∈ wsX7_who := mb_X7_who_wsX7_who_r5 (List.mem_of_getElem? (i := 14) rfl)
theorem mx_X7_who_112 : Cond.instanceMethod yX3_grindsAt ∈ wsX7_who := mb_X7_who_wsX7_who_r5 (List.mem_of_getElem? (i := 15) rfl)
theorem mx_X7_who_113 : Cond.selects RX3 yX3_grindsAt yX3_grindsAt ∈ wsX7_who := mb_X7_who_wsX7_who_r5 (List.mem_of_getElem? (i := 16) rfl)
theorem mx_X7_who_114 : Cond.code yX3_grindsAt cX3_grindsAt 4 (some .boolean) ∈ wsX7_who := mb_X7_who_wsX7_who_r5 (List.mem_of_getElem? (i := 17) rfl)
theorem mx_X7_who_23 : Cond.methodLink RX7 179 yX3_isLoose ∈ wsX7_who := mb_X7_who_wsX7_who_r1 (List.mem_of_getElem? (i := 22) rfl)
theorem mx_X7_who_115 : Cond.methodLink RX7 337 yX5_item ∈ wsX7_who := mb_X7_who_wsX7_who_r5 (List.mem_of_getElem? (i := 18) rfl)
theorem mx_X7_who_116 : Cond.instanceMethod yX5_item ∈ wsX7_who := mb_X7_who_wsX7_who_r5 (List.mem_of_getElem? (i := 19) rfl)
theorem mx_X7_who_117 : Cond.selects RX5 yX5_item yX5_item ∈ wsX7_who := mb_X7_who_wsX7_who_r5 (List.mem_of_getElem? (i := 20) rfl)
theorem mx_X7_who_118 : Cond.code yX5_item cX5_item 3 (some .int) ∈ wsX7_who := mb_X7_who_wsX7_who_r5 (List.mem_of_getElem? (i := 21) rfl)
theorem mx_X7_who_119 : Cond.fieldLink RX5 13 "MillTalk$Rows" "items" "[[I" ∈ wsX7_who := mb_X7_who_wsX7_who_r5 (List.mem_of_getElem? (i := 22) rfl)
theorem mb_X7_who_wsX50 {w : Cond} (h : w ∈ wsX50) : w ∈ wsX7_who := by unfold wsX7_who; exact List.mem_cons_of_mem _ (List.mem_append_right _ (h))
theorem ggX7_who_X7_kindsThatFit : GoodIn wsX7_who wsX7_kindsThatFit := goodIn_sub (by unfold wsX7_kindsThatFit; exact List.forall_mem_cons.mpr ⟨mx_X7_who_51, List.forall_mem_append.mpr ⟨List.forall_mem_append.mpr ⟨List.forall_mem_append.mpr ⟨List.forall_mem_append.mpr ⟨(by unfold wsX7_kindsThatFit_r1; exact List.forall_mem_cons.mpr ⟨mx_X7_who_52, List.forall_mem_cons.mpr ⟨mx_X7_who_1, List.forall_mem_cons.mpr ⟨mx_X7_who_53, List.forall_mem_cons.mpr ⟨mx_X7_who_54, List.forall_mem_cons.mpr ⟨mx_X7_who_55, List.forall_mem_cons.mpr ⟨mx_X7_who_56, List.forall_mem_cons.mpr ⟨mx_X7_who_6, List.forall_mem_cons.mpr ⟨mx_X7_who_57, List.forall_mem_cons.mpr ⟨mx_X7_who_58, List.forall_mem_cons.mpr ⟨mx_X7_who_59, List.forall_mem_cons.mpr ⟨mx_X7_who_60, List.forall_mem_cons.mpr ⟨mx_X7_who_61, List.forall_mem_cons.mpr ⟨mx_X7_who_62, List.forall_mem_cons.mpr ⟨mx_X7_who_63, List.forall_mem_cons.mpr ⟨mx_X7_who_64, List.forall_mem_cons.mpr ⟨mx_X7_who_8, List.forall_mem_cons.mpr ⟨mx_X7_who_65, List.forall_mem_cons.mpr ⟨mx_X7_who_66, List.forall_mem_cons.mpr ⟨mx_X7_who_67, List.forall_mem_cons.mpr ⟨mx_X7_who_68, List.forall_mem_cons.mpr ⟨mx_X7_who_69, List.forall_mem_cons.mpr ⟨mx_X7_who_70, List.forall_mem_cons.mpr ⟨mx_X7_who_71, List.forall_mem_cons.mpr ⟨mx_X7_who_72, fun _ h_ => absurd h_ List.not_mem_nil⟩⟩⟩⟩⟩⟩⟩⟩⟩⟩⟩⟩⟩⟩⟩⟩⟩⟩⟩⟩⟩⟩⟩⟩), List.forall_mem_append.mpr ⟨(by unfold wsX7_kindsThatFit_r2; exact List.forall_mem_cons.mpr ⟨mx_X7_who_27, List.forall_mem_cons.mpr ⟨mx_X7_who_73, List.forall_mem_cons.mpr ⟨mx_X7_who_74, List.forall_mem_cons.mpr ⟨mx_X7_who_75, List.forall_mem_cons.mpr ⟨mx_X7_who_11, List.forall_mem_cons.mpr ⟨mx_X7_who_76, List.forall_mem_cons.mpr ⟨mx_X7_who_77, List.forall_mem_cons.mpr ⟨mx_X7_who_22, List.forall_mem_cons.mpr ⟨mx_X7_who_78, List.forall_mem_cons.mpr ⟨mx_X7_who_79, List.forall_mem_cons.mpr ⟨mx_X7_who_80, List.forall_mem_cons.mpr ⟨mx_X7_who_81, List.forall_mem_cons.mpr ⟨mx_X7_who_82, List.forall_mem_cons.mpr ⟨mx_X7_who_83, List.forall_mem_cons.mpr ⟨mx_X7_who_84, List.forall_mem_cons.mpr ⟨mx_X7_who_85, List.forall_mem_cons.mpr ⟨mx_X7_who_86, List.forall_mem_cons.mpr ⟨mx_X7_who_87, List.forall_mem_cons.mpr ⟨mx_X7_who_88, List.forall_mem_cons.mpr ⟨mx_X7_who_89, List.forall_mem_cons.mpr ⟨mx_X7_who_90, List.forall_mem_cons.mpr ⟨mx_X7_who_91, List.forall_mem_cons.mpr ⟨mx_X7_who_92, List.forall_mem_cons.mpr ⟨mx_X7_who_93, fun _ h_ => absurd h_ List.not_mem_nil⟩⟩⟩⟩⟩⟩⟩⟩⟩⟩⟩⟩⟩⟩⟩⟩⟩⟩⟩⟩⟩⟩⟩⟩), List.forall_mem_append.mpr ⟨(by unfold wsX7_kindsThatFit_r3; exact List.forall_mem_cons.mpr ⟨mx_X7_who_94, List.forall_mem_cons.mpr ⟨mx_X7_who_24, List.forall_mem_cons.mpr ⟨mx_X7_who_25, List.forall_mem_cons.mpr ⟨mx_X7_who_26, List.forall_mem_cons.mpr ⟨mx_X7_who_95, List.forall_mem_cons.mpr ⟨mx_X7_who_96, List.forall_mem_cons.mpr ⟨mx_X7_who_97, List.forall_mem_cons.mpr ⟨mx_X7_who_98, List.forall_mem_cons.mpr ⟨mx_X7_who_99, List.forall_mem_cons.mpr ⟨mx_X7_who_100, List.forall_mem_cons.mpr ⟨mx_X7_who_101, List.forall_mem_cons.mpr ⟨mx_X7_who_102, List.forall_mem_cons.mpr ⟨mx_X7_who_103, List.forall_mem_cons.mpr ⟨mx_X7_who_104, List.forall_mem_cons.mpr ⟨mx_X7_who_105, List.forall_mem_cons.mpr ⟨mx_X7_who_106, List.forall_mem_cons.mpr ⟨mx_X7_who_107, List.forall_mem_cons.mpr ⟨mx_X7_who_108, List.forall_mem_cons.mpr ⟨mx_X7_who_109, List.forall_mem_cons.mpr ⟨mx_X7_who_110, List.forall_mem_cons.mpr ⟨mx_X7_who_111, List.forall_mem_cons.mpr ⟨mx_X7_who_112, List.forall_mem_cons.mpr ⟨mx_X7_who_113, List.forall_mem_cons.mpr ⟨mx_X7_who_114, fun _ h_ => absurd h_ List.not_mem_nil⟩⟩⟩⟩⟩⟩⟩⟩⟩⟩⟩⟩⟩⟩⟩⟩⟩⟩⟩⟩⟩⟩⟩⟩), (by unfold wsX7_kindsThatFit_r4; exact List.forall_mem_cons.mpr ⟨mx_X7_who_23, List.forall_mem_cons.mpr ⟨mx_X7_who_115, List.forall_mem_cons.mpr ⟨mx_X7_who_116, List.forall_mem_cons.mpr ⟨mx_X7_who_117, List.forall_mem_cons.mpr ⟨mx_X7_who_15, List.forall_mem_cons.mpr ⟨mx_X7_who_118, List.forall_mem_cons.mpr ⟨mx_X7_who_119, fun _ h_ => absurd h_ List.not_mem_nil⟩⟩⟩⟩⟩⟩⟩)⟩⟩⟩, (fun _ h_ => mb_X7_who_wsX70 h_)⟩, (fun _ h_ => mb_X7_who_wsX30 h_)⟩, (fun _ h_ => mb_X7_who_wsX50 h_)⟩⟩) (by decide +kernel)
theorem mx_X7_who_48 : Cond.methodLink RX7 255 yX7_kindsThatFit ∈ wsX7_who := mb_X7_who_wsX7_who_r2 (List.mem_of_getElem? (i := 23) rfl)
theorem mx_X7_who_49 : Cond.instanceMethod yX7_kindsThatFit ∈ wsX7_who := mb_X7_who_wsX7_who_r3 (List.mem_of_getElem? (i := 0) rfl)
theorem mx_X7_who_50 : Cond.selects RX7 yX7_kindsThatFit yX7_kindsThatFit ∈ wsX7_who := mb_X7_who_wsX7_who_r3 (List.mem_of_getElem? (i := 1) rfl)
theorem gX7_who_X7_kindsThatFit : GoodIn wsX7_who (wsV RX7 255 RX7 yX7_kindsThatFit wsX7_kindsThatFit) := goodIn_app (goodIn_sub (List.forall_mem_cons.mpr ⟨mx_X7_who_48, List.forall_mem_cons.mpr ⟨mx_X7_who_49, List.forall_mem_cons.mpr ⟨mx_X7_who_50, List.forall_mem_cons.mpr ⟨mx_X7_who_11, fun _ h_ => absurd h_ List.not_mem_nil⟩⟩⟩⟩) (by decide +kernel)) ggX7_who_X7_kindsThatFit
theorem mx_X7_who_20 : Cond.code yX7_refusalToHear cX7_refusalToHear 6 (some .int) ∈ wsX7_who := mb_X7_who_wsX7_who_r1 (List.mem_of_getElem? (i := 19) rfl)
theorem mx_X7_who_21 : Cond.constant RX7 141 (-1000002) ∈ wsX7_who := mb_X7_who_wsX7_who_r1 (List.mem_of_getElem? (i := 20) rfl)
theorem mx_X7_who_28 : Cond.methodLink RX7 84 yX5_findingOf ∈ wsX7_who := mb_X7_who_wsX7_who_r2 (List.mem_of_getElem? (i := 3) rfl)
theorem mx_X7_who_29 : Cond.instanceMethod yX5_findingOf ∈ wsX7_who := mb_X7_who_wsX7_who_r2 (List.mem_of_getElem? (i := 4) rfl)
theorem mx_X7_who_30 : Cond.selects RX5 yX5_findingOf yX5_findingOf ∈ wsX7_who := mb_X7_who_wsX7_who_r2 (List.mem_of_getElem? (i := 5) rfl)
theorem mx_X7_who_31 : Cond.code yX5_findingOf cX5_findingOf 4 (some .int) ∈ wsX7_who := mb_X7_who_wsX7_who_r2 (List.mem_of_getElem? (i := 6) rfl)
theorem mx_X7_who_32 : Cond.methodLink RX5 29 yX5_isMissing ∈ wsX7_who := mb_X7_who_wsX7_who_r2 (List.mem_of_getElem? (i := 7) rfl)
theorem mx_X7_who_33 : Cond.instanceMethod yX5_isMissing ∈ wsX7_who := mb_X7_who_wsX7_who_r2 (List.mem_of_getElem? (i := 8) rfl)
theorem mx_X7_who_34 : Cond.selects RX5 yX5_isMissing yX5_isMissing ∈ wsX7_who := mb_X7_who_wsX7_who_r2 (List.mem_of_getElem? (i := 9) rfl)
theorem mx_X7_who_35 : Cond.code yX5_isMissing cX5_isMissing 2 (some .boolean) ∈ wsX7_who := mb_X7_who_wsX7_who_r2 (List.mem_of_getElem? (i := 10) rfl)
theorem mx_X7_who_36 : Cond.fieldLink RX5 16 "MillTalk$Rows" "lanes" "[I" ∈ wsX7_who := mb_X7_who_wsX7_who_r2 (List.mem_of_getElem? (i := 11) rfl)
theorem mx_X7_who_37 : Cond.methodLink RX5 33 yX5_hasPlaces ∈ wsX7_who := mb_X7_who_wsX7_who_r2 (List.mem_of_getElem? (i := 12) rfl)
theorem mx_X7_who_38 : Cond.instanceMethod yX5_hasPlaces ∈ wsX7_who := mb_X7_who_wsX7_who_r2 (List.mem_of_getElem? (i := 13) rfl)
theorem mx_X7_who_39 : Cond.selects RX5 yX5_hasPlaces yX5_hasPlaces ∈ wsX7_who := mb_X7_who_wsX7_who_r2 (List.mem_of_getElem? (i := 14) rfl)
theorem mx_X7_who_40 : Cond.code yX5_hasPlaces cX5_hasPlaces 4 (some .boolean) ∈ wsX7_who := mb_X7_who_wsX7_who_r2 (List.mem_of_getElem? (i := 15) rfl)
theorem mx_X7_who_41 : Cond.fieldLink RX5 20 "MillTalk$Rows" "lengths" "[I" ∈ wsX7_who := mb_X7_who_wsX7_who_r2 (List.mem_of_getElem? (i := 16) rfl)
theorem mx_X7_who_42 : Cond.methodLink RX7 73 yX7_found ∈ wsX7_who := mb_X7_who_wsX7_who_r2 (List.mem_of_getElem? (i := 17) rfl)
theorem mx_X7_who_43 : Cond.instanceMethod yX7_found ∈ wsX7_who := mb_X7_who_wsX7_who_r2 (List.mem_of_getElem? (i := 18) rfl)
theorem mx_X7_who_44 : Cond.selects RX7 yX7_found yX7_found ∈ wsX7_who := mb_X7_who_wsX7_who_r2 (List.mem_of_getElem? (i := 19) rfl)
theorem mx_X7_who_45 : Cond.code yX7_found cX7_found 2 (some .int) ∈ wsX7_who := mb_X7_who_wsX7_who_r2 (List.mem_of_getElem? (i := 20) rfl)
theorem mx_X7_who_47 : Cond.constant RX7 326 (-1000010) ∈ wsX7_who := mb_X7_who_wsX7_who_r2 (List.mem_of_getElem? (i := 22) rfl)
theorem ggX7_who_X7_refusalToHear : GoodIn wsX7_who wsX7_refusalToHear := goodIn_sub (by unfold wsX7_refusalToHear; exact List.forall_mem_cons.mpr ⟨mx_X7_who_20, List.forall_mem_append.mpr ⟨List.forall_mem_append.mpr ⟨List.forall_mem_append.mpr ⟨List.forall_mem_append.mpr ⟨(by unfold wsX7_refusalToHear_r1; exact List.forall_mem_cons.mpr ⟨mx_X7_who_1, List.forall_mem_cons.mpr ⟨mx_X7_who_21, List.forall_mem_cons.mpr ⟨mx_X7_who_22, List.forall_mem_cons.mpr ⟨mx_X7_who_23, List.forall_mem_cons.mpr ⟨mx_X7_who_24, List.forall_mem_cons.mpr ⟨mx_X7_who_25, List.forall_mem_cons.mpr ⟨mx_X7_who_6, List.forall_mem_cons.mpr ⟨mx_X7_who_26, List.forall_mem_cons.mpr ⟨mx_X7_who_27, List.forall_mem_cons.mpr ⟨mx_X7_who_28, List.forall_mem_cons.mpr ⟨mx_X7_who_29, List.forall_mem_cons.mpr ⟨mx_X7_who_30, List.forall_mem_cons.mpr ⟨mx_X7_who_15, List.forall_mem_cons.mpr ⟨mx_X7_who_31, List.forall_mem_cons.mpr ⟨mx_X7_who_32, List.forall_mem_cons.mpr ⟨mx_X7_who_33, List.forall_mem_cons.mpr ⟨mx_X7_who_34, List.forall_mem_cons.mpr ⟨mx_X7_who_35, List.forall_mem_cons.mpr ⟨mx_X7_who_36, List.forall_mem_cons.mpr ⟨mx_X7_who_37, List.forall_mem_cons.mpr ⟨mx_X7_who_38, List.forall_mem_cons.mpr ⟨mx_X7_who_39, List.forall_mem_cons.mpr ⟨mx_X7_who_40, List.forall_mem_cons.mpr ⟨mx_X7_who_41, fun _ h_ => absurd h_ List.not_mem_nil⟩⟩⟩⟩⟩⟩⟩⟩⟩⟩⟩⟩⟩⟩⟩⟩⟩⟩⟩⟩⟩⟩⟩⟩), (by unfold wsX7_refusalToHear_r2; exact List.forall_mem_cons.mpr ⟨mx_X7_who_42, List.forall_mem_cons.mpr ⟨mx_X7_who_43, List.forall_mem_cons.mpr ⟨mx_X7_who_44, List.forall_mem_cons.mpr ⟨mx_X7_who_11, List.forall_mem_cons.mpr ⟨mx_X7_who_45, List.forall_mem_cons.mpr ⟨mx_X7_who_46, List.forall_mem_cons.mpr ⟨mx_X7_who_47, fun _ h_ => absurd h_ List.not_mem_nil⟩⟩⟩⟩⟩⟩⟩)⟩, (fun _ h_ => mb_X7_who_wsX70 h_)⟩, (fun _ h_ => mb_X7_who_wsX30 h_)⟩, (fun _ h_ => mb_X7_who_wsX50 h_)⟩⟩) (by decide +kernel)
theorem mx_X7_who_17 : Cond.methodLink RX7 251 yX7_refusalToHear ∈ wsX7_who := mb_X7_who_wsX7_who_r1 (List.mem_of_getElem? (i := 16) rfl)
theorem mx_X7_who_18 : Cond.instanceMethod yX7_refusalToHear ∈ wsX7_who := mb_X7_who_wsX7_who_r1 (List.mem_of_getElem? (i := 17) rfl)
theorem mx_X7_who_19 : Cond.selects RX7 yX7_refusalToHear yX7_refusalToHear ∈ wsX7_who := mb_X7_who_wsX7_who_r1 (List.mem_of_getElem? (i := 18) rfl)
theorem gX7_who_X7_refusalToHear : GoodIn wsX7_who (wsV RX7 251 RX7 yX7_refusalToHear wsX7_refusalToHear) := goodIn_app (goodIn_sub (List.forall_mem_cons.mpr ⟨mx_X7_who_17, List.forall_mem_cons.mpr ⟨mx_X7_who_18, List.forall_mem_cons.mpr ⟨mx_X7_who_19, List.forall_mem_cons.mpr ⟨mx_X7_who_11, fun _ h_ => absurd h_ List.not_mem_nil⟩⟩⟩⟩) (by decide +kernel)) ggX7_who_X7_refusalToHear
theorem mx_X7_who_123 : Cond.code yX7_startsThatFit cX7_startsThatFit 7 (some .int) ∈ wsX7_who := mb_X7_who_wsX7_who_r6 (List.mem_of_getElem? (i := 2) rfl)
theorem mx_X7_who_124 : Cond.fieldLink RX7 198 "MillTalk$Level" "cells" "I" ∈ wsX7_who := mb_X7_who_wsX7_who_r6 (List.mem_of_getElem? (i := 3) rfl)
theorem ggX7_who_X7_startsThatFit : GoodIn wsX7_who wsX7_startsThatFit := goodIn_sub (by unfold wsX7_startsThatFit; exact List.forall_mem_cons.mpr ⟨mx_X7_who_123, List.forall_mem_append.mpr ⟨List.forall_mem_append.mpr ⟨List.forall_mem_append.mpr ⟨List.forall_mem_append.mpr ⟨(by unfold wsX7_startsThatFit_r1; exact List.forall_mem_cons.mpr ⟨mx_X7_who_1, List.forall_mem_cons.mpr ⟨mx_X7_who_124, List.forall_mem_cons.mpr ⟨mx_X7_who_52, List.forall_mem_cons.mpr ⟨mx_X7_who_77, List.forall_mem_cons.mpr ⟨mx_X7_who_54, List.forall_mem_cons.mpr ⟨mx_X7_who_55, List.forall_mem_cons.mpr ⟨mx_X7_who_56, List.forall_mem_cons.mpr ⟨mx_X7_who_6, List.forall_mem_cons.mpr ⟨mx_X7_who_57, List.forall_mem_cons.mpr ⟨mx_X7_who_58, List.forall_mem_cons.mpr ⟨mx_X7_who_59, List.forall_mem_cons.mpr ⟨mx_X7_who_60, List.forall_mem_cons.mpr ⟨mx_X7_who_61, List.forall_mem_cons.mpr ⟨mx_X7_who_62, List.forall_mem_cons.mpr ⟨mx_X7_who_63, List.forall_mem_cons.mpr ⟨mx_X7_who_64, List.forall_mem_cons.mpr ⟨mx_X7_who_8, List.forall_mem_cons.mpr ⟨mx_X7_who_65, List.forall_mem_cons.mpr ⟨mx_X7_who_66, List.forall_mem_cons.mpr ⟨mx_X7_who_67, List.forall_mem_cons.mpr ⟨mx_X7_who_68, List.forall_mem_cons.mpr ⟨mx_X7_who_69, List.forall_mem_cons.mpr ⟨mx_X7_who_70, List.forall_mem_cons.mpr ⟨mx_X7_who_71, fun _ h_ => absurd h_ List.not_mem_nil⟩⟩⟩⟩⟩⟩⟩⟩⟩⟩⟩⟩⟩⟩⟩⟩⟩⟩⟩⟩⟩⟩⟩⟩), List.forall_mem_append.mpr ⟨(by unfold wsX7_startsThatFit_r2; exact List.forall_mem_cons.mpr ⟨mx_X7_who_72, List.forall_mem_cons.mpr ⟨mx_X7_who_27, List.forall_mem_cons.mpr ⟨mx_X7_who_73, List.forall_mem_cons.mpr ⟨mx_X7_who_74, List.forall_mem_cons.mpr ⟨mx_X7_who_75, List.forall_mem_cons.mpr ⟨mx_X7_who_11, List.forall_mem_cons.mpr ⟨mx_X7_who_76, List.forall_mem_cons.mpr ⟨mx_X7_who_22, List.forall_mem_cons.mpr ⟨mx_X7_who_78, List.forall_mem_cons.mpr ⟨mx_X7_who_79, List.forall_mem_cons.mpr ⟨mx_X7_who_80, List.forall_mem_cons.mpr ⟨mx_X7_who_81, List.forall_mem_cons.mpr ⟨mx_X7_who_82, List.forall_mem_cons.mpr ⟨mx_X7_who_83, List.forall_mem_cons.mpr ⟨mx_X7_who_84, List.forall_mem_cons.mpr ⟨mx_X7_who_85, List.forall_mem_cons.mpr ⟨mx_X7_who_86, List.forall_mem_cons.mpr ⟨mx_X7_who_87, List.forall_mem_cons.mpr ⟨mx_X7_who_88, List.forall_mem_cons.mpr ⟨mx_X7_who_89, List.forall_mem_cons.mpr ⟨mx_X7_who_90, List.forall_mem_cons.mpr ⟨mx_X7_who_91, List.forall_mem_cons.mpr ⟨mx_X7_who_92, List.forall_mem_cons.mpr ⟨mx_X7_who_93, fun _ h_ => absurd h_ List.not_mem_nil⟩⟩⟩⟩⟩⟩⟩⟩⟩⟩⟩⟩⟩⟩⟩⟩⟩⟩⟩⟩⟩⟩⟩⟩), List.forall_mem_append.mpr ⟨(by unfold wsX7_startsThatFit_r3; exact List.forall_mem_cons.mpr ⟨mx_X7_who_94, List.forall_mem_cons.mpr ⟨mx_X7_who_24, List.forall_mem_cons.mpr ⟨mx_X7_who_25, List.forall_mem_cons.mpr ⟨mx_X7_who_26, List.forall_mem_cons.mpr ⟨mx_X7_who_95, List.forall_mem_cons.mpr ⟨mx_X7_who_96, List.forall_mem_cons.mpr ⟨mx_X7_who_97, List.forall_mem_cons.mpr ⟨mx_X7_who_98, List.forall_mem_cons.mpr ⟨mx_X7_who_99, List.forall_mem_cons.mpr ⟨mx_X7_who_100, List.forall_mem_cons.mpr ⟨mx_X7_who_101, List.forall_mem_cons.mpr ⟨mx_X7_who_102, List.forall_mem_cons.mpr ⟨mx_X7_who_103, List.forall_mem_cons.mpr ⟨mx_X7_who_104, List.forall_mem_cons.mpr ⟨mx_X7_who_105, List.forall_mem_cons.mpr ⟨mx_X7_who_106, List.forall_mem_cons.mpr ⟨mx_X7_who_107, List.forall_mem_cons.mpr ⟨mx_X7_who_108, List.forall_mem_cons.mpr ⟨mx_X7_who_109, List.forall_mem_cons.mpr ⟨mx_X7_who_110, List.forall_mem_cons.mpr ⟨mx_X7_who_111, List.forall_mem_cons.mpr ⟨mx_X7_who_112, List.forall_mem_cons.mpr ⟨mx_X7_who_113, List.forall_mem_cons.mpr ⟨mx_X7_who_114, fun _ h_ => absurd h_ List.not_mem_nil⟩⟩⟩⟩⟩⟩⟩⟩⟩⟩⟩⟩⟩⟩⟩⟩⟩⟩⟩⟩⟩⟩⟩⟩), (by unfold wsX7_startsThatFit_r4; exact List.forall_mem_cons.mpr ⟨mx_X7_who_23, List.forall_mem_cons.mpr ⟨mx_X7_who_115, List.forall_mem_cons.mpr ⟨mx_X7_who_116, List.forall_mem_cons.mpr ⟨mx_X7_who_117, List.forall_mem_cons.mpr ⟨mx_X7_who_15, List.forall_mem_cons.mpr ⟨mx_X7_who_118, List.forall_mem_cons.mpr ⟨mx_X7_who_119, fun _ h_ => absurd h_ List.not_mem_nil⟩⟩⟩⟩⟩⟩⟩)⟩⟩⟩, (fun _ h_ => mb_X7_who_wsX70 h_)⟩, (fun _ h_ => mb_X7_who_wsX30 h_)⟩, (fun _ h_ => mb_X7_who_wsX50 h_)⟩⟩) (by decide +kernel)
theorem mx_X7_who_120 : Cond.methodLink RX7 258 yX7_startsThatFit ∈ wsX7_who := mb_X7_who_wsX7_who_r5 (List.mem_of_getElem? (i := 23) rfl)
theorem mx_X7_who_121 : Cond.instanceMethod yX7_startsThatFit ∈ wsX7_who := mb_X7_who_wsX7_who_r6 (List.mem_of_getElem? (i := 0) rfl)
theorem mx_X7_who_122 : Cond.selects RX7 yX7_startsThatFit yX7_startsThatFit ∈ wsX7_who := mb_X7_who_wsX7_who_r6 (List.mem_of_getElem? (i := 1) rfl)
theorem gX7_who_X7_startsThatFit : GoodIn wsX7_who (wsV RX7 258 RX7 yX7_startsThatFit wsX7_startsThatFit) := goodIn_app (goodIn_sub (List.forall_mem_cons.mpr ⟨mx_X7_who_120, List.forall_mem_cons.mpr ⟨mx_X7_who_121, List.forall_mem_cons.mpr ⟨mx_X7_who_122, List.forall_mem_cons.mpr ⟨mx_X7_who_11, fun _ h_ => absurd h_ List.not_mem_nil⟩⟩⟩⟩) (by decide +kernel)) ggX7_who_X7_startsThatFit
theorem mb_X7_windsThatFit_wsX7_windsThatFit_r1 {w : Cond} (h : w ∈ wsX7_windsThatFit_r1) : w ∈ wsX7_windsThatFit := by unfold wsX7_windsThatFit; exact List.mem_cons_of_mem _ (List.mem_append_left _ (List.mem_append_left _ (List.mem_append_left _ (List.mem_append_left _ (h)))))
theorem mx_X7_windsThatFit_8 : Cond.code yX3_becomeLike cX3_becomeLike 2 none ∈ wsX7_windsThatFit := mb_X7_windsThatFit_wsX7_windsThatFit_r1 (List.mem_of_getElem? (i := 7) rfl)
theorem mx_X7_windsThatFit_9 : Cond.fieldLink RX3 27 "MillTalk$Level" "cells" "I" ∈ wsX7_windsThatFit := mb_X7_windsThatFit_wsX7_windsThatFit_r1 (List.mem_of_getElem? (i := 8) rfl)
theorem mx_X7_windsThatFit_10 : Cond.fieldLink RX3 31 "MillTalk$Level" "mill" "I" ∈ wsX7_windsThatFit := mb_X7_windsThatFit_wsX7_windsThatFit_r1 (List.mem_of_getElem? (i := 9) rfl)
theorem mx_X7_windsThatFit_11 : Cond.fieldLink RX3 34 "MillTalk$Level" "reach" "I" ∈ wsX7_windsThatFit := mb_X7_windsThatFit_wsX7_windsThatFit_r1 (List.mem_of_getElem? (i := 10) rfl)
theorem mx_X7_windsThatFit_12 : Cond.fieldLink RX3 37 "MillTalk$Level" "cap" "I" ∈ wsX7_windsThatFit := mb_X7_windsThatFit_wsX7_windsThatFit_r1 (List.mem_of_getElem? (i := 11) rfl)
theorem mx_X7_windsThatFit_13 : Cond.fieldLink RX3 40 "MillTalk$Level" "hour" "I" ∈ wsX7_windsThatFit := mb_X7_windsThatFit_wsX7_windsThatFit_r1 (List.mem_of_getElem? (i := 12) rfl)
theorem mx_X7_windsThatFit_14 : Cond.fieldLink RX3 43 "MillTalk$Level" "meal" "I" ∈ wsX7_windsThatFit := mb_X7_windsThatFit_wsX7_windsThatFit_r1 (List.mem_of_getElem? (i := 13) rfl)
theorem mx_X7_windsThatFit_15 : Cond.fieldLink RX3 46 "MillTalk$Level" "windCount" "I" ∈ wsX7_windsThatFit := mb_X7_windsThatFit_wsX7_windsThatFit_r1 (List.mem_of_getElem? (i := 14) rfl)
theorem mx_X7_windsThatFit_16 : Cond.fieldLink RX3 49 "MillTalk$Level" "soundCount" "I" ∈ wsX7_windsThatFit := mb_X7_windsThatFit_wsX7_windsThatFit_r1 (List.mem_of_getElem? (i := 15) rfl)
theorem mx_X7_windsThatFit_17 : Cond.fieldLink RX3 9 "MillTalk$Level" "winds" "[I" ∈ wsX7_windsThatFit := mb_X7_windsThatFit_wsX7_windsThatFit_r1 (List.mem_of_getElem? (i := 16) rfl)
theorem mx_X7_windsThatFit_18 : Cond.methodLink RX3 52 arraycopyName ∈ wsX7_windsThatFit := mb_X7_windsThatFit_wsX7_windsThatFit_r1 (List.mem_of_getElem? (i := 17) rfl)
theorem mx_X7_windsThatFit_19 : Cond.native arraycopyName ∈ wsX7_windsThatFit := mb_X7_windsThatFit_wsX7_windsThatFit_r1 (List.mem_of_getElem? (i := 18) rfl)
theorem mx_X7_windsThatFit_20 : Cond.static arraycopyName ∈ wsX7_windsThatFit := mb_X7_windsThatFit_wsX7_windsThatFit_r1 (List.mem_of_getElem? (i := 19) rfl)
theorem mx_X7_windsThatFit_21 : Cond.initialized "java/lang/System" ∈ wsX7_windsThatFit := mb_X7_windsThatFit_wsX7_windsThatFit_r1 (List.mem_of_getElem? (i := 20) rfl)
theorem mx_X7_windsThatFit_22 : Cond.fieldLink RX3 15 "MillTalk$Level" "kinds" "[I" ∈ wsX7_windsThatFit := mb_X7_windsThatFit_wsX7_windsThatFit_r1 (List.mem_of_getElem? (i := 21) rfl)
theorem mx_X7_windsThatFit_23 : Cond.fieldLink RX3 18 "MillTalk$Level" "places" "[I" ∈ wsX7_windsThatFit := mb_X7_windsThatFit_wsX7_windsThatFit_r1 (List.mem_of_getElem? (i := 22) rfl)
theorem mx_X7_windsThatFit_24 : Cond.fieldLink RX3 21 "MillTalk$Level" "louds" "[I" ∈ wsX7_windsThatFit := mb_X7_windsThatFit_wsX7_windsThatFit_r1 (List.mem_of_getElem? (i := 23) rfl)
theorem mb_X7_windsThatFit_wsX7_windsThatFit_r2 {w : Cond} (h : w ∈ wsX7_windsThatFit_r2) : w ∈ wsX7_windsThatFit := by unfold wsX7_windsThatFit; exact List.mem_cons_of_mem _ (List.mem_append_left _ (List.mem_append_left _ (List.mem_append_left _ (List.mem_append_right _ (List.mem_append_left _ (h))))))
theorem mx_X7_windsThatFit_25 : Cond.fieldLink RX3 24 "MillTalk$Level" "hows" "[I" ∈ wsX7_windsThatFit := mb_X7_windsThatFit_wsX7_windsThatFit_r2 (List.mem_of_getElem? (i := 0) rfl)
theorem mb_X7_windsThatFit_wsX30 {w : Cond} (h : w ∈ wsX30) : w ∈ wsX7_windsThatFit := by unfold wsX7_windsThatFit; exact List.mem_cons_of_mem _ (List.mem_append_left _ (List.mem_append_right _ (h)))
theorem ggX7_windsThatFit_X3_becomeLike : GoodIn wsX7_windsThatFit wsX3_becomeLike := goodIn_sub (by unfold wsX3_becomeLike; exact List.forall_mem_cons.mpr ⟨mx_X7_windsThatFit_8, List.forall_mem_append.mpr ⟨List.forall_mem_cons.mpr ⟨mx_X7_windsThatFit_9, List.forall_mem_cons.mpr ⟨mx_X7_windsThatFit_10, List.forall_mem_cons.mpr ⟨mx_X7_windsThatFit_11, List.forall_mem_cons.mpr ⟨mx_X7_windsThatFit_12, List.forall_mem_cons.mpr ⟨mx_X7_windsThatFit_13, List.forall_mem_cons.mpr ⟨mx_X7_windsThatFit_14, List.forall_mem_cons.mpr ⟨mx_X7_windsThatFit_15, List.forall_mem_cons.mpr ⟨mx_X7_windsThatFit_16, List.forall_mem_cons.mpr ⟨mx_X7_windsThatFit_17, List.forall_mem_cons.mpr ⟨mx_X7_windsThatFit_18, List.forall_mem_cons.mpr ⟨mx_X7_windsThatFit_19, List.forall_mem_cons.mpr ⟨mx_X7_windsThatFit_20, List.forall_mem_cons.mpr ⟨mx_X7_windsThatFit_21, List.forall_mem_cons.mpr ⟨mx_X7_windsThatFit_22, List.forall_mem_cons.mpr ⟨mx_X7_windsThatFit_23, List.forall_mem_cons.mpr ⟨mx_X7_windsThatFit_24, List.forall_mem_cons.mpr ⟨mx_X7_windsThatFit_25, fun _ h_ => absurd h_ List.not_mem_nil⟩⟩⟩⟩⟩⟩⟩⟩⟩⟩⟩⟩⟩⟩⟩⟩⟩, (fun _ h_ => mb_X7_windsThatFit_wsX30 h_)⟩⟩) (by decide +kernel)
theorem mx_X7_windsThatFit_4 : Cond.methodLink RX7 128 yX3_becomeLike ∈ wsX7_windsThatFit := mb_X7_windsThatFit_wsX7_windsThatFit_r1 (List.mem_of_getElem? (i := 3) rfl)
theorem mx_X7_windsThatFit_5 : Cond.instanceMethod yX3_becomeLike ∈ wsX7_windsThatFit := mb_X7_windsThatFit_wsX7_windsThatFit_r1 (List.mem_of_getElem? (i := 4) rfl)
theorem mx_X7_windsThatFit_6 : Cond.selects RX3 yX3_becomeLike yX3_becomeLike ∈ wsX7_windsThatFit := mb_X7_windsThatFit_wsX7_windsThatFit_r1 (List.mem_of_getElem? (i := 5) rfl)
theorem mx_X7_windsThatFit_7 : Cond.initialized RX3 ∈ wsX7_windsThatFit := mb_X7_windsThatFit_wsX7_windsThatFit_r1 (List.mem_of_getElem? (i := 6) rfl)
theorem gX7_windsThatFit_X3_becomeLike : GoodIn wsX7_windsThatFit (wsV RX7 128 RX3 yX3_becomeLike wsX3_becomeLike) := goodIn_app (goodIn_sub (List.forall_mem_cons.mpr ⟨mx_X7_windsThatFit_4, List.forall_mem_cons.mpr ⟨mx_X7_windsThatFit_5, List.forall_mem_cons.mpr ⟨mx_X7_windsThatFit_6, List.forall_mem_cons.mpr ⟨mx_X7_windsThatFit_7, fun _ h_ => absurd h_ List.not_mem_nil⟩⟩⟩⟩) (by decide +kernel)) ggX7_windsThatFit_X3_becomeLike
theorem mx_X7_windsThatFit_30 : Cond.code yX7_trialFits cX7_trialFits 7 (some .boolean) ∈ wsX7_windsThatFit := mb_X7_windsThatFit_wsX7_windsThatFit_r2 (List.mem_of_getElem? (i := 5) rfl)
theorem mx_X7_windsThatFit_1 : Cond.fieldLink RX7 41 "MillTalk" "trial" "LMillTalk$Level;" ∈ wsX7_windsThatFit := mb_X7_windsThatFit_wsX7_windsThatFit_r1 (List.mem_of_getElem? (i := 0) rfl)
theorem mx_X7_windsThatFit_31 : Cond.fieldLink RX7 334 "MillTalk$Level" "places" "[I" ∈ wsX7_windsThatFit := mb_X7_windsThatFit_wsX7_windsThatFit_r2 (List.mem_of_getElem? (i := 6) rfl)
theorem mx_X7_windsThatFit_32 : Cond.fieldLink RX7 10 "MillTalk" "rows" "LMillTalk$Rows;" ∈ wsX7_windsThatFit := mb_X7_windsThatFit_wsX7_windsThatFit_r2 (List.mem_of_getElem? (i := 7) rfl)
theorem mx_X7_windsThatFit_33 : Cond.methodLink RX7 210 yX3_passOnly ∈ wsX7_windsThatFit := mb_X7_windsThatFit_wsX7_windsThatFit_r2 (List.mem_of_getElem? (i := 8) rfl)
theorem mx_X7_windsThatFit_34 : Cond.instanceMethod yX3_passOnly ∈ wsX7_windsThatFit := mb_X7_windsThatFit_wsX7_windsThatFit_r2 (List.mem_of_getElem? (i := 9) rfl)
theorem mx_X7_windsThatFit_35 : Cond.selects RX3 yX3_passOnly yX3_passOnly ∈ wsX7_windsThatFit := mb_X7_windsThatFit_wsX7_windsThatFit_r2 (List.mem_of_getElem? (i := 10) rfl)
theorem mx_X7_windsThatFit_36 : Cond.code yX3_passOnly cX3_passOnly 4 none ∈ wsX7_windsThatFit := mb_X7_windsThatFit_wsX7_windsThatFit_r2 (List.mem_of_getElem? (i := 11) rfl)
theorem mx_X7_windsThatFit_37 : Cond.methodLink RX3 87 yX3_windOn ∈ wsX7_windsThatFit := mb_X7_windsThatFit_wsX7_windsThatFit_r2 (List.mem_of_getElem? (i := 12) rfl)
theorem mx_X7_windsThatFit_38 : Cond.instanceMethod yX3_windOn ∈ wsX7_windsThatFit := mb_X7_windsThatFit_wsX7_windsThatFit_r2 (List.mem_of_getElem? (i := 13) rfl)
theorem mx_X7_windsThatFit_39 : Cond.selects RX3 yX3_windOn yX3_windOn ∈ wsX7_windsThatFit := mb_X7_windsThatFit_wsX7_windsThatFit_r2 (List.mem_of_getElem? (i := 14) rfl)
theorem mx_X7_windsThatFit_40 : Cond.code yX3_windOn cX3_windOn 2 (some .int) ∈ wsX7_windsThatFit := mb_X7_windsThatFit_wsX7_windsThatFit_r2 (List.mem_of_getElem? (i := 15) rfl)
theorem mx_X7_windsThatFit_41 : Cond.methodLink RX3 90 yX3_passSound ∈ wsX7_windsThatFit := mb_X7_windsThatFit_wsX7_windsThatFit_r2 (List.mem_of_getElem? (i := 16) rfl)
theorem mx_X7_windsThatFit_42 : Cond.instanceMethod yX3_passSound ∈ wsX7_windsThatFit := mb_X7_windsThatFit_wsX7_windsThatFit_r2 (List.mem_of_getElem? (i := 17) rfl)
theorem mx_X7_windsThatFit_43 : Cond.selects RX3 yX3_passSound yX3_passSound ∈ wsX7_windsThatFit := mb_X7_windsThatFit_wsX7_windsThatFit_r2 (List.mem_of_getElem? (i := 18) rfl)
theorem mx_X7_windsThatFit_44 : Cond.code yX3_passSound cX3_passSound 5 none ∈ wsX7_windsThatFit := mb_X7_windsThatFit_wsX7_windsThatFit_r2 (List.mem_of_getElem? (i := 19) rfl)
theorem mx_X7_windsThatFit_45 : Cond.methodLink RX3 63 Lib.Math.min.name ∈ wsX7_windsThatFit := mb_X7_windsThatFit_wsX7_windsThatFit_r2 (List.mem_of_getElem? (i := 20) rfl)
theorem mx_X7_windsThatFit_46 : Cond.static Lib.Math.min.name ∈ wsX7_windsThatFit := mb_X7_windsThatFit_wsX7_windsThatFit_r2 (List.mem_of_getElem? (i := 21) rfl)
theorem mx_X7_windsThatFit_47 : Cond.initialized "java/lang/Math" ∈ wsX7_windsThatFit := mb_X7_windsThatFit_wsX7_windsThatFit_r2 (List.mem_of_getElem? (i := 22) rfl)
theorem mx_X7_windsThatFit_48 : Cond.code Lib.Math.min.name Lib.Math.min.code 2 (some .int) ∈ wsX7_windsThatFit := mb_X7_windsThatFit_wsX7_windsThatFit_r2 (List.mem_of_getElem? (i := 23) rfl)
theorem mb_X7_windsThatFit_wsX7_windsThatFit_r3 {w : Cond} (h : w ∈ wsX7_windsThatFit_r3) : w ∈ wsX7_windsThatFit := by unfold wsX7_windsThatFit; exact List.mem_cons_of_mem _ (List.mem_append_left _ (List.mem_append_left _ (List.mem_append_left _ (List.mem_append_right _ (List.mem_append_right _ (List.mem_append_left _ (h)))))))
theorem mx_X7_windsThatFit_49 : Cond.methodLink RX3 58 yX3_isLoose ∈ wsX7_windsThatFit := mb_X7_windsThatFit_wsX7_windsThatFit_r3 (List.mem_of_getElem? (i := 0) rfl)
theorem mx_X7_windsThatFit_50 : Cond.instanceMethod yX3_isLoose ∈ wsX7_windsThatFit := mb_X7_windsThatFit_wsX7_windsThatFit_r3 (List.mem_of_getElem? (i := 1) rfl)
theorem mx_X7_windsThatFit_51 : Cond.selects RX3 yX3_isLoose yX3_isLoose ∈ wsX7_windsThatFit := mb_X7_windsThatFit_wsX7_windsThatFit_r3 (List.mem_of_getElem? (i := 2) rfl)
theorem mx_X7_windsThatFit_52 : Cond.code yX3_isLoose cX3_isLoose 2 (some .boolean) ∈ wsX7_windsThatFit := mb_X7_windsThatFit_wsX7_windsThatFit_r3 (List.mem_of_getElem? (i := 3) rfl)
theorem mx_X7_windsThatFit_53 : Cond.methodLink RX3 69 yX3_driftOf ∈ wsX7_windsThatFit := mb_X7_windsThatFit_wsX7_windsThatFit_r3 (List.mem_of_getElem? (i := 4) rfl)
theorem mx_X7_windsThatFit_54 : Cond.instanceMethod yX3_driftOf ∈ wsX7_windsThatFit := mb_X7_windsThatFit_wsX7_windsThatFit_r3 (List.mem_of_getElem? (i := 5) rfl)
theorem mx_X7_windsThatFit_55 : Cond.selects RX3 yX3_driftOf yX3_driftOf ∈ wsX7_windsThatFit := mb_X7_windsThatFit_wsX7_windsThatFit_r3 (List.mem_of_getElem? (i := 6) rfl)
theorem mx_X7_windsThatFit_56 : Cond.code yX3_driftOf cX3_driftOf 4 (some .int) ∈ wsX7_windsThatFit := mb_X7_windsThatFit_wsX7_windsThatFit_r3 (List.mem_of_getElem? (i := 7) rfl)
theorem mx_X7_windsThatFit_57 : Cond.methodLink RX3 72 yX3_loudBehindHour ∈ wsX7_windsThatFit := mb_X7_windsThatFit_wsX7_windsThatFit_r3 (List.mem_of_getElem? (i := 8) rfl)
theorem mx_X7_windsThatFit_58 : Cond.instanceMethod yX3_loudBehindHour ∈ wsX7_windsThatFit := mb_X7_windsThatFit_wsX7_windsThatFit_r3 (List.mem_of_getElem? (i := 9) rfl)
theorem mx_X7_windsThatFit_59 : Cond.selects RX3 yX3_loudBehindHour yX3_loudBehindHour ∈ wsX7_windsThatFit := mb_X7_windsThatFit_wsX7_windsThatFit_r3 (List.mem_of_getElem? (i := 10) rfl)
theorem mx_X7_windsThatFit_60 : Cond.code yX3_loudBehindHour cX3_loudBehindHour 2 (some .int) ∈ wsX7_windsThatFit := mb_X7_windsThatFit_wsX7_windsThatFit_r3 (List.mem_of_getElem? (i := 11) rfl)
theorem mx_X7_windsThatFit_61 : Cond.methodLink RX3 76 yX3_hasCell ∈ wsX7_windsThatFit := mb_X7_windsThatFit_wsX7_windsThatFit_r3 (List.mem_of_getElem? (i := 12) rfl)
theorem mx_X7_windsThatFit_62 : Cond.instanceMethod yX3_hasCell ∈ wsX7_windsThatFit := mb_X7_windsThatFit_wsX7_windsThatFit_r3 (List.mem_of_getElem? (i := 13) rfl)
theorem mx_X7_windsThatFit_63 : Cond.selects RX3 yX3_hasCell yX3_hasCell ∈ wsX7_windsThatFit := mb_X7_windsThatFit_wsX7_windsThatFit_r3 (List.mem_of_getElem? (i := 14) rfl)
theorem mx_X7_windsThatFit_64 : Cond.code yX3_hasCell cX3_hasCell 2 (some .boolean) ∈ wsX7_windsThatFit := mb_X7_windsThatFit_wsX7_windsThatFit_r3 (List.mem_of_getElem? (i := 15) rfl)
theorem mx_X7_windsThatFit_65 : Cond.methodLink RX3 79 yX3_letLoose ∈ wsX7_windsThatFit := mb_X7_windsThatFit_wsX7_windsThatFit_r3 (List.mem_of_getElem? (i := 16) rfl)
theorem mx_X7_windsThatFit_66 : Cond.instanceMethod yX3_letLoose ∈ wsX7_windsThatFit := mb_X7_windsThatFit_wsX7_windsThatFit_r3 (List.mem_of_getElem? (i := 17) rfl)
theorem mx_X7_windsThatFit_67 : Cond.selects RX3 yX3_letLoose yX3_letLoose ∈ wsX7_windsThatFit := mb_X7_windsThatFit_wsX7_windsThatFit_r3 (List.mem_of_getElem? (i := 18) rfl)
theorem mx_X7_windsThatFit_68 : Cond.code yX3_letLoose cX3_letLoose 4 none ∈ wsX7_windsThatFit := mb_X7_windsThatFit_wsX7_windsThatFit_r3 (List.mem_of_getElem? (i := 19) rfl)
theorem mx_X7_windsThatFit_69 : Cond.methodLink RX3 83 yX3_grindsAt ∈ wsX7_windsThatFit := mb_X7_windsThatFit_wsX7_windsThatFit_r3 (List.mem_of_getElem? (i := 20) rfl)
theorem mx_X7_windsThatFit_70 : Cond.instanceMethod yX3_grindsAt ∈ wsX7_windsThatFit := mb_X7_windsThatFit_wsX7_windsThatFit_r3 (List.mem_of_getElem? (i := 21) rfl)
theorem mx_X7_windsThatFit_71 : Cond.selects RX3 yX3_grindsAt yX3_grindsAt ∈ wsX7_windsThatFit := mb_X7_windsThatFit_wsX7_windsThatFit_r3 (List.mem_of_getElem? (i := 22) rfl)
theorem mx_X7_windsThatFit_72 : Cond.code yX3_grindsAt cX3_grindsAt 4 (some .boolean) ∈ wsX7_windsThatFit := mb_X7_windsThatFit_wsX7_windsThatFit_r3 (List.mem_of_getElem? (i := 23) rfl)
theorem mb_X7_windsThatFit_wsX7_windsThatFit_r4 {w : Cond} (h : w ∈ wsX7_windsThatFit_r4) : w ∈ wsX7_windsThatFit := by unfold wsX7_windsThatFit; exact List.mem_cons_of_mem _ (List.mem_append_left _ (List.mem_append_left _ (List.mem_append_left _ (List.mem_append_right _ (List.mem_append_right _ (List.mem_append_right _ (h)))))))
theorem mx_X7_windsThatFit_73 : Cond.methodLink RX7 179 yX3_isLoose ∈ wsX7_windsThatFit := mb_X7_windsThatFit_wsX7_windsThatFit_r4 (List.mem_of_getElem? (i := 0) rfl)
theorem mx_X7_windsThatFit_74 : Cond.methodLink RX7 337 yX5_item ∈ wsX7_windsThatFit := mb_X7_windsThatFit_wsX7_windsThatFit_r4 (List.mem_of_getElem? (i := 1) rfl)
theorem mx_X7_windsThatFit_75 : Cond.instanceMethod yX5_item ∈ wsX7_windsThatFit := mb_X7_windsThatFit_wsX7_windsThatFit_r4 (List.mem_of_getElem? (i := 2) rfl)
theorem mx_X7_windsThatFit_76 : Cond.selects RX5 yX5_item yX5_item ∈ wsX7_windsThatFit := mb_X7_windsThatFit_wsX7_windsThatFit_r4 (List.mem_of_getElem? (i := 3) rfl)
theorem mx_X7_windsThatFit_77 : Cond.initialized RX5 ∈ wsX7_windsThatFit := mb_X7_windsThatFit_wsX7_windsThatFit_r4 (List.mem_of_getElem? (i := 4) rfl)
theorem mx_X7_windsThatFit_78 : Cond.code yX5_item cX5_item 3 (some .int) ∈ wsX7_windsThatFit := mb_X7_windsThatFit_wsX7_windsThatFit_r4 (List.mem_of_getElem? (i := 5) rfl)
theorem mx_X7_windsThatFit_79 : Cond.fieldLink RX5 13 "MillTalk$Rows" "items" "[[I" ∈ wsX7_windsThatFit := mb_X7_windsThatFit_wsX7_windsThatFit_r4 (List.mem_of_getElem? (i := 6) rfl)
theorem mb_X7_windsThatFit_wsX70 {w : Cond} (h : w ∈ wsX70) : w ∈ wsX7_windsThatFit := by unfold wsX7_windsThatFit; exact List.mem_cons_of_mem _ (List.mem_append_left _ (List.mem_append_left _ (List.mem_append_right _ (h))))
theorem mb_X7_windsThatFit_wsX50 {w : Cond} (h : w ∈ wsX50) : w ∈ wsX7_windsThatFit := by unfold wsX7_windsThatFit; exact List.mem_cons_of_mem _ (List.mem_append_right _ (h))
theorem ggX7_windsThatFit_X7_trialFits : GoodIn wsX7_windsThatFit wsX7_trialFits := goodIn_sub (by unfold wsX7_trialFits; exact List.forall_mem_cons.mpr ⟨mx_X7_windsThatFit_30, List.forall_mem_append.mpr ⟨List.forall_mem_append.mpr ⟨List.forall_mem_append.mpr ⟨List.forall_mem_append.mpr ⟨(by unfold wsX7_trialFits_r1; exact List.forall_mem_cons.mpr ⟨mx_X7_windsThatFit_1, List.forall_mem_cons.mpr ⟨mx_X7_windsThatFit_31, List.forall_mem_cons.mpr ⟨mx_X7_windsThatFit_32, List.forall_mem_cons.mpr ⟨mx_X7_windsThatFit_33, List.forall_mem_cons.mpr ⟨mx_X7_windsThatFit_34, List.forall_mem_cons.mpr ⟨mx_X7_windsThatFit_35, List.forall_mem_cons.mpr ⟨mx_X7_windsThatFit_7, List.forall_mem_cons.mpr ⟨mx_X7_windsThatFit_36, List.forall_mem_cons.mpr ⟨mx_X7_windsThatFit_13, List.forall_mem_cons.mpr ⟨mx_X7_windsThatFit_37, List.forall_mem_cons.mpr ⟨mx_X7_windsThatFit_38, List.forall_mem_cons.mpr ⟨mx_X7_windsThatFit_39, List.forall_mem_cons.mpr ⟨mx_X7_windsThatFit_40, List.forall_mem_cons.mpr ⟨mx_X7_windsThatFit_15, List.forall_mem_cons.mpr ⟨mx_X7_windsThatFit_17, List.forall_mem_cons.mpr ⟨mx_X7_windsThatFit_41, List.forall_mem_cons.mpr ⟨mx_X7_windsThatFit_42, List.forall_mem_cons.mpr ⟨mx_X7_windsThatFit_43, List.forall_mem_cons.mpr ⟨mx_X7_windsThatFit_44, List.forall_mem_cons.mpr ⟨mx_X7_windsThatFit_23, List.forall_mem_cons.mpr ⟨mx_X7_windsThatFit_25, List.forall_mem_cons.mpr ⟨mx_X7_windsThatFit_14, List.forall_mem_cons.mpr ⟨mx_X7_windsThatFit_45, List.forall_mem_cons.mpr ⟨mx_X7_windsThatFit_46, fun _ h_ => absurd h_ List.not_mem_nil⟩⟩⟩⟩⟩⟩⟩⟩⟩⟩⟩⟩⟩⟩⟩⟩⟩⟩⟩⟩⟩⟩⟩⟩), List.forall_mem_append.mpr ⟨(by unfold wsX7_trialFits_r2; exact List.forall_mem_cons.mpr ⟨mx_X7_windsThatFit_47, List.forall_mem_cons.mpr ⟨mx_X7_windsThatFit_48, List.forall_mem_cons.mpr ⟨mx_X7_windsThatFit_49, List.forall_mem_cons.mpr ⟨mx_X7_windsThatFit_50, List.forall_mem_cons.mpr ⟨mx_X7_windsThatFit_51, List.forall_mem_cons.mpr ⟨mx_X7_windsThatFit_52, List.forall_mem_cons.mpr ⟨mx_X7_windsThatFit_53, List.forall_mem_cons.mpr ⟨mx_X7_windsThatFit_54, List.forall_mem_cons.mpr ⟨mx_X7_windsThatFit_55, List.forall_mem_cons.mpr ⟨mx_X7_windsThatFit_56, List.forall_mem_cons.mpr ⟨mx_X7_windsThatFit_22, List.forall_mem_cons.mpr ⟨mx_X7_windsThatFit_57, List.forall_mem_cons.mpr ⟨mx_X7_windsThatFit_58, List.forall_mem_cons.mpr ⟨mx_X7_windsThatFit_59, List.forall_mem_cons.mpr ⟨mx_X7_windsThatFit_60, List.forall_mem_cons.mpr ⟨mx_X7_windsThatFit_24, List.forall_mem_cons.mpr ⟨mx_X7_windsThatFit_61, List.forall_mem_cons.mpr ⟨mx_X7_windsThatFit_62, List.forall_mem_cons.mpr ⟨mx_X7_windsThatFit_63, List.forall_mem_cons.mpr ⟨mx_X7_windsThatFit_64, List.forall_mem_cons.mpr ⟨mx_X7_windsThatFit_9, List.forall_mem_cons.mpr ⟨mx_X7_windsThatFit_65, List.forall_mem_cons.mpr ⟨mx_X7_windsThatFit_66, List.forall_mem_cons.mpr ⟨mx_X7_windsThatFit_67, fun _ h_ => absurd h_ List.not_mem_nil⟩⟩⟩⟩⟩⟩⟩⟩⟩⟩⟩⟩⟩⟩⟩⟩⟩⟩⟩⟩⟩⟩⟩⟩), (by unfold wsX7_trialFits_r3; exact List.forall_mem_cons.mpr ⟨mx_X7_windsThatFit_68, List.forall_mem_cons.mpr ⟨mx_X7_windsThatFit_69, List.forall_mem_cons.mpr ⟨mx_X7_windsThatFit_70, List.forall_mem_cons.mpr ⟨mx_X7_windsThatFit_71, List.forall_mem_cons.mpr ⟨mx_X7_windsThatFit_72, List.forall_mem_cons.mpr ⟨mx_X7_windsThatFit_12, List.forall_mem_cons.mpr ⟨mx_X7_windsThatFit_10, List.forall_mem_cons.mpr ⟨mx_X7_windsThatFit_11, List.forall_mem_cons.mpr ⟨mx_X7_windsThatFit_73, List.forall_mem_cons.mpr ⟨mx_X7_windsThatFit_74, List.forall_mem_cons.mpr ⟨mx_X7_windsThatFit_75, List.forall_mem_cons.mpr ⟨mx_X7_windsThatFit_76, List.forall_mem_cons.mpr ⟨mx_X7_windsThatFit_77, List.forall_mem_cons.mpr ⟨mx_X7_windsThatFit_78, List.forall_mem_cons.mpr ⟨mx_X7_windsThatFit_79, fun _ h_ => absurd h_ List.not_mem_nil⟩⟩⟩⟩⟩⟩⟩⟩⟩⟩⟩⟩⟩⟩⟩)⟩⟩, (fun _ h_ => mb_X7_windsThatFit_wsX70 h_)⟩, (fun _ h_ => mb_X7_windsThatFit_wsX30 h_)⟩, (fun _ h_ => mb_X7_windsThatFit_wsX50 h_)⟩⟩) (by decide +kernel)
theorem mx_X7_windsThatFit_26 : Cond.methodLink RX7 330 yX7_trialFits ∈ wsX7_windsThatFit := mb_X7_windsThatFit_wsX7_windsThatFit_r2 (List.mem_of_getElem? (i := 1) rfl)
theorem mx_X7_windsThatFit_27 : Cond.instanceMethod yX7_trialFits ∈ wsX7_windsThatFit := mb_X7_windsThatFit_wsX7_windsThatFit_r2 (List.mem_of_getElem? (i := 2) rfl)
theorem mx_X7_windsThatFit_28 : Cond.selects RX7 yX7_trialFits yX7_trialFits ∈ wsX7_windsThatFit := mb_X7_windsThatFit_wsX7_windsThatFit_r2 (List.mem_of_getElem? (i := 3) rfl)
theorem mx_X7_windsThatFit_29 : Cond.initialized RX7 ∈ wsX7_windsThatFit := mb_X7_windsThatFit_wsX7_windsThatFit_r2 (List.mem_of_getElem? (i := 4) rfl)
theorem gX7_windsThatFit_X7_trialFits : GoodIn wsX7_windsThatFit (wsV RX7 330 RX7 yX7_trialFits wsX7_trialFits) := goodIn_app (goodIn_sub (List.forall_mem_cons.mpr ⟨mx_X7_windsThatFit_26, List.forall_mem_cons.mpr ⟨mx_X7_windsThatFit_27, List.forall_mem_cons.mpr ⟨mx_X7_windsThatFit_28, List.forall_mem_cons.mpr ⟨mx_X7_windsThatFit_29, fun _ h_ => absurd h_ List.not_mem_nil⟩⟩⟩⟩) (by decide +kernel)) ggX7_windsThatFit_X7_trialFits
theorem i_X3_takeDraw_X3 : ∀ w ∈ u_ws RX3 TX3 13, w ∈ wsX3_takeDraw := fun _ h_ => mb_X3_takeDraw_wsX30 h_
theorem mb_X7_ahead_wsX70 {w : Cond} (h : w ∈ wsX70) : w ∈ wsX7_ahead := by unfold wsX7_ahead; exact List.mem_cons_of_mem _ (List.mem_append_left _ (List.mem_append_right _ (h)))
theorem i_X7_ahead_X7 : ∀ w ∈ u_ws RX7 TX7 11, w ∈ wsX7_ahead := fun _ h_ => mb_X7_ahead_wsX70 h_
theorem i_X7_calm_X3 : ∀ w ∈ u_ws RX3 TX3 13, w ∈ wsX7_calm := fun _ h_ => mb_X7_calm_wsX30 h_
theorem i_X7_calm_X7 : ∀ w ∈ u_ws RX7 TX7 11, w ∈ wsX7_calm := fun _ h_ => mb_X7_calm_wsX70 h_
theorem mb_X7_casesOf_wsX30 {w : Cond} (h : w ∈ wsX30) : w ∈ wsX7_casesOf := by unfold wsX7_casesOf; exact List.mem_cons_of_mem _ (List.mem_append_right _ (h))
theorem i_X7_casesOf_X3 : ∀ w ∈ u_ws RX3 TX3 13, w ∈ wsX7_casesOf := fun _ h_ => mb_X7_casesOf_wsX30 h_
theorem mb_X7_casesOf_wsX70 {w : Cond} (h : w ∈ wsX70) : w ∈ wsX7_casesOf := by unfold wsX7_casesOf; exact List.mem_cons_of_mem _ (List.mem_append_left _ (List.mem_append_right _ (h)))
theorem i_X7_casesOf_X7 : ∀ w ∈ u_ws RX7 TX7 11, w ∈ wsX7_casesOf := fun _ h_ => mb_X7_casesOf_wsX70 h_
theorem i_X7_drawn_X3 : ∀ w ∈ u_ws RX3 TX3 13, w ∈ wsX7_drawn := fun _ h_ => mb_X7_drawn_wsX30 h_
theorem mb_X7_drawn_wsX70 {w : Cond} (h : w ∈ wsX70) : w ∈ wsX7_drawn := by unfold wsX7_drawn; exact List.mem_cons_of_mem _ (List.mem_append_left _ (List.mem_append_right _ (h)))
theorem i_X7_drawn_X7 : ∀ w ∈ u_ws RX7 TX7 11, w ∈ wsX7_drawn := fun _ h_ => mb_X7_drawn_wsX70 h_
theorem i_X7_gusts_X7 : ∀ w ∈ u_ws RX7 TX7 11, w ∈ wsX7_gusts := fun _ h_ => mb_X7_gusts_wsX70 h_
theorem i_X7_isGroundIfDropped_X3 : ∀ w ∈ u_ws RX3 TX3 13, w ∈ wsX7_isGroundIfDropped := fun _ h_ => mb_X7_isGroundIfDropped_wsX30 h_
theorem mb_X7_isGroundIfDropped_wsX70 {w : Cond} (h : w ∈ wsX70) : w ∈ wsX7_isGroundIfDropped := by unfold wsX7_isGroundIfDropped; exact List.mem_cons_of_mem _ (List.mem_append_left _ (List.mem_append_right _ (h)))
theorem i_X7_isGroundIfDropped_X7 : ∀ w ∈ u_ws RX7 TX7 11, w ∈ wsX7_isGroundIfDropped := fun _ h_ => mb_X7_isGroundIfDropped_wsX70 h_
theorem i_X7_kindsThatFit_X3 : ∀ w ∈ u_ws RX3 TX3 13, w ∈ wsX7_kindsThatFit := fun _ h_ => mb_X7_kindsThatFit_wsX30 h_
theorem i_X7_kindsThatFit_X7 : ∀ w ∈ u_ws RX7 TX7 11, w ∈ wsX7_kindsThatFit := fun _ h_ => mb_X7_kindsThatFit_wsX70 h_
theorem mb_X7_meal_wsX70 {w : Cond} (h : w ∈ wsX70) : w ∈ wsX7_meal := by unfold wsX7_meal; exact List.mem_cons_of_mem _ (List.mem_append_left _ (List.mem_append_right _ (h)))
theorem i_X7_meal_X7 : ∀ w ∈ u_ws RX7 TX7 11, w ∈ wsX7_meal := fun _ h_ => mb_X7_meal_wsX70 h_
theorem i_X7_reachesThatFit_X3 : ∀ w ∈ u_ws RX3 TX3 13, w ∈ wsX7_reachesThatFit := fun _ h_ => mb_X7_reachesThatFit_wsX30 h_
theorem i_X7_reachesThatFit_X7 : ∀ w ∈ u_ws RX7 TX7 11, w ∈ wsX7_reachesThatFit := fun _ h_ => mb_X7_reachesThatFit_wsX70 h_
theorem i_X7_refusalToHear_X7 : ∀ w ∈ u_ws RX7 TX7 11, w ∈ wsX7_refusalToHear := fun _ h_ => mb_X7_refusalToHear_wsX70 h_
theorem i_X7_site_X3 : ∀ w ∈ u_ws RX3 TX3 13, w ∈ wsX7_site := fun _ h_ => mb_X7_site_wsX30 h_
theorem mb_X7_site_wsX70 {w : Cond} (h : w ∈ wsX70) : w ∈ wsX7_site := by unfold wsX7_site; exact List.mem_cons_of_mem _ (List.mem_append_left _ (List.mem_append_right _ (h)))
theorem i_X7_site_X7 : ∀ w ∈ u_ws RX7 TX7 11, w ∈ wsX7_site := fun _ h_ => mb_X7_site_wsX70 h_
theorem i_X7_startsThatFit_X3 : ∀ w ∈ u_ws RX3 TX3 13, w ∈ wsX7_startsThatFit := fun _ h_ => mb_X7_startsThatFit_wsX30 h_
theorem i_X7_startsThatFit_X7 : ∀ w ∈ u_ws RX7 TX7 11, w ∈ wsX7_startsThatFit := fun _ h_ => mb_X7_startsThatFit_wsX70 h_
theorem i_X7_trialFits_X3 : ∀ w ∈ u_ws RX3 TX3 13, w ∈ wsX7_trialFits := fun _ h_ => mb_X7_trialFits_wsX30 h_
theorem mb_X7_trialFits_wsX70 {w : Cond} (h : w ∈ wsX70) : w ∈ wsX7_trialFits := by unfold wsX7_trialFits; exact List.mem_cons_of_mem _ (List.mem_append_left _ (List.mem_append_left _ (List.mem_append_right _ (h))))
theorem i_X7_trialFits_X7 : ∀ w ∈ u_ws RX7 TX7 11, w ∈ wsX7_trialFits := fun _ h_ => mb_X7_trialFits_wsX70 h_
theorem i_X7_when_X3 : ∀ w ∈ u_ws RX3 TX3 13, w ∈ wsX7_when := fun _ h_ => mb_X7_when_wsX30 h_
theorem mb_X7_when_wsX70 {w : Cond} (h : w ∈ wsX70) : w ∈ wsX7_when := by unfold wsX7_when; exact List.mem_cons_of_mem _ (List.mem_append_left _ (List.mem_append_right _ (h)))
theorem i_X7_when_X7 : ∀ w ∈ u_ws RX7 TX7 11, w ∈ wsX7_when := fun _ h_ => mb_X7_when_wsX70 h_
theorem i_X7_who_X7 : ∀ w ∈ u_ws RX7 TX7 11, w ∈ wsX7_who := fun _ h_ => mb_X7_who_wsX70 h_
theorem i_X7_windsThatFit_X3 : ∀ w ∈ u_ws RX3 TX3 13, w ∈ wsX7_windsThatFit := fun _ h_ => mb_X7_windsThatFit_wsX30 h_
theorem i_X7_windsThatFit_X7 : ∀ w ∈ u_ws RX7 TX7 11, w ∈ wsX7_windsThatFit := fun _ h_ => mb_X7_windsThatFit_wsX70 h_
theorem mx_X7_ahead_1 : Cond.fieldLink RX7 26 "MillTalk" "now" "LMillTalk$Level;" ∈ wsX7_ahead := mb_X7_ahead_wsX7_ahead_r1 (List.mem_of_getElem? (i := 0) rfl)
theorem mx_X7_ahead_2 : Cond.constant RX7 72 (-1000001) ∈ wsX7_ahead := mb_X7_ahead_wsX7_ahead_r1 (List.mem_of_getElem? (i := 1) rfl)
theorem mx_X7_ahead_3 : Cond.fieldLink RX7 41 "MillTalk" "trial" "LMillTalk$Level;" ∈ wsX7_ahead := mb_X7_ahead_wsX7_ahead_r1 (List.mem_of_getElem? (i := 2) rfl)
theorem mx_X7_meal_1 : Cond.fieldLink RX7 26 "MillTalk" "now" "LMillTalk$Level;" ∈ wsX7_meal := mb_X7_meal_wsX7_meal_r1 (List.mem_of_getElem? (i := 0) rfl)
theorem mx_X7_meal_2 : Cond.constant RX7 141 (-1000002) ∈ wsX7_meal := mb_X7_meal_wsX7_meal_r1 (List.mem_of_getElem? (i := 1) rfl)
theorem mx_X7_meal_3 : Cond.constant RX7 72 (-1000001) ∈ wsX7_meal := mb_X7_meal_wsX7_meal_r1 (List.mem_of_getElem? (i := 2) rfl)
theorem mx_X7_meal_4 : Cond.fieldLink RX7 41 "MillTalk" "trial" "LMillTalk$Level;" ∈ wsX7_meal := mb_X7_meal_wsX7_meal_r1 (List.mem_of_getElem? (i := 3) rfl)
theorem mx_X7_when_1 : Cond.fieldLink RX7 26 "MillTalk" "now" "LMillTalk$Level;" ∈ wsX7_when := mb_X7_when_wsX7_when_r1 (List.mem_of_getElem? (i := 0) rfl)
theorem mx_X7_when_2 : Cond.constant RX7 72 (-1000001) ∈ wsX7_when := mb_X7_when_wsX7_when_r1 (List.mem_of_getElem? (i := 1) rfl)
theorem mx_X7_when_3 : Cond.fieldLink RX7 41 "MillTalk" "trial" "LMillTalk$Level;" ∈ wsX7_when := mb_X7_when_wsX7_when_r1 (List.mem_of_getElem? (i := 2) rfl)
theorem mx_X7_when_4 : Cond.fieldLink RX7 217 "MillTalk$Level" "hows" "[I" ∈ wsX7_when := mb_X7_when_wsX7_when_r1 (List.mem_of_getElem? (i := 3) rfl)
theorem mx_X7_when_5 : Cond.constant RX7 220 (-1000000) ∈ wsX7_when := mb_X7_when_wsX7_when_r1 (List.mem_of_getElem? (i := 4) rfl)
theorem mx_X7_site_1 : Cond.fieldLink RX7 26 "MillTalk" "now" "LMillTalk$Level;" ∈ wsX7_site := mb_X7_site_wsX7_site_r1 (List.mem_of_getElem? (i := 0) rfl)
theorem mx_X7_site_2 : Cond.constant RX7 141 (-1000002) ∈ wsX7_site := mb_X7_site_wsX7_site_r1 (List.mem_of_getElem? (i := 1) rfl)
theorem mx_X7_site_3 : Cond.constant RX7 72 (-1000001) ∈ wsX7_site := mb_X7_site_wsX7_site_r1 (List.mem_of_getElem? (i := 2) rfl)
theorem mx_X7_site_4 : Cond.fieldLink RX7 198 "MillTalk$Level" "cells" "I" ∈ wsX7_site := mb_X7_site_wsX7_site_r1 (List.mem_of_getElem? (i := 3) rfl)
theorem mx_X7_site_5 : Cond.fieldLink RX7 41 "MillTalk" "trial" "LMillTalk$Level;" ∈ wsX7_site := mb_X7_site_wsX7_site_r1 (List.mem_of_getElem? (i := 4) rfl)
theorem mx_X7_site_6 : Cond.fieldLink RX7 201 "MillTalk$Level" "mill" "I" ∈ wsX7_site := mb_X7_site_wsX7_site_r1 (List.mem_of_getElem? (i := 5) rfl)
theorem mx_X7_trialFits_1 : Cond.fieldLink RX7 41 "MillTalk" "trial" "LMillTalk$Level;" ∈ wsX7_trialFits := mb_X7_trialFits_wsX7_trialFits_r1 (List.mem_of_getElem? (i := 0) rfl)
theorem mx_X7_trialFits_3 : Cond.fieldLink RX7 10 "MillTalk" "rows" "LMillTalk$Rows;" ∈ wsX7_trialFits := mb_X7_trialFits_wsX7_trialFits_r1 (List.mem_of_getElem? (i := 2) rfl)
theorem mx_X7_trialFits_2 : Cond.fieldLink RX7 334 "MillTalk$Level" "places" "[I" ∈ wsX7_trialFits := mb_X7_trialFits_wsX7_trialFits_r1 (List.mem_of_getElem? (i := 1) rfl)
theorem mx_X7_kindsThatFit_2 : Cond.fieldLink RX7 26 "MillTalk" "now" "LMillTalk$Level;" ∈ wsX7_kindsThatFit := mb_X7_kindsThatFit_wsX7_kindsThatFit_r1 (List.mem_of_getElem? (i := 1) rfl)
theorem mx_X7_kindsThatFit_3 : Cond.fieldLink RX7 301 "MillTalk$Level" "kinds" "[I" ∈ wsX7_kindsThatFit := mb_X7_kindsThatFit_wsX7_kindsThatFit_r1 (List.mem_of_getElem? (i := 2) rfl)
theorem mx_X7_startsThatFit_1 : Cond.fieldLink RX7 26 "MillTalk" "now" "LMillTalk$Level;" ∈ wsX7_startsThatFit := mb_X7_startsThatFit_wsX7_startsThatFit_r1 (List.mem_of_getElem? (i := 0) rfl)
theorem mx_X7_startsThatFit_2 : Cond.fieldLink RX7 198 "MillTalk$Level" "cells" "I" ∈ wsX7_startsThatFit := mb_X7_startsThatFit_wsX7_startsThatFit_r1 (List.mem_of_getElem? (i := 1) rfl)
theorem mx_X7_reachesThatFit_2 : Cond.fieldLink RX7 26 "MillTalk" "now" "LMillTalk$Level;" ∈ wsX7_reachesThatFit := mb_X7_reachesThatFit_wsX7_reachesThatFit_r1 (List.mem_of_getElem? (i := 1) rfl)
theorem mx_X7_reachesThatFit_3 : Cond.fieldLink RX7 204 "MillTalk$Level" "reach" "I" ∈ wsX7_reachesThatFit := mb_X7_reachesThatFit_wsX7_reachesThatFit_r1 (List.mem_of_getElem? (i := 2) rfl)
theorem mx_X7_windsThatFit_2 : Cond.fieldLink RX7 26 "MillTalk" "now" "LMillTalk$Level;" ∈ wsX7_windsThatFit := mb_X7_windsThatFit_wsX7_windsThatFit_r1 (List.mem_of_getElem? (i := 1) rfl)
theorem mx_X7_windsThatFit_3 : Cond.fieldLink RX7 169 "MillTalk$Level" "winds" "[I" ∈ wsX7_windsThatFit := mb_X7_windsThatFit_wsX7_windsThatFit_r1 (List.mem_of_getElem? (i := 2) rfl)
theorem mx_X7_refusalToHear_1 : Cond.fieldLink RX7 26 "MillTalk" "now" "LMillTalk$Level;" ∈ wsX7_refusalToHear := mb_X7_refusalToHear_wsX7_refusalToHear_r1 (List.mem_of_getElem? (i := 0) rfl)
theorem mx_X7_refusalToHear_2 : Cond.constant RX7 141 (-1000002) ∈ wsX7_refusalToHear := mb_X7_refusalToHear_wsX7_refusalToHear_r1 (List.mem_of_getElem? (i := 1) rfl)
theorem mx_X7_refusalToHear_3 : Cond.fieldLink RX7 10 "MillTalk" "rows" "LMillTalk$Rows;" ∈ wsX7_refusalToHear := mb_X7_refusalToHear_wsX7_refusalToHear_r1 (List.mem_of_getElem? (i := 2) rfl)
theorem mx_X7_who_2 : Cond.constant RX7 72 (-1000001) ∈ wsX7_who := mb_X7_who_wsX7_who_r1 (List.mem_of_getElem? (i := 1) rfl)
theorem mx_X7_gusts_2 : Cond.constant RX7 72 (-1000001) ∈ wsX7_gusts := mb_X7_gusts_wsX7_gusts_r1 (List.mem_of_getElem? (i := 1) rfl)
theorem mx_X7_casesOf_1 : Cond.fieldLink RX7 26 "MillTalk" "now" "LMillTalk$Level;" ∈ wsX7_casesOf := by unfold wsX7_casesOf; exact List.mem_cons_of_mem _ (List.mem_append_left _ (List.mem_append_left _ (List.mem_of_getElem? (i := 0) rfl)))
theorem mx_X7_casesOf_2 : Cond.fieldLink RX7 269 "MillTalk$Level" "windCount" "I" ∈ wsX7_casesOf := by unfold wsX7_casesOf; exact List.mem_cons_of_mem _ (List.mem_append_left _ (List.mem_append_left _ (List.mem_of_getElem? (i := 1) rfl)))
theorem mx_X7_isGroundIfDropped_1 : Cond.fieldLink RX7 41 "MillTalk" "trial" "LMillTalk$Level;" ∈ wsX7_isGroundIfDropped := mb_X7_isGroundIfDropped_wsX7_isGroundIfDropped_r1 (List.mem_of_getElem? (i := 0) rfl)
theorem mx_X7_isGroundIfDropped_2 : Cond.fieldLink RX7 26 "MillTalk" "now" "LMillTalk$Level;" ∈ wsX7_isGroundIfDropped := mb_X7_isGroundIfDropped_wsX7_isGroundIfDropped_r1 (List.mem_of_getElem? (i := 1) rfl)
theorem mx_X7_isGroundIfDropped_3 : Cond.fieldLink RX7 269 "MillTalk$Level" "windCount" "I" ∈ wsX7_isGroundIfDropped := mb_X7_isGroundIfDropped_wsX7_isGroundIfDropped_r1 (List.mem_of_getElem? (i := 2) rfl)
theorem mx_X7_isGroundIfDropped_4 : Cond.fieldLink RX7 169 "MillTalk$Level" "winds" "[I" ∈ wsX7_isGroundIfDropped := mb_X7_isGroundIfDropped_wsX7_isGroundIfDropped_r1 (List.mem_of_getElem? (i := 3) rfl)
theorem mx_X7_isGroundIfDropped_5 : Cond.fieldLink RX7 217 "MillTalk$Level" "hows" "[I" ∈ wsX7_isGroundIfDropped := mb_X7_isGroundIfDropped_wsX7_isGroundIfDropped_r1 (List.mem_of_getElem? (i := 4) rfl)
theorem mx_X7_calm_2 : Cond.constantLong RX7 267 (-1000001) ∈ wsX7_calm := mb_X7_calm_wsX7_calm_r1 (List.mem_of_getElem? (i := 1) rfl)
theorem mx_X7_calm_4 : Cond.methodLink RX7 282 Lib.Math.max.name ∈ wsX7_calm := mb_X7_calm_wsX7_calm_r1 (List.mem_of_getElem? (i := 3) rfl)
theorem mx_X7_calm_5 : Cond.static Lib.Math.max.name ∈ wsX7_calm := mb_X7_calm_wsX7_calm_r1 (List.mem_of_getElem? (i := 4) rfl)
theorem mx_X7_calm_7 : Cond.code Lib.Math.max.name Lib.Math.max.code 2 (some .int) ∈ wsX7_calm := mb_X7_calm_wsX7_calm_r1 (List.mem_of_getElem? (i := 6) rfl)
theorem mx_X3_takeDraw_1 : Cond.fieldLink RX3 46 "MillTalk$Level" "windCount" "I" ∈ wsX3_takeDraw := by unfold wsX3_takeDraw; exact List.mem_cons_of_mem _ (List.mem_append_left _ (List.mem_of_getElem? (i := 0) rfl))
theorem mx_X3_takeDraw_2 : Cond.fieldLink RX3 49 "MillTalk$Level" "soundCount" "I" ∈ wsX3_takeDraw := by unfold wsX3_takeDraw; exact List.mem_cons_of_mem _ (List.mem_append_left _ (List.mem_of_getElem? (i := 1) rfl))
theorem mx_X3_takeDraw_3 : Cond.fieldLink RX3 27 "MillTalk$Level" "cells" "I" ∈ wsX3_takeDraw := by unfold wsX3_takeDraw; exact List.mem_cons_of_mem _ (List.mem_append_left _ (List.mem_of_getElem? (i := 2) rfl))
theorem mx_X3_takeDraw_4 : Cond.constantLong RX3 97 (3) ∈ wsX3_takeDraw := by unfold wsX3_takeDraw; exact List.mem_cons_of_mem _ (List.mem_append_left _ (List.mem_of_getElem? (i := 3) rfl))
theorem mx_X3_takeDraw_7 : Cond.constantLong RX3 101 (2) ∈ wsX3_takeDraw := by unfold wsX3_takeDraw; exact List.mem_cons_of_mem _ (List.mem_append_left _ (List.mem_of_getElem? (i := 6) rfl))
theorem mx_X3_takeDraw_8 : Cond.fieldLink RX3 37 "MillTalk$Level" "cap" "I" ∈ wsX3_takeDraw := by unfold wsX3_takeDraw; exact List.mem_cons_of_mem _ (List.mem_append_left _ (List.mem_of_getElem? (i := 7) rfl))
theorem mx_X3_takeDraw_9 : Cond.constantLong RX3 103 (9) ∈ wsX3_takeDraw := by unfold wsX3_takeDraw; exact List.mem_cons_of_mem _ (List.mem_append_left _ (List.mem_of_getElem? (i := 8) rfl))
theorem mx_X3_takeDraw_5 : Cond.fieldLink RX3 9 "MillTalk$Level" "winds" "[I" ∈ wsX3_takeDraw := by unfold wsX3_takeDraw; exact List.mem_cons_of_mem _ (List.mem_append_left _ (List.mem_of_getElem? (i := 4) rfl))
theorem mx_X3_takeDraw_6 : Cond.constantLong RX3 99 (5) ∈ wsX3_takeDraw := by unfold wsX3_takeDraw; exact List.mem_cons_of_mem _ (List.mem_append_left _ (List.mem_of_getElem? (i := 5) rfl))
theorem mx_X7_drawn_1 : Cond.fieldLink RX7 26 "MillTalk" "now" "LMillTalk$Level;" ∈ wsX7_drawn := mb_X7_drawn_wsX7_drawn_r1 (List.mem_of_getElem? (i := 0) rfl)
theorem mx_X7_drawn_2 : Cond.constant RX7 141 (-1000002) ∈ wsX7_drawn := mb_X7_drawn_wsX7_drawn_r1 (List.mem_of_getElem? (i := 1) rfl)
theorem mx_X7_drawn_4 : Cond.constant RX7 72 (-1000001) ∈ wsX7_drawn := mb_X7_drawn_wsX7_drawn_r1 (List.mem_of_getElem? (i := 3) rfl)
theorem mx_X7_drawn_3 : Cond.constant RX7 287 (999999) ∈ wsX7_drawn := mb_X7_drawn_wsX7_drawn_r1 (List.mem_of_getElem? (i := 2) rfl)
theorem mx_X7_drawn_5 : Cond.fieldLink RX7 41 "MillTalk" "trial" "LMillTalk$Level;" ∈ wsX7_drawn := mb_X7_drawn_wsX7_drawn_r1 (List.mem_of_getElem? (i := 4) rfl)
theorem mx_X7_drawn_6 : Cond.constantLong RX7 288 (16807) ∈ wsX7_drawn := mb_X7_drawn_wsX7_drawn_r1 (List.mem_of_getElem? (i := 5) rfl)
theorem mx_X7_drawn_7 : Cond.constantLong RX7 290 (2147483647) ∈ wsX7_drawn := mb_X7_drawn_wsX7_drawn_r1 (List.mem_of_getElem? (i := 6) rfl)
theorem mx_X7_drawn_8 : Cond.fieldLink RX7 157 "MillTalk$Level" "meal" "I" ∈ wsX7_drawn := mb_X7_drawn_wsX7_drawn_r1 (List.mem_of_getElem? (i := 7) rfl)
