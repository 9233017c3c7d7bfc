section TWOS
variable {f : Nat → Int32} {z : Nat} {v0 v1 v2 : Int32} {g1 : Nat → Int32} {w : Nat}
theorem kd_eq {p : Nat} (hz : z ≤ 120) (hp : p ≤ z) : kdM (nT f z p) = kindX (bAt f z (nI p)) ∧ (¬ kdM (nT f z p) = 0 → p < z ∧ (nT f z p).2.2.2 = p + 1) := by
  rcases nT_cases (f := f) hz hp with ⟨-, -, ⟨V, e, -⟩, g⟩ | ⟨-, g, e, b⟩ | ⟨-, -, e, b⟩
  · have h : kdM (nT f z p) = 0 := by
      rw [e]
      unfold kdM
      refine if_neg (fun h => ?_)
      have h : (if figX f z (nI p) 120 0 ≤ 2 then (2 : Int32) else 0) = 1 := h
      split at h
      · exact absurd h (by decide)
      · exact absurd h (by decide)
    exact ⟨h.trans (fig_n g).2.1.symm, fun q => absurd h q⟩
  · rw [e, b]
    refine ⟨?_, fun _ => ⟨g, rfl⟩⟩
    unfold kdM
    by_cases t : tokL (f p)
    · have h1 : (if tokL (f p) then (1 : Int32) else 0) = 1 := if_pos t
      exact if_pos h1
    · have h1 : (if tokL (f p) then (1 : Int32) else 0) = 0 := if_neg t
      have h2 : ¬ (if tokL (f p) then (1 : Int32) else 0) = 1 := by rw [h1]; decide
      refine (if_neg h2).trans ?_
      unfold kindX
      have nn : ∀ c : Int32, tokL c → ¬ f p = c := fun c hc q => t (q ▸ hc)
      rw [if_neg (nn 118 (by decide)), if_neg (nn 98 (by decide)), if_neg (nn 104 (by decide)), if_neg (nn 100 (by decide)), if_neg (nn 115 (by decide))]
  · have h : kdM ((3 : Int32), (0 : Int32), nI p, p) = 0 := if_neg (show ¬ (3 : Int32) = 1 by decide)
    have h2 : kindX (-1) = 0 := by decide
    rw [e, b]
    exact ⟨h.trans h2.symm, fun q => absurd h q⟩
theorem xS_1 (f : Nat → Int32) (z : Nat) (c : Int32) (s : TS) : (xS f z c s).1 = xSc f z c s.1 s.2.1 := by
  unfold xS
  by_cases h : (xSc f z c s.1 s.2.1).2.1 = 0
  · rw [if_pos h]
  · rw [if_neg h]
theorem sty_S0 (f : Nat → Int32) (z : Nat) (q : TQ) (w : Nat) : Sty q (xS0 f z q w) := by
  unfold xS0
  split
  · exact sty_F 1 _
  · split
    · exact sty_F 3 _
    · exact fun _ => ⟨rfl, rfl⟩
theorem sty_Sa (f : Nat → Int32) (z : Nat) (q : TQ) (w : Nat) : Sty q (xSa f z q w) := by
  have h := sty_S0 f z q w
  unfold xSa
  generalize xS0 f z q w = t at h ⊢
  intro n
  exact h n
theorem sty_S (f : Nat → Int32) (z : Nat) (c : Int32) (s : TS) : Sty s.1 (xS f z c s).1 := by
  have h1 : Sty s.1 (xSc f z c s.1 s.2.1) := by
    unfold xSc xSb
    exact ((sty_Sa f z s.1 s.2.1).tr (sty_NB f z 0 (c - 1) 44 _)).tr (sty_NB f z 1 20 59 _)
  rw [xS_1]
  exact h1
theorem sty_Ss (f : Nat → Int32) (z : Nat) (c : Int32) : ∀ (n : Nat) (s : TS), Sty s.1 (xSs f z c n s).1
  | 0, _ => fun _ => ⟨rfl, rfl⟩
  | n + 1, s => by
    unfold xSs
    split
    · exact (sty_S f z c s).tr (sty_Ss f z c n _)
    · exact fun _ => ⟨rfl, rfl⟩
theorem sty_SS (f : Nat → Int32) (z : Nat) (c : Int32) (n : Nat) (s : TS) : Sty s.1 (xSs f z c n (xS f z c s)).1 := (sty_S f z c s).tr (sty_Ss f z c n (xS f z c s))
theorem xS_p {c : Int32} {s : TS} (h : (xSc f z c s.1 s.2.1).2.1 = 0) : xS f z c s = (xSc f z c s.1 s.2.1, s.2.1 + 1, upd s.2.2.1 s.2.1 (kindX (bAt f z s.1.2.2)), upd s.2.2.2.1 s.2.1 (rV f z 0 (c - 1) (xSa f z s.1 s.2.1).2.2), upd s.2.2.2.2.1 s.2.1 (rV f z 1 20 (xSb f z c s.1 s.2.1).2.2), upd s.2.2.2.2.2 s.2.1 0) := by
  unfold xS
  rw [if_pos h]
theorem xS_pos {c : Int32} {q : TQ} {k : Nat} {g2 g3 g4 g5 : Nat → Int32} (h : (xSc f z c q k).2.1 = 0) : xS f z c (q, k, g2, g3, g4, g5) = (xSc f z c q k, k + 1, upd g2 k (kindX (bAt f z q.2.2)), upd g3 k (rV f z 0 (c - 1) (xSa f z q k).2.2), upd g4 k (rV f z 1 20 (xSb f z c q k).2.2), upd g5 k 0) := by
  have e := xS_p (f := f) (z := z) (c := c) (s := (q, k, g2, g3, g4, g5))
  dsimp only at e
  exact e h
theorem xS_k (f : Nat → Int32) (z : Nat) (c : Int32) (s : TS) (h : 1 ≤ s.2.1) : 1 ≤ (xS f z c s).2.1 := by
  unfold xS
  by_cases q : (xSc f z c s.1 s.2.1).2.1 = 0
  · rw [if_pos q]
    show 1 ≤ s.2.1 + 1
    omega
  · rw [if_neg q]
    exact h
theorem xS_k1 (f : Nat → Int32) (z : Nat) (c : Int32) (s : TS) (q : (xS f z c s).1.2.1 = 0) : 1 ≤ (xS f z c s).2.1 := by
  rw [xS_1] at q
  unfold xS
  rw [if_pos q]
  show 1 ≤ s.2.1 + 1
  omega
/-- sounds: what is known of the two -/
noncomputable def XMS (f : Nat → Int32) (z : Nat) (v0 v1 v2 : Int32) (w : Nat) (g1 : Nat → Int32) (s : TS) (r : MR) : Prop := XP_ f z s.1 r (fun row => row = nrm v0 v1 v2 1 0 0 w s.2.1 g1 s.2.2.1 s.2.2.2.1 s.2.2.2.2.1 s.2.2.2.2.2 ∧ s.2.1 ≤ 6)
theorem xm_S_fin {B : TQ} {R : MR} {k : Nat} {g2 g3 g4 g5 : Nat → Int32} (h1 : XM f z B R.1.1 R.2) (h2 : R.2 = 0 → R.1.2 = nrm v0 v1 v2 1 0 0 w (k + 1) g1 g2 g3 g4 g5) (hk : k + 1 ≤ 6) : XMS f z v0 v1 v2 w g1 (B, k + 1, g2, g3, g4, g5) R := ⟨h1, fun q => ⟨h2 q, hk⟩⟩
theorem xm_S_no {s : TS} {B : TQ} {R : MR} (hx : s.1 = B) (h1 : XM f z B R.1.1 R.2) (q : ¬ R.2 = 0) : XMS f z v0 v1 v2 w g1 s R := ⟨by rw [hx]; exact h1, fun t => absurd t q⟩
theorem xm_S_flt {q : TQ} {s : TS} {R : MR} (hs : Sty q s.1) (a1 : ¬ q.2.1 = 0) (a2 : R.2 = q.2.1) (a3 : q.1 = R.1.1.2.2.1) : XMS f z v0 v1 v2 w g1 s R := by
  obtain ⟨y1, y2⟩ := hs a1
  exact ⟨Or.inr ⟨fun h => a1 (y2.symm.trans h), a2.trans y2.symm, y1.trans a3⟩, fun q => absurd (a2.symm.trans q) a1⟩
theorem sR_eq {s : MS} (g : sG0 s) : sR f z s = mB (nRr f z 0 (s.2 0 - 1) (20 + (s.2 4).toNatClampNeg) 44 (uT f z s.1, sRa s)) (fun t => nRr f z 1 20 (32 + (s.2 4).toNatClampNeg) 59 t) := by
  by_cases g1 : sG1 f z s
  · have e1 : nRr f z 0 (s.2 0 - 1) (20 + (s.2 4).toNatClampNeg) 44 (uT f z s.1, sRa s) = ((sUb f z s, sRb f z s), 0) := by
      unfold nRr sUb sRb
      exact congrArg (Prod.mk _) (if_pos g1)
    have e2 : mB ((sUb f z s, sRb f z s), (0 : Int32)) (fun t => nRr f z 1 20 (32 + (s.2 4).toNatClampNeg) 59 t) = nRr f z 1 20 (32 + (s.2 4).toNatClampNeg) 59 (sUb f z s, sRb f z s) := if_pos rfl
    have e3 : sS f z s = (nU f z 1 20 59 (sUb f z s), nR 1 20 (32 + (s.2 4).toNatClampNeg) (sUb f z s) (sRb f z s)) := by
      unfold sS
      rw [if_pos g, if_pos g1]
    have e4 : sE f z s = nE 1 20 (sUb f z s) := by
      unfold sE
      rw [if_pos g, if_pos g1]
    rw [e1, e2]
    unfold sR nRr
    rw [e3, e4]
    refine congrArg (Prod.mk _) ?_
    by_cases g2 : nGG f z 1 20 59 (sUb f z s)
    · exact (if_pos (show sGG f z s from ⟨g, g1, g2⟩)).trans (if_pos g2).symm
    · exact (if_neg (fun q : sGG f z s => g2 q.2.2)).trans (if_neg g2).symm
  · have e1 : nRr f z 0 (s.2 0 - 1) (20 + (s.2 4).toNatClampNeg) 44 (uT f z s.1, sRa s) = ((sUb f z s, sRb f z s), nE 0 (s.2 0 - 1) (uT f z s.1)) := by
      unfold nRr sUb sRb
      exact congrArg (Prod.mk _) (if_neg g1)
    have hne := nE_nz 0 (s.2 0 - 1) (uT f z s.1)
    have e2 : mB ((sUb f z s, sRb f z s), nE 0 (s.2 0 - 1) (uT f z s.1)) (fun t => nRr f z 1 20 (32 + (s.2 4).toNatClampNeg) 59 t) = ((sUb f z s, sRb f z s), nE 0 (s.2 0 - 1) (uT f z s.1)) := if_neg hne
    have e3 : sS f z s = (sUb f z s, sRb f z s) := by
      unfold sS
      rw [if_pos g, if_neg g1]
    have e4 : sE f z s = nE 0 (s.2 0 - 1) (uT f z s.1) := by
      unfold sE
      rw [if_pos g, if_neg g1]
    have e5 : ¬ sGG f z s := fun q => g1 q.2.1
    rw [e1, e2]
    unfold sR
    rw [e3, e4, if_neg e5]
theorem xm_S {p k : Nat} {fp : Int32} {g2 g3 g4 g5 row : Nat → Int32} (hz : z ≤ 120) (hp : p ≤ z) (hk : k ≤ 6) (hr : row = nrm v0 v1 v2 1 0 0 w k g1 g2 g3 g4 g5) : XMS f z v0 v1 v2 w g1 (xS f z v0 ((fp, 0, nI p), k, g2, g3, g4, g5)) (sR f z (nT f z p, row)) := by
  have r4 : row 4 = nI k := by rw [hr]; exact nrm4
  have r00 : row 0 = v0 := by rw [hr]; exact nrm0
  have n6 : (row 4 = 6) ↔ k = 6 := by rw [r4]; exact nI_eq (b := 6) (by omega) (by decide)
  obtain ⟨k1, k2⟩ := kd_eq (f := f) hz hp
  have hx : (xS f z v0 ((fp, 0, nI p), k, g2, g3, g4, g5)).1 = xSc f z v0 (fp, 0, nI p) k := xS_1 f z v0 _
  by_cases h0 : kdM (nT f z p) = 0
  · have ng : ¬ sG0 (nT f z p, row) := fun q => q.1 h0
    have e1 : sR f z (nT f z p, row) = ((nT f z p, row), 1) := by
      unfold sR sS sE
      rw [if_neg ng, if_neg (fun q => ng q.1), if_neg ng, if_pos h0]
    have c1 : kindX (bAt f z (nI p)) = 0 := k1.symm.trans h0
    have e2 : xS0 f z (fp, 0, nI p) k = (nI p, 1, nI p) := Eq.trans (if_pos c1) (rF_at 1 fp (nI p))
    have hs : Sty (nI p, 1, nI p) (xSc f z v0 (fp, 0, nI p) k) := by
      unfold xSc xSb xSa
      rw [e2]
      exact Sty.tr (r := (nI p, 1, nI p + 1)) (fun _ => ⟨rfl, rfl⟩) ((sty_NB f z 0 (v0 - 1) 44 _).tr (sty_NB f z 1 20 59 _))
    rw [e1]
    exact xm_S_no hx (xm_no hz hp (show ¬ (1 : Int32) = 0 by decide) hs) (show ¬ (1 : Int32) = 0 by decide)
  · have c1 : ¬ kindX (bAt f z (nI p)) = 0 := fun q => h0 (k1.trans q)
    by_cases h6 : k = 6
    · have ng : ¬ sG0 (nT f z p, row) := fun q => q.2 (n6.mpr h6)
      have e1 : sR f z (nT f z p, row) = ((nT f z p, row), 3) := by
        unfold sR sS sE
        rw [if_neg ng, if_neg (fun q => ng q.1), if_neg ng, if_neg h0]
      have c2 : ¬ k < 6 := by omega
      have e2 : xS0 f z (fp, 0, nI p) k = (nI p, 3, nI p) := Eq.trans (if_neg c1) (Eq.trans (if_pos c2) (rF_at 3 fp (nI p)))
      have hs : Sty (nI p, 3, nI p) (xSc f z v0 (fp, 0, nI p) k) := by
        unfold xSc xSb xSa
        rw [e2]
        exact Sty.tr (r := (nI p, 3, nI p + 1)) (fun _ => ⟨rfl, rfl⟩) ((sty_NB f z 0 (v0 - 1) 44 _).tr (sty_NB f z 1 20 59 _))
      rw [e1]
      exact xm_S_no hx (xm_no hz hp (show ¬ (3 : Int32) = 0 by decide) hs) (show ¬ (3 : Int32) = 0 by decide)
    · have g : sG0 (nT f z p, row) := ⟨h0, fun q => h6 (n6.mp q)⟩
      obtain ⟨p1, p2⟩ := k2 h0
      have eu : uT f z (nT f z p) = nT f z (p + 1) := by
        unfold uT
        rw [p2]
      have c2 : ¬ ¬ k < 6 := fun q => q (by omega)
      have e2 : xS0 f z (fp, 0, nI p) k = (fp, 0, nI p) := Eq.trans (if_neg c1) (if_neg c2)
      have e3 : xSa f z (fp, 0, nI p) k = (fp, 0, nI (p + 1)) := by
        unfold xSa
        rw [e2]
        show (fp, (0 : Int32), nI p + 1) = _
        rw [show nI p + 1 = nI (p + 1) from nI_add p 1]
      have ra : sRa (nT f z p, row) = upd (upd row (14 + k) (kindX (bAt f z (nI p)))) 4 (nI k + 1) := by
        unfold sRa
        show upd (upd row (14 + (row 4).toNatClampNeg) (kdM (nT f z p))) 4 (row 4 + 1) = _
        rw [r4, nI_clamp (by omega), k1]
      have c4 : (row 4).toNatClampNeg = k := by rw [r4, nI_clamp (by omega)]
      have hA : XP_ f z (xSb f z v0 (fp, 0, nI p) k) (nRr f z 0 (v0 - 1) (20 + k) 44 (nT f z (p + 1), sRa (nT f z p, row))) (fun t => t = upd (sRa (nT f z p, row)) (20 + k) (rV f z 0 (v0 - 1) (nI (p + 1)))) := by
        have hN := xm_N (f := f) (z := z) (p := p + 1) (ix := 20 + k) (lo := 0) (hi := v0 - 1) (c := 44) (fp := fp) (row := sRa (nT f z p, row)) hz (by omega) (by decide)
        unfold xSb
        rw [e3]
        exact hN
      have eR : sR f z (nT f z p, row) = mB (nRr f z 0 (v0 - 1) (20 + k) 44 (nT f z (p + 1), sRa (nT f z p, row))) (fun t => nRr f z 1 20 (32 + k) 59 t) := by
        have h := sR_eq (f := f) (z := z) g
        dsimp only at h
        rw [c4, r00, eu] at h
        exact h
      have hB : XP_ f z (xSc f z v0 (fp, 0, nI p) k) (sR f z (nT f z p, row)) (fun t => t = upd (upd (sRa (nT f z p, row)) (20 + k) (rV f z 0 (v0 - 1) (nI (p + 1)))) (32 + k) (rV f z 1 20 (xSb f z v0 (fp, 0, nI p) k).2.2)) := by
        rw [eR]
        unfold xSc
        generalize xSb f z v0 (fp, 0, nI p) k = B at hA ⊢
        generalize nRr f z 0 (v0 - 1) (20 + k) 44 (nT f z (p + 1), sRa (nT f z p, row)) = R at hA ⊢
        refine xp_bind hA (sty_NB f z 1 20 59 B) (fun fp2 p2_ row2 hp2 e hr2 => ?_)
        have hN := xm_N (f := f) (z := z) (p := p2_) (ix := 32 + k) (lo := 1) (hi := 20) (c := 59) (fp := fp2) (row := row2) hz hp2 (by decide)
        rw [e, ← hr2]
        exact hN
      by_cases q : (sR f z (nT f z p, row)).2 = 0
      · have q2 : (xSc f z v0 (fp, 0, nI p) k).2.1 = 0 := by
          rcases hB.1 with ⟨a, -⟩ | ⟨a, b_, -⟩
          · exact a
          · exact absurd (b_.symm.trans q) a
        have ex := xS_pos (f := f) (z := z) (c := v0) (q := (fp, 0, nI p)) (k := k) (g2 := g2) (g3 := g3) (g4 := g4) (g5 := g5) q2
        rw [e3] at ex
        dsimp only at ex
        rw [ex]
        have hx3 : upd (upd (sRa (nT f z p, row)) (20 + k) (rV f z 0 (v0 - 1) (nI (p + 1)))) (32 + k) (rV f z 1 20 (xSb f z v0 (fp, 0, nI p) k).2.2) = nrm v0 v1 v2 1 0 0 w (k + 1) g1 (upd g2 k (kindX (bAt f z (nI p)))) (upd g3 k (rV f z 0 (v0 - 1) (nI (p + 1)))) (upd g4 k (rV f z 1 20 (xSb f z v0 (fp, 0, nI p) k).2.2)) (upd g5 k 0) := by
          rw [ra, hr]
          exact nrm_s (by omega)
        exact xm_S_fin hB.1 (fun _ => (hB.2 q).trans hx3) (by omega)
      · exact xm_S_no hx hB.1 q
theorem end_iff {p : Nat} (hz : z ≤ 120) (hp : p ≤ z) (hT : okT f z) : (nT f z p).1 = 3 ↔ bAt f z (nI p) = -1 := by
  rcases nT_cases (f := f) hz hp with ⟨-, -, ⟨V, e, -⟩, g⟩ | ⟨-, g, e, b⟩ | ⟨-, -, e, b⟩
  · rw [e]
    constructor
    · intro h
      exfalso
      have h : (if figX f z (nI p) 120 0 ≤ 2 then (2 : Int32) else 0) = 3 := h
      split at h
      · exact absurd h (by decide)
      · exact absurd h (by decide)
    · intro h
      exact absurd h (fig_n g).2.2
  · rw [e, b]
    constructor
    · intro h
      exfalso
      have h : (if tokL (f p) then (1 : Int32) else 0) = 3 := h
      split at h
      · exact absurd h (by decide)
      · exact absurd h (by decide)
    · intro h
      exact absurd h (hT p g)
  · rw [e, b]
    exact ⟨fun _ => rfl, fun _ => rfl⟩
theorem xm_Ss (hz : z ≤ 120) (hT : okT f z) : ∀ (n : Nat) (s : TS) (r : MR), 1 ≤ s.2.1 ∨ ¬ r.2 = 0 → XMS f z v0 v1 v2 w g1 s r → XMS f z v0 v1 v2 w g1 (xSs f z v0 n s) (sL f z n r)
  | 0, _, _, _, h => h
  | n + 1, ⟨⟨fp, ft, kk⟩, k, g2, g3, g4, g5⟩, ⟨⟨u, row⟩, e⟩, hk, h => by
    obtain ⟨h1, h2⟩ := id h
    rcases h1 with ⟨a1, a2, p, a3, a4, a5⟩ | ⟨a1, a2, a3⟩
    · have a1 : ft = 0 := a1
      have a2 : e = 0 := a2
      have a4 : kk = nI p := a4
      have a5 : u = nT f z p := a5
      subst a1 a2 a4 a5
      obtain ⟨b1, b2⟩ := h2 rfl
      have b2 : k ≤ 6 := b2
      have b1 : row = nrm v0 v1 v2 1 0 0 w k g1 g2 g3 g4 g5 := b1
      have k1 : 1 ≤ k := hk.resolve_right (fun q => q rfl)
      have r4 : ¬ row 4 = 0 := by
        rw [b1, nrm4]
        exact nI_ne0 k1 (by omega)
      have hE := end_iff (f := f) hz a3 hT
      by_cases q : bAt f z (nI p) = -1
      · have c1 : ¬ xSg f z ((fp, 0, nI p), k, g2, g3, g4, g5) := fun t => t.2 q
        have c2 : ¬ sLg ((nT f z p, row), 0) := fun t => t.2 ⟨hE.mpr q, r4⟩
        rw [xSs_stop c1, sL_stop c2]
        exact h
      · have c1 : xSg f z ((fp, 0, nI p), k, g2, g3, g4, g5) := ⟨rfl, q⟩
        have c2 : sLg ((nT f z p, row), 0) := ⟨rfl, fun t => q (hE.mp t.1)⟩
        rw [xSs_go (Nat.succ_pos n) c1, sL_go (Nat.succ_pos n) c2, Nat.succ_sub_one]
        have hS := xm_S (f := f) (z := z) (v0 := v0) (v1 := v1) (v2 := v2) (w := w) (g1 := g1) (p := p) (k := k) (fp := fp) (g2 := g2) (g3 := g3) (g4 := g4) (g5 := g5) (row := row) hz a3 b2 b1
        exact xm_Ss hz hT n _ _ (Or.inl (xS_k f z v0 ((fp, 0, nI p), k, g2, g3, g4, g5) k1)) hS
    · rw [xSs_stop (fun q => a1 q.1), sL_stop (fun q => a1 (a2.symm.trans q.1))]
      exact h
/-- the two ways of reading -/
theorem xm_read (hz : z ≤ 120) (hT : okT f z) (g1 g2 g3 g4 g5 : Nat → Int32) : XMS f z (xL0 f z (0, 0, 0)) (xL1 f z (0, 0, 0)) (xL2 f z (0, 0, 0)) (xRw f z g1).2.1 (xRw f z g1).2.2 (xRs f z g1 g2 g3 g4 g5) (rR f z) := by
  have h1 := xm_law (f := f) hz g1 g2 g3 g4 g5
  unfold xRs xRw rR lRe
  generalize xL0 f z (0, 0, 0) = v0 at h1 ⊢
  generalize xL1 f z (0, 0, 0) = v1 at h1 ⊢
  generalize xL2 f z (0, 0, 0) = v2 at h1 ⊢
  generalize xLc f z (0, 0, 0) = q0 at h1 ⊢
  generalize lRd f z = rd at h1 ⊢
  have h2 : XMW f z v0 v1 v2 g2 g3 g4 g5 (xW f z (q0, 0, g1)) (mB rd (fun s => wR f z s)) := by
    unfold XMW
    refine xp_bind h1 (sty_W f z (q0, 0, g1)) (fun fp p row hp e hr => ?_)
    rw [e]
    exact xm_W (f := f) (z := z) (v0 := v0) (v1 := v1) (v2 := v2) (p := p) (w := 0) (fp := fp) (g1 := g1) (g2 := g2) (g3 := g3) (g4 := g4) (g5 := g5) (row := row) hz hp (by decide) hr
  have h3 : XMW f z v0 v1 v2 g2 g3 g4 g5 (xWs f z 6 (xW f z (q0, 0, g1))) (wL f z 6 (mB rd (fun s => wR f z s))) := xm_Ws hz 6 _ _ h2
  generalize xWs f z 6 (xW f z (q0, 0, g1)) = W at h3 ⊢
  generalize wL f z 6 (mB rd (fun s => wR f z s)) = R at h3 ⊢
  obtain ⟨⟨fp, ft, kk⟩, w, gw⟩ := W
  obtain ⟨⟨u, row⟩, e⟩ := R
  obtain ⟨a, b⟩ := id h3
  rcases a with ⟨a1, a2, p, a3, a4, a5⟩ | ⟨a1, a2, a3⟩
  · have a1 : ft = 0 := a1
    have a2 : e = 0 := a2
    have a4 : kk = nI p := a4
    have a5 : u = nT f z p := a5
    subst a1 a2 a4 a5
    obtain ⟨b1, b2⟩ := b rfl
    have b1 : row = nrm v0 v1 v2 1 0 0 w 0 gw g2 g3 g4 g5 := b1
    have r4 : row 4 = 0 := by rw [b1]; exact nrm4
    have c2 : sLg ((nT f z p, row), 0) := ⟨rfl, fun t => t.2 r4⟩
    rw [sL_go (n := 7) (by decide) c2]
    have hS := xm_S (f := f) (z := z) (v0 := v0) (v1 := v1) (v2 := v2) (w := w) (g1 := gw) (p := p) (k := 0) (fp := fp) (g2 := g2) (g3 := g3) (g4 := g4) (g5 := g5) (row := row) hz a3 (by decide) b1
    have hp : 1 ≤ (xS f z v0 ((fp, 0, nI p), 0, g2, g3, g4, g5)).2.1 ∨ ¬ (sR f z (nT f z p, row)).2 = 0 := by
      by_cases t : (sR f z (nT f z p, row)).2 = 0
      · obtain ⟨hX, -⟩ := hS
        generalize sR f z (nT f z p, row) = R at hX t ⊢
        left
        rcases hX with ⟨c1, -⟩ | ⟨c1, c2, -⟩
        · exact xS_k1 f z v0 ((fp, 0, nI p), 0, g2, g3, g4, g5) c1
        · exact absurd (c2.symm.trans t) c1
      · exact Or.inr t
    dsimp only
    exact xm_Ss hz hT 6 _ _ hp hS
  · have a1 : ¬ ft = 0 := a1
    have a2 : e = ft := a2
    have a3 : fp = u.2.2.1 := a3
    have c2 : ¬ sLg ((u, row), e) := fun q => a1 (a2.symm.trans q.1)
    rw [sL_stop c2]
    exact xm_S_flt (q := (fp, ft, kk)) (sty_SS f z v0 6 ((fp, ft, kk), 0, g2, g3, g4, g5)) a1 a2 a3
/-- what the class answers, and its fault -/
theorem lv_ans (hz : z ≤ 120) (hT : okT f z) (g1 g2 g3 g4 g5 : Nat → Int32) : ((xRs f z g1 g2 g3 g4 g5).1.2.1 = 0 → nI (xRs f z g1 g2 g3 g4 g5).2.1 = lvA f z ∧ ∀ lf : Int32, lf = lvF f z lf) ∧ (¬ (xRs f z g1 g2 g3 g4 g5).1.2.1 = 0 → -1000100 - (xRs f z g1 g2 g3 g4 g5).1.1 = lvA f z ∧ ∀ lf : Int32, (xRs f z g1 g2 g3 g4 g5).1.2.1 = lvF f z lf) := by
  have h := xm_read hz hT g1 g2 g3 g4 g5
  unfold lvA lvF
  generalize xRs f z g1 g2 g3 g4 g5 = X at h ⊢
  generalize rR f z = R at h ⊢
  obtain ⟨a, b⟩ := h
  rcases a with ⟨a1, a2, -⟩ | ⟨a1, a2, a3⟩
  · refine ⟨fun _ => ⟨?_, fun lf => (if_pos a2).symm⟩, fun q => absurd a1 q⟩
    obtain ⟨b1, -⟩ := b a2
    exact ((if_pos a2).trans ((congrFun b1 4).trans nrm4)).symm
  · have n2 : ¬ R.2 = 0 := fun q => a1 (a2.symm.trans q)
    refine ⟨fun q => absurd q a1, fun _ => ⟨?_, fun lf => ?_⟩⟩
    · exact (congrArg (fun t => -1000100 - t) a3).trans (if_neg n2).symm
    · exact a2.symm.trans (if_neg n2).symm
/-- the level that is read -/
theorem lv_row (hz : z ≤ 120) (hT : okT f z) (g1 g2 g3 g4 g5 : Nat → Int32) : ((xRs f z g1 g2 g3 g4 g5).1.2.1 = 0 ↔ (rR f z).2 = 0) ∧ ((rR f z).2 = 0 → (rR f z).1.2 = nrm (xL0 f z (0, 0, 0)) (xL1 f z (0, 0, 0)) (xL2 f z (0, 0, 0)) 1 0 0 (xRw f z g1).2.1 (xRs f z g1 g2 g3 g4 g5).2.1 (xRw f z g1).2.2 (xRs f z g1 g2 g3 g4 g5).2.2.1 (xRs f z g1 g2 g3 g4 g5).2.2.2.1 (xRs f z g1 g2 g3 g4 g5).2.2.2.2.1 (xRs f z g1 g2 g3 g4 g5).2.2.2.2.2) := by
  obtain ⟨a, b⟩ := xm_read hz hT g1 g2 g3 g4 g5
  refine ⟨?_, fun q => (b q).1⟩
  rcases a with ⟨a1, a2, -⟩ | ⟨a1, a2, -⟩
  · exact ⟨fun _ => a2, fun _ => a1⟩
  · exact ⟨fun q => absurd q a1, fun q => absurd (a2.symm.trans q) a1⟩
end TWOS
section RDOK
variable {f : Nat → Int32} {z : Nat}
theorem rngN {v L U : Int32} {l u : Nat} (hL : L.toInt = l) (hU : U.toInt = u) (h : ¬ (v < L ∨ U < v)) (hu : u < 2 ^ 30) : ∃ j : Nat, l ≤ j ∧ j ≤ u ∧ v = nI j := by
  have h1 : ¬ v < L := fun q => h (Or.inl q)
  have h2 : ¬ U < v := fun q => h (Or.inr q)
  rw [Int32.lt_iff_toInt_lt, hL] at h1
  rw [Int32.lt_iff_toInt_lt, hU] at h2
  obtain ⟨j, hj, rfl⟩ := nat_of (x := v) (n := u + 1) (by omega) (by omega) (by omega)
  rw [nI_toInt (by omega)] at h1
  exact ⟨j, by omega, by omega, rfl⟩
theorem mB_0 {r : MR} {k : MS → MR} (h : (mB r k).2 = 0) : r.2 = 0 ∧ mB r k = k r.1 := by
  unfold mB at h ⊢
  split at h
  · rename_i q
    exact ⟨q, if_pos q⟩
  · rename_i q
    exact absurd h q
theorem nRr_0 {lo hi c : Int32} {ix : Nat} {s : MS} (h : (nRr f z lo hi ix c s).2 = 0) : ∃ v : Int32, ¬ (v < lo ∨ hi < v) ∧ (nRr f z lo hi ix c s).1.2 = upd s.2 ix v := by
  have g : nGG f z lo hi c s.1 := by
    refine Decidable.byContradiction (fun q => ?_)
    have h2 : (nRr f z lo hi ix c s).2 = nE lo hi s.1 := if_neg q
    exact nE_nz _ _ _ (h2.symm.trans h)
  exact ⟨s.1.2.1, g.1.2, if_pos g.1⟩
theorem wR_0 {s : MS} (h : (wR f z s).2 = 0) : ¬ s.2 3 = 6 ∧ ∃ v : Int32, ¬ (v < 0 ∨ 4 < v) ∧ (wR f z s).1.2 = upd (upd s.2 3 (s.2 3 + 1)) (8 + (s.2 3).toNatClampNeg) v := by
  have g : wGG f z s := by
    refine Decidable.byContradiction (fun q => ?_)
    have h2 : (wR f z s).2 = wE f z s := if_neg q
    exact wE_nz _ _ _ (h2.symm.trans h)
  refine ⟨g.1.2, (uT f z s.1).2.1, g.2.1.2, ?_⟩
  show (wS f z s).2 = _
  unfold wS
  rw [if_pos g.1]
  exact if_pos g.2.1
theorem sR_0 {s : MS} (h : (sR f z s).2 = 0) : sG0 s ∧ ∃ v v2 : Int32, ¬ (v < 0 ∨ s.2 0 - 1 < v) ∧ ¬ (v2 < 1 ∨ 20 < v2) ∧ (sR f z s).1.2 = upd (upd (sRa s) (20 + (s.2 4).toNatClampNeg) v) (32 + (s.2 4).toNatClampNeg) v2 := by
  have g : sGG f z s := by
    refine Decidable.byContradiction (fun q => ?_)
    have h2 : (sR f z s).2 = sE f z s := if_neg q
    exact sE_nz _ _ _ (h2.symm.trans h)
  obtain ⟨g0, g1, g2⟩ := g
  refine ⟨g0, (uT f z s.1).2.1, (sUb f z s).2.1, g1.1.2, g2.1.2, ?_⟩
  have e1 : sRb f z s = upd (sRa s) (20 + (s.2 4).toNatClampNeg) (uT f z s.1).2.1 := if_pos g1.1
  show (sS f z s).2 = _
  unfold sS
  rw [if_pos g0, if_pos g1, ← e1]
  exact if_pos g2.1
theorem kindX_n {x : Int32} (h : ¬ kindX x = 0) : ∃ a : Nat, 1 ≤ a ∧ a ≤ 5 ∧ kindX x = nI a := by
  unfold kindX at h ⊢
  split
  · exact ⟨1, by decide, by decide, rfl⟩
  · split
    · exact ⟨2, by decide, by decide, rfl⟩
    · split
      · exact ⟨3, by decide, by decide, rfl⟩
      · split
        · exact ⟨4, by decide, by decide, rfl⟩
        · split
          · exact ⟨5, by decide, by decide, rfl⟩
          · rename_i h1 h2 h3 h4 h5
            rw [if_neg h1, if_neg h2, if_neg h3, if_neg h4, if_neg h5] at h
            exact absurd rfl h
theorem kdM_n {u : MU} (h : ¬ kdM u = 0) : ∃ a : Nat, 1 ≤ a ∧ a ≤ 5 ∧ kdM u = nI a := by
  unfold kdM at h ⊢
  split
  · rename_i q
    rw [if_pos q] at h
    exact kindX_n h
  · rename_i q
    rw [if_neg q] at h
    exact absurd rfl h
noncomputable def rdS (k : Nat) (row : RF) : Prop := ∃ (c m re w : Nat) (g1 g2 g3 g4 g5 : RF), row = nrm (nI c) (nI m) (nI re) 1 0 0 w k g1 g2 g3 g4 g5 ∧ (5 ≤ c ∧ c ≤ 15 ∧ m < c ∧ re ≤ 4 ∧ w ≤ 6 ∧ k ≤ 6) ∧ (∀ i : Nat, i < w → ∃ x : Nat, x ≤ 4 ∧ g1 i = nI x) ∧ (∀ i : Nat, i < k → ∃ a p q l : Nat, (g2 i = nI a ∧ g3 i = nI p ∧ g5 i = nI q ∧ g4 i = nI l) ∧ 1 ≤ a ∧ a ≤ 5 ∧ p < c ∧ q ≤ 2 ∧ 1 ≤ l ∧ l ≤ 20)
theorem lRd_0 (h : (lRd f z).2 = 0) : (lRc f z).2 = 0 ∧ lRd f z = nRr f z 0 4 2 59 (lRc f z).1 := mB_0 (r := lRc f z) (k := fun s => nRr f z 0 4 2 59 s) h
theorem lRc_0 (h : (lRc f z).2 = 0) : (lRb f z).2 = 0 ∧ lRc f z = nRr f z 0 ((lRb f z).1.2 0 - 1) 1 44 (lRb f z).1 := mB_0 (r := lRb f z) (k := fun s => nRr f z 0 (s.2 0 - 1) 1 44 s) h
theorem lRb_0 (h : (lRb f z).2 = 0) : (lRa f z).2 = 0 ∧ lRb f z = nRr f z 5 15 0 44 (lRa f z).1 := mB_0 (r := lRa f z) (k := fun s => nRr f z 5 15 0 44 s) h
theorem lRa_r : (lRa f z).1.2 = r0 := by
  unfold lRa kR
  rfl
theorem rd_law (h : (lRd f z).2 = 0) : rdS 0 (lRd f z).1.2 ∧ (lRd f z).1.2 3 = nI 0 := by
  obtain ⟨h1, e1⟩ := lRd_0 h
  obtain ⟨h3, e3⟩ := lRc_0 h1
  obtain ⟨h5, e5⟩ := lRb_0 h3
  have ra := lRa_r (f := f) (z := z)
  generalize lRd f z = D at h e1 ⊢
  generalize lRc f z = C at h1 e1 e3
  generalize lRb f z = B at h3 e3 e5
  generalize lRa f z = A at e5 ra
  rw [e1] at h
  rw [e3] at h1
  rw [e5] at h3
  obtain ⟨v2, b2, r2⟩ := nRr_0 h
  obtain ⟨v1, b1, r1⟩ := nRr_0 h1
  obtain ⟨v0, b0, r0_⟩ := nRr_0 h3
  rw [← e1] at r2
  rw [← e3] at r1
  rw [← e5] at r0_
  rw [ra] at r0_
  rw [r0_] at b1 r1
  rw [r1] at r2
  have e0 : upd r0 0 v0 0 = v0 := pk_us
  rw [e0] at b1
  obtain ⟨c, c1, c2, rfl⟩ := rngN (v := v0) (L := 5) (U := 15) (l := 5) (u := 15) rfl rfl b0 (by decide)
  have ec : nI c - 1 = nI (c - 1) := pk_sub (b := 1) (by omega)
  rw [ec] at b1
  obtain ⟨m, m1, m2, rfl⟩ := rngN (v := v1) (L := 0) (U := nI (c - 1)) (l := 0) (u := c - 1) rfl (nI_toInt (by omega)) b1 (by omega)
  obtain ⟨re, d1, d2, rfl⟩ := rngN (v := v2) (L := 0) (U := 4) (l := 0) (u := 4) rfl rfl b2 (by decide)
  have er := r2.trans (nrm_0 (g1 := fun _ => 0) (g2 := fun _ => 0) (g3 := fun _ => 0) (g4 := fun _ => 0) (g5 := fun _ => 0))
  exact ⟨⟨c, m, re, 0, _, _, _, _, _, er, ⟨c1, c2, by omega, d2, by decide, by decide⟩, fun i hi => absurd hi (Nat.not_lt_zero i), fun i hi => absurd hi (Nat.not_lt_zero i)⟩, (congrFun er 3).trans nrm3⟩
theorem rd_wind {s : MS} (hs : rdS 0 s.2) (h : (wR f z s).2 = 0) : rdS 0 (wR f z s).1.2 ∧ ∃ w : Nat, 1 ≤ w ∧ w ≤ 6 ∧ (wR f z s).1.2 3 = nI w := by
  obtain ⟨n6, v, b, e⟩ := wR_0 h
  obtain ⟨c, m, re, w, g1, g2, g3, g4, g5, er, B, W, S⟩ := hs
  obtain ⟨x, -, x2, rfl⟩ := rngN (v := v) (L := 0) (U := 4) (l := 0) (u := 4) rfl rfl b (by decide)
  have e3 : s.2 3 = nI w := by rw [er]; rfl
  have hw : w < 6 := by
    rcases Nat.lt_or_ge w 6 with q | q
    · exact q
    · have : w = 6 := by omega
      exact absurd (by rw [e3, this]; rfl) n6
  rw [e3, nI_clamp (by omega), er, nrm_w hw] at e
  refine ⟨⟨c, m, re, w + 1, _, _, _, _, _, e, ⟨B.1, B.2.1, B.2.2.1, B.2.2.2.1, by omega, B.2.2.2.2.2⟩, fun i hi => ?_, S⟩, w + 1, by omega, by omega, by rw [e]; rfl⟩
  by_cases q : i = w
  · rw [q, pk_us]
    exact ⟨x, x2, rfl⟩
  · rw [pk_un q]
    exact W i (by omega)
theorem rd_winds : ∀ (n : Nat) (r : MR), (r.2 = 0 → rdS 0 r.1.2 ∧ ∃ w : Nat, 1 ≤ w ∧ w ≤ 6 ∧ r.1.2 3 = nI w) → (wL f z n r).2 = 0 → rdS 0 (wL f z n r).1.2 ∧ ∃ w : Nat, 1 ≤ w ∧ w ≤ 6 ∧ (wL f z n r).1.2 3 = nI w
  | 0, _, hr, h => hr h
  | n + 1, r, hr, h => by
    by_cases q : wLg r
    · rw [wL_go (by omega) q] at h ⊢
      exact rd_winds n _ (fun h2 => rd_wind (hr q.1).1 h2) h
    · rw [wL_stop q] at h ⊢
      exact hr h
theorem rd_sound {s : MS} {k w : Nat} (hw1 : 1 ≤ w) (hs : rdS k s.2) (e3 : s.2 3 = nI w) (hw6 : w ≤ 6) (h : (sR f z s).2 = 0) : rdS (k + 1) (sR f z s).1.2 ∧ (sR f z s).1.2 3 = nI w := by
  obtain ⟨g0, v, v2, b, b2, e⟩ := sR_0 h
  obtain ⟨c, m, re, w_, g1, g2, g3, g4, g5, er, B, W, S⟩ := hs
  obtain ⟨a, a1, a2, ea⟩ := kdM_n g0.1
  have e4 : s.2 4 = nI k := by rw [er]; rfl
  have e0 : s.2 0 = nI c := by rw [er]; rfl
  have hk : k < 6 := by
    rcases Nat.lt_or_ge k 6 with q | q
    · exact q
    · have : k = 6 := by omega
      exact absurd (by rw [e4, this]; rfl) g0.2
  have ec : nI c - 1 = nI (c - 1) := pk_sub (b := 1) (by omega)
  rw [e0, ec] at b
  obtain ⟨p, -, p2, rfl⟩ := rngN (v := v) (L := 0) (U := nI (c - 1)) (l := 0) (u := c - 1) rfl (nI_toInt (by omega)) b (by omega)
  obtain ⟨l, l1, l2, rfl⟩ := rngN (v := v2) (L := 1) (U := 20) (l := 1) (u := 20) rfl rfl b2 (by decide)
  unfold sRa at e
  rw [e4, nI_clamp (by omega), ea, er, nrm_s hk] at e
  have ew : w_ = w := by
    rw [er] at e3
    exact (nI_eq (by omega) (by omega)).mp e3
  subst ew
  refine ⟨⟨c, m, re, w_, _, _, _, _, _, e, ⟨B.1, B.2.1, B.2.2.1, B.2.2.2.1, B.2.2.2.2.1, by omega⟩, W, fun i hi => ?_⟩, by rw [e]; rfl⟩
  by_cases q : i = k
  · rw [q, pk_us, pk_us, pk_us, pk_us]
    exact ⟨a, p, 0, l, ⟨rfl, rfl, rfl, rfl⟩, a1, a2, by omega, by decide, l1, l2⟩
  · rw [pk_un q, pk_un q, pk_un q, pk_un q]
    exact S i (by omega)
theorem rd_sounds {w : Nat} (hw1 : 1 ≤ w) (hw6 : w ≤ 6) : ∀ (n : Nat) (r : MR), (r.2 = 0 → ∃ k : Nat, 1 ≤ k ∧ rdS k r.1.2 ∧ r.1.2 3 = nI w) → (sL f z n r).2 = 0 → ∃ k : Nat, 1 ≤ k ∧ rdS k (sL f z n r).1.2 ∧ (sL f z n r).1.2 3 = nI w
  | 0, _, hr, h => hr h
  | n + 1, r, hr, h => by
    by_cases q : sLg r
    · rw [sL_go (by omega) q] at h ⊢
      refine rd_sounds hw1 hw6 n _ (fun h2 => ?_) h
      obtain ⟨k, -, k1, k2⟩ := hr q.1
      obtain ⟨a, b⟩ := rd_sound hw1 k1 k2 hw6 h2
      exact ⟨k + 1, by omega, a, b⟩
    · rw [sL_stop q] at h ⊢
      exact hr h
theorem rd_ok (h : (rR f z).2 = 0) : okN 999 (rR f z).1.2 := by
  have hW : (wL f z 6 (lRe f z)).2 = 0 → rdS 0 (wL f z 6 (lRe f z)).1.2 ∧ ∃ w : Nat, 1 ≤ w ∧ w ≤ 6 ∧ (wL f z 6 (lRe f z)).1.2 3 = nI w := by
    refine rd_winds 6 _ (fun h2 => ?_)
    obtain ⟨a, b⟩ := mB_0 (r := lRd f z) h2
    unfold lRe at h2 ⊢
    rw [b] at h2 ⊢
    exact rd_wind (rd_law a).1 h2
  have key : ∃ w : Nat, 1 ≤ w ∧ w ≤ 6 ∧ ∃ k : Nat, 1 ≤ k ∧ rdS k (rR f z).1.2 ∧ (rR f z).1.2 3 = nI w := by
    unfold rR at h ⊢
    generalize wL f z 6 (lRe f z) = r at h hW ⊢
    by_cases q : r.2 = 0
    · obtain ⟨a, w, w1, w2, w3⟩ := hW q
      have r4 : r.1.2 4 = 0 := by
        obtain ⟨c, m, re, w_, g1, g2, g3, g4, g5, er, -⟩ := a
        rw [er]
        rfl
      have g : sLg r := ⟨q, fun t => t.2 r4⟩
      rw [sL_go (by decide) g] at h ⊢
      refine ⟨w, w1, w2, rd_sounds w1 w2 6 _ (fun h2 => ?_) h⟩
      obtain ⟨x, y⟩ := rd_sound w1 a w3 w2 h2
      exact ⟨1, by decide, x, y⟩
    · rw [sL_stop (fun t => q t.1)] at h
      exact absurd h q
  obtain ⟨w, w1, w2, k, k1, ⟨c, m, re, w_, g1, g2, g3, g4, g5, er, B, W, S⟩, e3⟩ := key
  have ew : w_ = w := by
    rw [er] at e3
    exact (nI_eq (by omega) (by omega)).mp e3
  subst ew
  refine ⟨_, _, _, _, _, _, _, _, _, _, _, _, _, er, by decide, B.2.2.2.2.1, B.2.2.2.2.2, ?_⟩
  rw [er]
  exact okRow_of (ca := 1) (me := 0) ⟨rfl, rfl, rfl, rfl, rfl⟩ ⟨B.1, B.2.1, B.2.2.1, B.2.2.2.1, w1, k1, by decide, by decide, by decide⟩ B.2.2.2.2.1 B.2.2.2.2.2 W S
theorem ok_lev {Lv I0 I1 : RF} {An : Nat} {Ac : AC} (hs : okS Lv An Ac I0 I1) : okS (n_lev ((rR f z).2 = 0) (rR f z).1.2 Lv) (n_levN ((rR f z).2 = 0) An) (n_levA ((rR f z).2 = 0) Ac) I0 I1 := by
  unfold n_lev n_levN n_levA
  by_cases q : (rR f z).2 = 0
  · rw [if_pos q, if_pos q, if_pos q]
    exact ⟨Or.inr (rd_ok q), by decide, fun k hk => absurd hk (Nat.not_lt_zero k), hs.2.2.2.1, hs.2.2.2.2⟩
  · rw [if_neg q, if_neg q, if_neg q]
    exact hs
end RDOK

