/-! the two ways of reading are one -/
theorem bAt_nI {f : Nat → Int32} {z p : Nat} (hz : z ≤ 120) (hp : p ≤ 1000) : bAt f z (nI p) = if p < z then f p else -1 := by
  unfold bAt
  by_cases h : p < z
  · rw [if_neg (by rintro (q | q); exact nI_pos (by omega) q; exact nI_ge h (by omega) q), if_pos h, nI_clamp (by omega)]
  · rw [if_pos (Or.inr (nI_le (by omega) (by omega))), if_neg h]
noncomputable def figN (f : Nat → Int32) (z : Nat) : Nat → Nat → Nat
  | 0, _ => 0
  | n + 1, p => if p < z ∧ isFig (f p) then figN f z n (p + 1) + 1 else 0
theorem fig_if {f : Nat → Int32} {z p : Nat} : isFig (if p < z then f p else -1) ↔ p < z ∧ isFig (f p) := by
  by_cases h : p < z
  · rw [if_pos h]
    exact ⟨fun q => ⟨h, q⟩, fun q => q.2⟩
  · rw [if_neg h]
    exact ⟨fun q => absurd (show (-1 : Int32) < 48 by decide) q.1, fun q => absurd q.1 h⟩
theorem figX_N {f : Nat → Int32} {z : Nat} (hz : z ≤ 120) : ∀ n i p : Nat, p + i + n ≤ 1000 → figX f z (nI p) n i = figN f z n (p + i)
  | 0, _, _, _ => rfl
  | n + 1, i, p, h => by
    have ih := figX_N (f := f) hz n (i + 1) p (by omega)
    show (if isFig (bAt f z (nI p + nI i)) then figX f z (nI p) n (i + 1) + 1 else 0) = (if p + i < z ∧ isFig (f (p + i)) then figN f z n (p + i + 1) + 1 else 0)
    rw [nI_add, bAt_nI hz (by omega), ih]
    by_cases q : p + i < z ∧ isFig (f (p + i))
    · rw [if_pos (fig_if.mpr q), if_pos q]
      rfl
    · rw [if_neg (fun r => q (fig_if.mp r)), if_neg q]
theorem figN_fuel {f : Nat → Int32} {z : Nat} : ∀ n p : Nat, z - p ≤ n → figN f z n p = figN f z (z - p) p
  | 0, p, h => by rw [show z - p = 0 by omega]
  | n + 1, p, h => by
    by_cases q : p < z
    · have ih := figN_fuel (f := f) (z := z) n (p + 1) (by omega)
      rw [show z - p = (z - (p + 1)) + 1 by omega]
      show (if p < z ∧ isFig (f p) then figN f z n (p + 1) + 1 else 0) = (if p < z ∧ isFig (f p) then figN f z (z - (p + 1)) (p + 1) + 1 else 0)
      rw [ih]
    · rw [show z - p = 0 by omega]
      exact if_neg (fun r => q r.1)
theorem figN_le {f : Nat → Int32} {z : Nat} : ∀ n p : Nat, p ≤ z → p + figN f z n p ≤ z
  | 0, p, h => h
  | n + 1, p, h => by
    have ih := figN_le (f := f) (z := z) n (p + 1)
    unfold figN
    split
    · rename_i q
      have := ih q.1
      omega
    · exact h
theorem dgM_2 {f : Nat → Int32} {z : Nat} : ∀ (n : Nat) (v : Int32) (p : Nat), (dgM f z n v p).2 = p + figN f z n p
  | 0, _, _ => rfl
  | n + 1, v, p => by
    unfold dgM figN
    split
    · rw [dgM_2 n]
      omega
    · rfl
theorem dgM_0 {f : Nat → Int32} {z n p : Nat} {v : Int32} (h : figN f z n p = 0) : dgM f z n v p = (v, p) := by
  cases n with
  | zero => rfl
  | succ n =>
    refine dgM_stop (fun q => ?_)
    unfold figN at h
    rw [if_pos q] at h
    omega
theorem figN_p {f : Nat → Int32} {z n p : Nat} (h : 0 < figN f z n p) : ∃ m : Nat, n = m + 1 ∧ (p < z ∧ isFig (f p)) ∧ figN f z n p = figN f z m (p + 1) + 1 := by
  cases n with
  | zero => exact absurd h (Nat.lt_irrefl 0)
  | succ n =>
    unfold figN at h
    split at h
    · rename_i q
      exact ⟨n, rfl, q, if_pos q⟩
    · exact absurd h (Nat.lt_irrefl 0)
theorem fig_r {x : Int32} (h : isFig x) : ∃ j : Nat, 48 ≤ j ∧ j ≤ 57 ∧ x = nI j := by
  obtain ⟨h1, h2⟩ := h
  rw [Int32.lt_iff_toInt_lt] at h1 h2
  have e1 : (48 : Int32).toInt = 48 := rfl
  have e2 : (57 : Int32).toInt = 57 := rfl
  rw [e1] at h1
  rw [e2] at h2
  obtain ⟨j, hj, rfl⟩ := nI_of (x := x) (by
    rw [Int32.lt_iff_toInt_lt]
    have e3 : (0 : Int32).toInt = 0 := rfl
    omega)
  rw [nI_toInt hj] at h1 h2
  exact ⟨j, by omega, by omega, rfl⟩
theorem fig_99 {x : Int32} (h : isFig x) : (10 * 0 + x - 48 : Int32) ≤ 99 := by
  obtain ⟨j, h1, h2, rfl⟩ := fig_r h
  rcases (show j = 48 ∨ j = 49 ∨ j = 50 ∨ j = 51 ∨ j = 52 ∨ j = 53 ∨ j = 54 ∨ j = 55 ∨ j = 56 ∨ j = 57 by omega) with rfl | rfl | rfl | rfl | rfl | rfl | rfl | rfl | rfl | rfl <;> decide
theorem fig_n {x : Int32} (h : isFig x) : ¬ tokL x ∧ kindX x = 0 ∧ ¬ x = -1 := by
  obtain ⟨j, h1, h2, rfl⟩ := fig_r h
  rcases (show j = 48 ∨ j = 49 ∨ j = 50 ∨ j = 51 ∨ j = 52 ∨ j = 53 ∨ j = 54 ∨ j = 55 ∨ j = 56 ∨ j = 57 by omega) with rfl | rfl | rfl | rfl | rfl | rfl | rfl | rfl | rfl | rfl <;> decide
theorem dgM_v {f : Nat → Int32} {z n p : Nat} (hz : z ≤ 120) (hp : p ≤ 120) (h0 : 0 < figN f z n p) (h2 : figN f z n p ≤ 2) : (dgM f z n 0 p).1 = numX f z (nI p) (figN f z n p) := by
  obtain ⟨m, rfl, q, e⟩ := figN_p h0
  rw [dgM_go (by omega) q, if_pos (by decide), Nat.add_sub_cancel]
  have b0 : bAt f z (nI p + nI 0) = f p := by
    rw [nI_add, bAt_nI hz (by omega), if_pos (by omega)]
    rfl
  by_cases h1 : figN f z m (p + 1) = 0
  · rw [dgM_0 h1, e, h1]
    show (10 * 0 + f p - 48 : Int32) = numX f z (nI p) 0 * 10 + bAt f z (nI p + nI 0) - 48
    rw [b0]
    rfl
  · obtain ⟨m2, rfl, q2, e2⟩ := figN_p (show 0 < figN f z m (p + 1) by omega)
    have h3 : figN f z m2 (p + 1 + 1) = 0 := by omega
    have b1 : bAt f z (nI p + nI 1) = f (p + 1) := by
      rw [nI_add, bAt_nI hz (by omega), if_pos (by omega)]
    rw [dgM_go (by omega) q2, if_pos (fig_99 q.2), Nat.add_sub_cancel, dgM_0 h3, e, e2, h3]
    show (10 * (10 * 0 + f p - 48) + f (p + 1) - 48 : Int32) = (numX f z (nI p) 0 * 10 + bAt f z (nI p + nI 0) - 48) * 10 + bAt f z (nI p + nI 1) - 48
    rw [b0, b1, Int32.mul_comm 10]
    rfl
/-- what stands at a place -/
theorem nT_cases {f : Nat → Int32} {z p : Nat} (hz : z ≤ 120) (hp : p ≤ z) :
    (1 ≤ figX f z (nI p) 120 0 ∧ p + figX f z (nI p) 120 0 ≤ z ∧ (∃ V : Int32, nT f z p = (if figX f z (nI p) 120 0 ≤ 2 then 2 else 0, V, nI p, p + figX f z (nI p) 120 0) ∧ (figX f z (nI p) 120 0 ≤ 2 → V = numX f z (nI p) (figX f z (nI p) 120 0))) ∧ isFig (bAt f z (nI p)))
    ∨ (figX f z (nI p) 120 0 = 0 ∧ p < z ∧ nT f z p = (if tokL (f p) then 1 else 0, f p, nI p, p + 1) ∧ bAt f z (nI p) = f p)
    ∨ (figX f z (nI p) 120 0 = 0 ∧ p = z ∧ nT f z p = (3, 0, nI p, p) ∧ bAt f z (nI p) = -1) := by
  have e1 : figX f z (nI p) 120 0 = figN f z (z - p) p := by
    rw [figX_N hz 120 0 p (by omega)]
    exact figN_fuel 120 p (by omega)
  have e2 := dgM_2 (f := f) (z := z) (z - p) 0 p
  have e3 := bAt_nI (f := f) (p := p) hz (by omega)
  rw [e1]
  by_cases h : figN f z (z - p) p = 0
  · right
    have n1 : ¬ p < (dgM f z (z - p) 0 p).2 := by omega
    by_cases h2 : p = z
    · right
      refine ⟨h, h2, ?_, by rw [e3, if_neg (by omega)]⟩
      unfold nT
      rw [if_neg n1, if_pos h2]
    · left
      refine ⟨h, by omega, ?_, by rw [e3, if_pos (by omega)]⟩
      unfold nT
      rw [if_neg n1, if_neg h2]
  · left
    have h0 : 0 < figN f z (z - p) p := by omega
    obtain ⟨m, -, q, -⟩ := figN_p h0
    refine ⟨h0, figN_le _ _ hp, ⟨(dgM f z (z - p) 0 p).1, ?_, fun h2 => dgM_v hz (by omega) h0 h2⟩, by rw [e3, if_pos q.1]; exact q.2⟩
    unfold nT
    rw [if_pos (by omega), e2, Nat.add_sub_cancel_left]
/-- a letter, a sign -/
noncomputable abbrev okC (c : Int32) : Prop := tokL c ∧ ¬ isFig c ∧ ¬ c = -1
theorem kG_iff {f : Nat → Int32} {z p : Nat} {c : Int32} (hz : z ≤ 120) (hp : p ≤ z) (hc : okC c) : kG c (nT f z p) ↔ bAt f z (nI p) = c := by
  obtain ⟨c1, c2, c3⟩ := hc
  rcases nT_cases (f := f) hz hp with ⟨-, -, ⟨V, e, -⟩, g⟩ | ⟨-, -, e, b⟩ | ⟨-, -, e, b⟩
  · rw [e]
    constructor
    · rintro ⟨h, -⟩
      exfalso
      split at h
      · exact absurd h (by simp)
      · exact absurd h (by simp)
    · intro h
      exact absurd (h ▸ g) c2
  · rw [e, b]
    constructor
    · exact fun h => h.2
    · intro h
      exact ⟨if_pos (by rw [h]; exact c1), h⟩
  · rw [e, b]
    constructor
    · rintro ⟨h, -⟩
      exact absurd h (by simp)
    · exact fun h => absurd h.symm c3
theorem kG_p {f : Nat → Int32} {z p : Nat} {c : Int32} (hz : z ≤ 120) (hp : p ≤ z) (h : kG c (nT f z p)) : p < z ∧ (nT f z p).2.2.2 = p + 1 := by
  rcases nT_cases (f := f) hz hp with ⟨-, -, ⟨V, e, -⟩, -⟩ | ⟨-, g, e, -⟩ | ⟨-, -, e, -⟩
  · rw [e] at h
    exfalso
    have h1 := h.1
    split at h1
    · exact absurd h1 (by simp)
    · exact absurd h1 (by simp)
  · rw [e]
    exact ⟨g, rfl⟩
  · rw [e] at h
    exact absurd h.1 (by simp)
theorem nT_b {f : Nat → Int32} {z p : Nat} (hz : z ≤ 120) (hp : p ≤ z) : (nT f z p).2.2.1 = nI p := by
  rcases nT_cases (f := f) hz hp with ⟨-, -, ⟨V, e, -⟩, -⟩ | ⟨-, -, e, -⟩ | ⟨-, -, e, -⟩ <;> rw [e]
/-- the one at a place, the other with its token; or both at the same fault -/
noncomputable def XM (f : Nat → Int32) (z : Nat) (q : TQ) (u : MU) (e : Int32) : Prop := (q.2.1 = 0 ∧ e = 0 ∧ ∃ p : Nat, p ≤ z ∧ q.2.2 = nI p ∧ u = nT f z p) ∨ (¬ q.2.1 = 0 ∧ e = q.2.1 ∧ q.1 = u.2.2.1)
noncomputable def Sty (q r : TQ) : Prop := ¬ q.2.1 = 0 → r.1 = q.1 ∧ r.2.1 = q.2.1
theorem Sty.tr {q r t : TQ} (h : Sty q r) (h2 : Sty r t) : Sty q t := fun n => by
  obtain ⟨a, b⟩ := h n
  obtain ⟨c, d⟩ := h2 (by rw [b]; exact n)
  exact ⟨c.trans a, d.trans b⟩
theorem sty_F (n : Int32) (q : TQ) : Sty q (rF n q) := fun h => by
  unfold rF
  rw [if_neg h]
  exact ⟨rfl, rfl⟩
theorem sty_B (f : Nat → Int32) (z : Nat) (c : Int32) (q : TQ) : Sty q (rB f z c q) := fun h => by
  unfold rB
  split
  · exact ⟨rfl, rfl⟩
  · exact sty_F 1 q h
theorem sty_N (f : Nat → Int32) (z : Nat) (lo hi : Int32) (q : TQ) : Sty q (rN f z lo hi q) := fun h => by
  unfold rN
  split
  · exact sty_F 1 q h
  · split
    · exact sty_F 2 q h
    · exact ⟨rfl, rfl⟩
theorem sty_NB (f : Nat → Int32) (z : Nat) (lo hi c : Int32) (q : TQ) : Sty q (rB f z c (rN f z lo hi q)) := (sty_N f z lo hi q).tr (sty_B f z c _)
theorem xm_no {f : Nat → Int32} {z p : Nat} {r : TQ} {n : Int32} (hz : z ≤ 120) (hp : p ≤ z) (hn : ¬ n = 0) (h : Sty (nI p, n, nI p) r) : XM f z r (nT f z p) n := by
  obtain ⟨a, b⟩ := h hn
  exact Or.inr ⟨by rw [b]; exact hn, b.symm, by rw [a, nT_b hz hp]⟩
theorem rF_at (n fp k : Int32) : rF n (fp, 0, k) = (k, n, k) := if_pos rfl
theorem xm_B {f : Nat → Int32} {z p : Nat} {c fp : Int32} (hz : z ≤ 120) (hp : p ≤ z) (hc : okC c) : XM f z (rB f z c (fp, 0, nI p)) (kU f z c (nT f z p)) (if kG c (nT f z p) then 0 else 1) := by
  by_cases h : kG c (nT f z p)
  · obtain ⟨g1, g2⟩ := kG_p hz hp h
    have hb := (kG_iff hz hp hc).mp h
    unfold rB kU uT
    rw [if_pos hb, if_pos h, if_pos h, g2]
    exact Or.inl ⟨rfl, rfl, p + 1, g1, nI_add p 1, rfl⟩
  · have hb : ¬ bAt f z (nI p) = c := fun q => h ((kG_iff hz hp hc).mpr q)
    unfold rB kU
    rw [if_neg hb, if_neg h, if_neg h, rF_at]
    exact xm_no hz hp (by decide) (fun _ => ⟨rfl, rfl⟩)
theorem nG_iff {f : Nat → Int32} {z p : Nat} {lo hi : Int32} (hz : z ≤ 120) (hp : p ≤ z) : (nG lo hi (nT f z p) ↔ rG1 f z (nI p) ∧ rG2 f z (nI p) lo hi) ∧ ((nT f z p).1 = 2 ↔ rG1 f z (nI p)) ∧ (rG1 f z (nI p) → (nT f z p).2.1 = numX f z (nI p) (figX f z (nI p) 120 0) ∧ (nT f z p).2.2.2 = p + figX f z (nI p) 120 0 ∧ p + figX f z (nI p) 120 0 ≤ z) := by
  rcases nT_cases (f := f) hz hp with ⟨g1, g2, ⟨V, e, hv⟩, -⟩ | ⟨g, -, e, -⟩ | ⟨g, -, e, -⟩
  · have t2 : (nT f z p).1 = 2 ↔ rG1 f z (nI p) := by
      rw [e]
      constructor
      · intro h
        refine ⟨by omega, ?_⟩
        by_cases q : figX f z (nI p) 120 0 ≤ 2
        · exact q
        · simp only [if_neg q] at h
          exact absurd h (by decide)
      · intro h
        exact if_pos h.2
    have tv : rG1 f z (nI p) → (nT f z p).2.1 = numX f z (nI p) (figX f z (nI p) 120 0) := by
      intro h
      rw [e]
      exact hv h.2
    refine ⟨?_, t2, fun h => ⟨tv h, by rw [e], g2⟩⟩
    constructor
    · rintro ⟨h1, h2⟩
      have h3 := t2.mp h1
      rw [tv h3] at h2
      exact ⟨h3, fun q => h2 (Or.inl q), i_nlt.mp (fun q => h2 (Or.inr q))⟩
    · rintro ⟨h1, h2, h3⟩
      refine ⟨t2.mpr h1, ?_⟩
      rw [tv h1]
      rintro (q | q)
      · exact h2 q
      · exact i_nlt.mpr h3 q
  · have n1 : ¬ rG1 f z (nI p) := fun q => q.1 (by omega)
    have n2 : ¬ (nT f z p).1 = 2 := by
      rw [e]
      show ¬ (if tokL (f p) then (1 : Int32) else 0) = 2
      split <;> decide
    exact ⟨⟨fun q => absurd q.1 n2, fun q => absurd q.1 n1⟩, ⟨fun q => absurd q n2, fun q => absurd q n1⟩, fun q => absurd q n1⟩
  · have n1 : ¬ rG1 f z (nI p) := fun q => q.1 (by omega)
    have n2 : ¬ (nT f z p).1 = 2 := by
      rw [e]
      exact (by decide : ¬ (3 : Int32) = 2)
    exact ⟨⟨fun q => absurd q.1 n2, fun q => absurd q.1 n1⟩, ⟨fun q => absurd q n2, fun q => absurd q n1⟩, fun q => absurd q n1⟩
theorem xm_N {f : Nat → Int32} {z p ix : Nat} {lo hi c fp : Int32} {row : Nat → Int32} (hz : z ≤ 120) (hp : p ≤ z) (hc : okC c) : XM f z (rB f z c (rN f z lo hi (fp, 0, nI p))) (nRr f z lo hi ix c (nT f z p, row)).1.1 (nRr f z lo hi ix c (nT f z p, row)).2 ∧ ((nRr f z lo hi ix c (nT f z p, row)).2 = 0 → (nRr f z lo hi ix c (nT f z p, row)).1.2 = upd row ix (rV f z lo hi (nI p))) := by
  obtain ⟨n1, n2, n3⟩ := nG_iff (f := f) (lo := lo) (hi := hi) hz hp
  by_cases h : nG lo hi (nT f z p)
  · have hg := n1.mp h
    obtain ⟨m1, m2, m3⟩ := n3 hg.1
    have eN : rN f z lo hi (fp, 0, nI p) = (fp, 0, nI (p + figX f z (nI p) 120 0)) := by
      unfold rN
      rw [if_neg (fun q => q hg.1), if_neg (fun q => q hg.2)]
      show (fp, (0 : Int32), nI p + nI (figX f z (nI p) 120 0)) = _
      rw [nI_add]
    have eU : uT f z (nT f z p) = nT f z (p + figX f z (nI p) 120 0) := by
      unfold uT
      rw [m2]
    have hB := xm_B (f := f) (fp := fp) (c := c) hz m3 hc
    unfold nRr
    constructor
    · show XM f z _ (nU f z lo hi c (nT f z p)) (if nGG f z lo hi c (nT f z p) then 0 else nE lo hi (nT f z p))
      unfold nU nE
      rw [if_pos h, if_pos h, eN]
      by_cases k : kG c (nT f z (p + figX f z (nI p) 120 0))
      · rw [if_pos ⟨h, by rw [eU]; exact k⟩, eU]
        rw [if_pos k] at hB
        exact hB
      · rw [if_neg (fun q => k (by have := q.2; rw [eU] at this; exact this)), eU]
        rw [if_neg k] at hB
        exact hB
    · intro _
      show nR lo hi ix (nT f z p) row = _
      unfold nR rV
      rw [if_pos h, if_pos hg, m1]
  · have hne : ¬ nE lo hi (nT f z p) = 0 := by
      unfold nE
      rw [if_neg h]
      split <;> decide
    have eq2 : (nRr f z lo hi ix c (nT f z p, row)).2 = nE lo hi (nT f z p) := if_neg (fun q => h q.1)
    have eq1 : (nRr f z lo hi ix c (nT f z p, row)).1.1 = nT f z p := if_neg h
    rw [eq1, eq2]
    refine ⟨?_, fun q => absurd q hne⟩
    refine xm_no hz hp hne ?_
    refine Sty.tr (r := rN f z lo hi (fp, 0, nI p)) ?_ (sty_B f z c _)
    intro _
    unfold rN nE
    rw [if_neg h]
    by_cases g : rG1 f z (nI p)
    · rw [if_neg (fun q => q g), if_pos (fun q => h (n1.mpr ⟨g, q⟩)), rF_at, if_pos (n2.mpr g)]
      exact ⟨rfl, rfl⟩
    · rw [if_pos g, rF_at, if_neg (fun q => g (n2.mp q))]
      exact ⟨rfl, rfl⟩
/-- with what is known of the row where there is no fault -/
noncomputable def XP_ (f : Nat → Int32) (z : Nat) (q : TQ) (r : MR) (P : (Nat → Int32) → Prop) : Prop := XM f z q r.1.1 r.2 ∧ (r.2 = 0 → P r.1.2)
theorem xp_bind {f : Nat → Int32} {z : Nat} {q q2 : TQ} {r : MR} {k : MS → MR} {P P2 : (Nat → Int32) → Prop} (h : XP_ f z q r P) (hs : Sty q q2) (hk : ∀ (fp : Int32) (p : Nat) (row : Nat → Int32), p ≤ z → q = (fp, 0, nI p) → P row → XP_ f z q2 (k (nT f z p, row)) P2) : XP_ f z q2 (mB r k) P2 := by
  obtain ⟨⟨u, row⟩, e⟩ := r
  obtain ⟨fp, ft, kk⟩ := q
  obtain ⟨h1, h2⟩ := h
  unfold mB
  rcases h1 with ⟨a1, a2, p, a3, a4, a5⟩ | ⟨a1, a2, a3⟩
  · have a1 : ft = 0 := a1
    have a2 : e = 0 := a2
    have a4 : kk = nI p := a4
    have a5 : u = nT f z p := a5
    subst a1 a2 a4 a5
    rw [if_pos rfl]
    exact hk fp p row a3 rfl (h2 rfl)
  · have a1 : ¬ ft = 0 := a1
    have a2 : e = ft := a2
    have a3 : fp = u.2.2.1 := a3
    subst a2
    obtain ⟨b1, b2⟩ := hs a1
    rw [if_neg a1]
    exact ⟨Or.inr ⟨by rw [b2]; exact a1, b2.symm, b1.trans a3⟩, fun z_ => absurd z_ a1⟩
theorem nrm_0 {a b c : Int32} {g1 g2 g3 g4 g5 : Nat → Int32} : upd (upd (upd r0 0 a) 1 b) 2 c = nrm a b c 1 0 0 0 0 g1 g2 g3 g4 g5 := by
  funext j
  have e0 : nI 0 = 0 := rfl
  unfold r0 nrm upd
  rw [e0]
  grind (splits := 60)
theorem nrm_w {v0 v1 v2 v3 v5 v : Int32} {hh w kk : Nat} {g1 g2 g3 g4 g5 : Nat → Int32} (hw : w < 6) : upd (upd (nrm v0 v1 v2 v3 hh v5 w kk g1 g2 g3 g4 g5) 3 (nI w + 1)) (8 + w) v = nrm v0 v1 v2 v3 hh v5 (w + 1) kk (upd g1 w v) g2 g3 g4 g5 := by
  funext j
  have e0 : nI w + 1 = nI (w + 1) := nI_add w 1
  rw [e0]
  unfold nrm upd
  grind (splits := 60)
theorem nrm_s {v0 v1 v2 v3 v5 kd ce lo : Int32} {hh w k : Nat} {g1 g2 g3 g4 g5 : Nat → Int32} (hk : k < 6) : upd (upd (upd (upd (nrm v0 v1 v2 v3 hh v5 w k g1 g2 g3 g4 g5) (14 + k) kd) 4 (nI k + 1)) (20 + k) ce) (32 + k) lo = nrm v0 v1 v2 v3 hh v5 w (k + 1) g1 (upd g2 k kd) (upd g3 k ce) (upd g4 k lo) (upd g5 k 0) := by
  funext j
  have e0 : nI k + 1 = nI (k + 1) := nI_add k 1
  rw [e0]
  unfold nrm upd
  grind (splits := 60)
theorem xm_law {f : Nat → Int32} {z : Nat} (hz : z ≤ 120) (g1 g2 g3 g4 g5 : Nat → Int32) : XP_ f z (xLc f z (0, 0, 0)) (lRd f z) (fun row => row = nrm (xL0 f z (0, 0, 0)) (xL1 f z (0, 0, 0)) (xL2 f z (0, 0, 0)) 1 0 0 0 0 g1 g2 g3 g4 g5) := by
  have h1 : XP_ f z (rB f z 109 (0, 0, 0)) (lRa f z) (fun row => row = r0) := ⟨xm_B (p := 0) hz (Nat.zero_le _) (by decide), fun _ => rfl⟩
  have h2 : XP_ f z (xLa f z (0, 0, 0)) (lRb f z) (fun row => row = upd r0 0 (xL0 f z (0, 0, 0))) := by
    refine xp_bind h1 (sty_NB f z _ _ _ _) (fun fp p row hp e hr => ?_)
    have h := xm_N (f := f) (ix := 0) (lo := 5) (hi := 15) (c := 44) (fp := fp) (row := row) hz hp (by decide)
    unfold xLa xL0
    rw [e, ← hr]
    exact h
  have h3 : XP_ f z (xLb f z (0, 0, 0)) (lRc f z) (fun row => row = upd (upd r0 0 (xL0 f z (0, 0, 0))) 1 (xL1 f z (0, 0, 0))) := by
    refine xp_bind h2 (sty_NB f z _ _ _ _) (fun fp p row hp e hr => ?_)
    have h := xm_N (f := f) (ix := 1) (lo := 0) (hi := xL0 f z (0, 0, 0) - 1) (c := 44) (fp := fp) (row := row) hz hp (by decide)
    have er : row 0 = xL0 f z (0, 0, 0) := by rw [hr]; exact if_pos rfl
    unfold xLb xL1
    rw [e, ← hr]
    show XP_ f z _ (nRr f z 0 (row 0 - 1) 1 44 (nT f z p, row)) _
    rw [er]
    exact h
  have h4 : XP_ f z (xLc f z (0, 0, 0)) (lRd f z) (fun row => row = upd (upd (upd r0 0 (xL0 f z (0, 0, 0))) 1 (xL1 f z (0, 0, 0))) 2 (xL2 f z (0, 0, 0))) := by
    refine xp_bind h3 (sty_NB f z _ _ _ _) (fun fp p row hp e hr => ?_)
    have h := xm_N (f := f) (ix := 2) (lo := 0) (hi := 4) (c := 59) (fp := fp) (row := row) hz hp (by decide)
    unfold xLc xL2
    rw [e, ← hr]
    exact h
  exact ⟨h4.1, fun q => (h4.2 q).trans nrm_0⟩
section TWO
variable {f : Nat → Int32} {z : Nat} {v0 v1 v2 : Int32}
theorem nrm3 {v0 v1 v2 v3 v5 : Int32} {hh w k : Nat} {g1 g2 g3 g4 g5 : Nat → Int32} : nrm v0 v1 v2 v3 hh v5 w k g1 g2 g3 g4 g5 3 = nI w := rfl
theorem nrm4 {v0 v1 v2 v3 v5 : Int32} {hh w k : Nat} {g1 g2 g3 g4 g5 : Nat → Int32} : nrm v0 v1 v2 v3 hh v5 w k g1 g2 g3 g4 g5 4 = nI k := rfl
theorem nrm0 {v0 v1 v2 v3 v5 : Int32} {hh w k : Nat} {g1 g2 g3 g4 g5 : Nat → Int32} : nrm v0 v1 v2 v3 hh v5 w k g1 g2 g3 g4 g5 0 = v0 := rfl
theorem xW_1 (f : Nat → Int32) (z : Nat) (s : TW) : (xW f z s).1 = xWb f z s.1 s.2.1 := by
  unfold xW
  by_cases h : (xWb f z s.1 s.2.1).2.1 = 0
  · rw [if_pos h]
  · rw [if_neg h]
theorem sty_W (f : Nat → Int32) (z : Nat) (s : TW) : Sty s.1 (xW f z s).1 := by
  have h0 : Sty s.1 (xW0 f z s.1 s.2.1) := by
    intro n
    unfold xW0
    rw [if_neg (fun q => n q.1)]
    exact ⟨rfl, rfl⟩
  have h1 : Sty s.1 (xWb f z s.1 s.2.1) := by
    unfold xWb xWa
    exact (h0.tr (sty_B f z 119 _)).tr (sty_NB f z 0 4 59 _)
  rw [xW_1]
  exact h1
/-- winds: what is known of the two -/
noncomputable def XMW (f : Nat → Int32) (z : Nat) (v0 v1 v2 : Int32) (g2 g3 g4 g5 : Nat → Int32) (s : TW) (r : MR) : Prop := XP_ f z s.1 r (fun row => row = nrm v0 v1 v2 1 0 0 s.2.1 0 s.2.2 g2 g3 g4 g5 ∧ s.2.1 ≤ 6)
theorem xm_W_fin {B : TQ} {R : MR} {w : Nat} {g1 g2 g3 g4 g5 : Nat → Int32} (h1 : XM f z B R.1.1 R.2) (h2 : R.2 = 0 → R.1.2 = nrm v0 v1 v2 1 0 0 (w + 1) 0 g1 g2 g3 g4 g5) (hw : w + 1 ≤ 6) : XMW f z v0 v1 v2 g2 g3 g4 g5 (B, w + 1, g1) R := ⟨h1, fun q => ⟨h2 q, hw⟩⟩
theorem xm_W_no {B : TQ} {R : MR} {w : Nat} {g1 g2 g3 g4 g5 : Nat → Int32} (h1 : XM f z B R.1.1 R.2) (q : ¬ R.2 = 0) : XMW f z v0 v1 v2 g2 g3 g4 g5 (B, w, g1) R := ⟨h1, fun t => absurd t q⟩
theorem xm_W {p w : Nat} {fp : Int32} {g1 g2 g3 g4 g5 row : Nat → Int32} (hz : z ≤ 120) (hp : p ≤ z) (hw : w ≤ 6) (hr : row = nrm v0 v1 v2 1 0 0 w 0 g1 g2 g3 g4 g5) : XMW f z v0 v1 v2 g2 g3 g4 g5 (xW f z ((fp, 0, nI p), w, g1)) (wR f z (nT f z p, row)) := by
  have r3 : row 3 = nI w := by rw [hr]; rfl
  have n6 : (row 3 = 6) ↔ w = 6 := by rw [r3]; exact nI_eq (b := 6) (by omega) (by decide)
  have hB := kG_iff (f := f) (c := 119) hz hp (by decide)
  by_cases k : kG 119 (nT f z p)
  · have b := hB.mp k
    by_cases h6 : w = 6
    · have ng : ¬ wG0 (nT f z p, row) := fun q => q.2 (n6.mpr h6)
      have e1 : wR f z (nT f z p, row) = ((nT f z p, row), 3) := by
        unfold wR wS wE
        rw [if_neg ng, if_neg (fun q => ng q.1), if_neg ng, if_pos k]
      have e2 : xW0 f z (fp, 0, nI p) w = (nI p, 3, nI p) := by
        unfold xW0
        rw [if_pos ⟨rfl, b, by omega⟩, rF_at]
      have hs : Sty (nI p, 3, nI p) (xWb f z (fp, 0, nI p) w) := by
        unfold xWb xWa
        rw [e2]
        exact (sty_B f z 119 _).tr (sty_NB f z 0 4 59 _)
      have hx : (xW f z ((fp, 0, nI p), w, g1)).1 = xWb f z (fp, 0, nI p) w := xW_1 f z _
      unfold XMW
      rw [e1, hx]
      exact ⟨xm_no hz hp (by simp) hs, fun q => absurd q (by simp)⟩
    · have g : wG0 (nT f z p, row) := ⟨k, fun q => h6 (n6.mp q)⟩
      obtain ⟨g1_, g2_⟩ := kG_p hz hp k
      have eu : uT f z (nT f z p) = nT f z (p + 1) := by
        unfold uT
        rw [g2_]
      have e2 : xW0 f z (fp, 0, nI p) w = (fp, 0, nI p) := if_neg (fun q => by omega)
      have e3 : xWa f z (fp, 0, nI p) w = (fp, 0, nI (p + 1)) := by
        unfold xWa rB
        rw [e2, if_pos b]
        show (fp, (0 : Int32), nI p + 1) = _
        rw [show nI p + 1 = nI (p + 1) from nI_add p 1]
      have hN := xm_N (f := f) (ix := 8 + w) (lo := 0) (hi := 4) (c := 59) (fp := fp) (row := upd row 3 (row 3 + 1)) hz (show p + 1 ≤ z by omega) (by decide)
      have eR : wR f z (nT f z p, row) = nRr f z 0 4 (8 + w) 59 (nT f z (p + 1), upd row 3 (row 3 + 1)) := by
        unfold wR wS wE nRr
        rw [if_pos g, if_pos g]
        by_cases q : nGG f z 0 4 59 (nT f z (p + 1))
        · have gg : wGG f z (nT f z p, row) := ⟨g, by show nGG f z 0 4 59 (uT f z (nT f z p)); rw [eu]; exact q⟩
          have gq : nGG f z 0 4 59 (nT f z (p + 1), upd row 3 (row 3 + 1)).fst := q
          rw [if_pos gg, if_pos gq]
          dsimp only
          rw [eu, r3, nI_clamp (by omega)]
        · have gg : ¬ wGG f z (nT f z p, row) := fun t => q (by have := t.2; rw [eu] at this; exact this)
          have gq : ¬ nGG f z 0 4 59 (nT f z (p + 1), upd row 3 (row 3 + 1)).fst := q
          rw [if_neg gg, if_neg gq]
          dsimp only
          rw [eu, r3, nI_clamp (by omega)]
      have eb : xWb f z (fp, 0, nI p) w = rB f z 59 (rN f z 0 4 (fp, 0, nI (p + 1))) := by
        unfold xWb
        rw [e3]
      have hx1 := hN.1
      rw [← eb] at hx1
      rw [eR]
      by_cases q : (nRr f z 0 4 (8 + w) 59 (nT f z (p + 1), upd row 3 (row 3 + 1))).2 = 0
      · have q2 : (xWb f z (fp, 0, nI p) w).2.1 = 0 := by
          rw [eb]
          rcases hN.1 with ⟨a, -⟩ | ⟨a, b_, -⟩
          · exact a
          · exact absurd (b_.symm.trans q) a
        have ex : xW f z ((fp, 0, nI p), w, g1) = (xWb f z (fp, 0, nI p) w, w + 1, upd g1 w (rV f z 0 4 (nI (p + 1)))) := by
          unfold xW
          rw [if_pos q2]
          show (xWb f z (fp, 0, nI p) w, w + 1, upd g1 w (rV f z 0 4 (xWa f z (fp, 0, nI p) w).2.2)) = _
          rw [e3]
        rw [ex]
        have hx3 : upd (upd row 3 (row 3 + 1)) (8 + w) (rV f z 0 4 (nI (p + 1))) = nrm v0 v1 v2 1 0 0 (w + 1) 0 (upd g1 w (rV f z 0 4 (nI (p + 1)))) g2 g3 g4 g5 := by
          rw [hr, nrm3, nrm_w (by omega)]
        exact xm_W_fin hx1 (fun _ => (hN.2 q).trans hx3) (by omega)
      · have q2 : ¬ (xWb f z (fp, 0, nI p) w).2.1 = 0 := by
          rw [eb]
          rcases hN.1 with ⟨-, a, -⟩ | ⟨a, -⟩
          · exact absurd a q
          · exact a
        have ex : xW f z ((fp, 0, nI p), w, g1) = (xWb f z (fp, 0, nI p) w, w, g1) := by
          unfold xW
          rw [if_neg q2]
        rw [ex]
        exact xm_W_no hx1 q
  · have b : ¬ bAt f z (nI p) = 119 := fun q => k (hB.mpr q)
    have ng : ¬ wG0 (nT f z p, row) := fun q => k q.1
    have e1 : wR f z (nT f z p, row) = ((nT f z p, row), 1) := by
      unfold wR wS wE
      rw [if_neg ng, if_neg (fun q => ng q.1), if_neg ng, if_neg k]
    have e2 : xW0 f z (fp, 0, nI p) w = (fp, 0, nI p) := if_neg (fun q => b q.2.1)
    have e3 : xWa f z (fp, 0, nI p) w = (nI p, 1, nI p) := by
      unfold xWa rB
      rw [e2, if_neg b, rF_at]
    have hs : Sty (nI p, 1, nI p) (xWb f z (fp, 0, nI p) w) := by
      unfold xWb
      rw [e3]
      exact sty_NB f z 0 4 59 _
    have hx : (xW f z ((fp, 0, nI p), w, g1)).1 = xWb f z (fp, 0, nI p) w := xW_1 f z _
    unfold XMW
    rw [e1, hx]
    exact ⟨xm_no hz hp (by simp) hs, fun q => absurd q (by simp)⟩
theorem xm_Ws {g2 g3 g4 g5 : Nat → Int32} (hz : z ≤ 120) : ∀ (n : Nat) (s : TW) (r : MR), XMW f z v0 v1 v2 g2 g3 g4 g5 s r → XMW f z v0 v1 v2 g2 g3 g4 g5 (xWs f z n s) (wL f z n r)
  | 0, _, _, h => h
  | n + 1, ⟨⟨fp, ft, kk⟩, w, g1⟩, ⟨⟨u, row⟩, e⟩, h => by
    obtain ⟨h1, h2⟩ := id h
    rcases h1 with ⟨a1, a2, p, a3, a4, a5⟩ | ⟨a1, a2, a3⟩
    · have a1 : ft = 0 := a1
      have a2 : e = 0 := a2
      have a4 : kk = nI p := a4
      have a5 : u = nT f z p := a5
      subst a1 a2 a4 a5
      obtain ⟨b1, b2⟩ := h2 rfl
      have hB := kG_iff (f := f) (c := 119) hz a3 (by decide)
      by_cases k : kG 119 (nT f z p)
      · have c1 : xWg f z ((fp, 0, nI p), w, g1) := ⟨rfl, hB.mp k⟩
        have c2 : wLg ((nT f z p, row), 0) := ⟨rfl, k⟩
        rw [xWs_go (Nat.succ_pos n) c1, wL_go (Nat.succ_pos n) c2, Nat.succ_sub_one]
        have hW := xm_W (f := f) (z := z) (v0 := v0) (v1 := v1) (v2 := v2) (p := p) (w := w) (fp := fp) (g1 := g1) (g2 := g2) (g3 := g3) (g4 := g4) (g5 := g5) (row := row) hz a3 b2 b1
        exact xm_Ws hz n _ _ hW
      · have c1 : ¬ xWg f z ((fp, 0, nI p), w, g1) := fun q => k (hB.mpr q.2)
        have c2 : ¬ wLg ((nT f z p, row), 0) := fun q => k q.2
        rw [xWs_stop c1, wL_stop c2]
        exact h
    · rw [xWs_stop (fun q => a1 q.1), wL_stop (fun q => a1 (a2.symm.trans q.1))]
      exact h
theorem sty_Ws (f : Nat → Int32) (z : Nat) : ∀ (n : Nat) (s : TW), Sty s.1 (xWs f z n s).1
  | 0, _ => fun _ => ⟨rfl, rfl⟩
  | n + 1, s => by
    unfold xWs
    split
    · exact (sty_W f z s).tr (sty_Ws f z n _)
    · exact fun _ => ⟨rfl, rfl⟩
end TWO

