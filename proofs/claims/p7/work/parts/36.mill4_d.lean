/-! the two ways of reading are one -/
theorem bAt_nI {f : Nat → Int32} {z p : Nat} (hz : z ≤ 120) (hp : p ≤ 1000) : bAt f z (nI p) = if p < z then f p else -1 := by
  unfold bAt
  by_cases h : p < z
  · rw [if_neg (by rintro (q | q); exact nI_pos (by omega) q; exact nI_ge h (by omega) q), if_pos h, nI_clamp (by omega)]
  · rw [if_pos (Or.inr (nI_le (by omega) (by omega))), if_neg h]
def figN (f : Nat → Int32) (z : Nat) : Nat → Nat → Nat
  | 0, _ => 0
  | n + 1, p => if p < z ∧ isFig (f p) then figN f z n (p + 1) + 1 else 0
theorem fig_if {f : Nat → Int32} {z p : Nat} : isFig (if p < z then f p else -1) ↔ p < z ∧ isFig (f p) := by
  by_cases h : p < z
  · rw [if_pos h]
    exact ⟨fun q => ⟨h, q⟩, fun q => q.2⟩
  · rw [if_neg h]
    exact ⟨fun q => absurd (show (-1 : Int32) < 48 by decide) q.1, fun q => absurd q.1 h⟩
theorem figX_N {f : Nat → Int32} {z : Nat} (hz : z ≤ 120) : ∀ n i p : Nat, p + i + n ≤ 1000 → figX f z (nI p) n i = figN f z n (p + i)
  | 0, _, _, _ => rfl
  | n + 1, i, p, h => by
    have ih := figX_N (f := f) hz n (i + 1) p (by omega)
    show (if isFig (bAt f z (nI p + nI i)) then figX f z (nI p) n (i + 1) + 1 else 0) = (if p + i < z ∧ isFig (f (p + i)) then figN f z n (p + i + 1) + 1 else 0)
    rw [nI_add, bAt_nI hz (by omega), ih]
    by_cases q : p + i < z ∧ isFig (f (p + i))
    · rw [if_pos (fig_if.mpr q), if_pos q]
      rfl
    · rw [if_neg (fun r => q (fig_if.mp r)), if_neg q]
theorem figN_fuel {f : Nat → Int32} {z : Nat} : ∀ n p : Nat, z - p ≤ n → figN f z n p = figN f z (z - p) p
  | 0, p, h => by rw [show z - p = 0 by omega]
  | n + 1, p, h => by
    by_cases q : p < z
    · have ih := figN_fuel (f := f) (z := z) n (p + 1) (by omega)
      rw [show z - p = (z - (p + 1)) + 1 by omega]
      show (if p < z ∧ isFig (f p) then figN f z n (p + 1) + 1 else 0) = (if p < z ∧ isFig (f p) then figN f z (z - (p + 1)) (p + 1) + 1 else 0)
      rw [ih]
    · rw [show z - p = 0 by omega]
      exact if_neg (fun r => q r.1)
theorem figN_le {f : Nat → Int32} {z : Nat} : ∀ n p : Nat, p ≤ z → p + figN f z n p ≤ z
  | 0, p, h => h
  | n + 1, p, h => by
    have ih := figN_le (f := f) (z := z) n (p + 1)
    unfold figN
    split
    · rename_i q
      have := ih q.1
      omega
    · exact h
theorem dgM_2 {f : Nat → Int32} {z : Nat} : ∀ (n : Nat) (v : Int32) (p : Nat), (dgM f z n v p).2 = p + figN f z n p
  | 0, _, _ => rfl
  | n + 1, v, p => by
    unfold dgM figN
    split
    · rw [dgM_2 n]
      omega
    · rfl
theorem dgM_0 {f : Nat → Int32} {z n p : Nat} {v : Int32} (h : figN f z n p = 0) : dgM f z n v p = (v, p) := by
  cases n with
  | zero => rfl
  | succ n =>
    refine dgM_stop (fun q => ?_)
    unfold figN at h
    rw [if_pos q] at h
    omega
theorem figN_p {f : Nat → Int32} {z n p : Nat} (h : 0 < figN f z n p) : ∃ m : Nat, n = m + 1 ∧ (p < z ∧ isFig (f p)) ∧ figN f z n p = figN f z m (p + 1) + 1 := by
  cases n with
  | zero => exact absurd h (Nat.lt_irrefl 0)
  | succ n =>
    unfold figN at h
    split at h
    · rename_i q
      exact ⟨n, rfl, q, if_pos q⟩
    · exact absurd h (Nat.lt_irrefl 0)
theorem fig_r {x : Int32} (h : isFig x) : ∃ j : Nat, 48 ≤ j ∧ j ≤ 57 ∧ x = nI j := by
  obtain ⟨h1, h2⟩ := h
  rw [Int32.lt_iff_toInt_lt] at h1 h2
  have e1 : (48 : Int32).toInt = 48 := rfl
  have e2 : (57 : Int32).toInt = 57 := rfl
  rw [e1] at h1
  rw [e2] at h2
  obtain ⟨j, hj, rfl⟩ := nI_of (x := x) (by
    rw [Int32.lt_iff_toInt_lt]
    have e3 : (0 : Int32).toInt = 0 := rfl
    omega)
  rw [nI_toInt hj] at h1 h2
  exact ⟨j, by omega, by omega, rfl⟩
theorem fig_99 {x : Int32} (h : isFig x) : (10 * 0 + x - 48 : Int32) ≤ 99 := by
  obtain ⟨j, h1, h2, rfl⟩ := fig_r h
  rcases (show j = 48 ∨ j = 49 ∨ j = 50 ∨ j = 51 ∨ j = 52 ∨ j = 53 ∨ j = 54 ∨ j = 55 ∨ j = 56 ∨ j = 57 by omega) with rfl | rfl | rfl | rfl | rfl | rfl | rfl | rfl | rfl | rfl <;> decide
theorem fig_n {x : Int32} (h : isFig x) : ¬ tokL x ∧ kindX x = 0 ∧ ¬ x = -1 := by
  obtain ⟨j, h1, h2, rfl⟩ := fig_r h
  rcases (show j = 48 ∨ j = 49 ∨ j = 50 ∨ j = 51 ∨ j = 52 ∨ j = 53 ∨ j = 54 ∨ j = 55 ∨ j = 56 ∨ j = 57 by omega) with rfl | rfl | rfl | rfl | rfl | rfl | rfl | rfl | rfl | rfl <;> decide
theorem dgM_v {f : Nat → Int32} {z n p : Nat} (hz : z ≤ 120) (hp : p ≤ 120) (h0 : 0 < figN f z n p) (h2 : figN f z n p ≤ 2) : (dgM f z n 0 p).1 = numX f z (nI p) (figN f z n p) := by
  obtain ⟨m, rfl, q, e⟩ := figN_p h0
  rw [dgM_go (by omega) q, if_pos (by decide), Nat.add_sub_cancel]
  have b0 : bAt f z (nI p + nI 0) = f p := by
    rw [nI_add, bAt_nI hz (by omega), if_pos (by omega)]
    rfl
  by_cases h1 : figN f z m (p + 1) = 0
  · rw [dgM_0 h1, e, h1]
    show (10 * 0 + f p - 48 : Int32) = numX f z (nI p) 0 * 10 + bAt f z (nI p + nI 0) - 48
    rw [b0]
    rfl
  · obtain ⟨m2, rfl, q2, e2⟩ := figN_p (show 0 < figN f z m (p + 1) by omega)
    have h3 : figN f z m2 (p + 1 + 1) = 0 := by omega
    have b1 : bAt f z (nI p + nI 1) = f (p + 1) := by
      rw [nI_add, bAt_nI hz (by omega), if_pos (by omega)]
    rw [dgM_go (by omega) q2, if_pos (fig_99 q.2), Nat.add_sub_cancel, dgM_0 h3, e, e2, h3]
    show (10 * (10 * 0 + f p - 48) + f (p + 1) - 48 : Int32) = (numX f z (nI p) 0 * 10 + bAt f z (nI p + nI 0) - 48) * 10 + bAt f z (nI p + nI 1) - 48
    rw [b0, b1, Int32.mul_comm 10]
    rfl
/-- what stands at a place -/
theorem nT_cases {f : Nat → Int32} {z p : Nat} (hz : z ≤ 120) (hp : p ≤ z) :
    (1 ≤ figX f z (nI p) 120 0 ∧ p + figX f z (nI p) 120 0 ≤ z ∧ (∃ V : Int32, nT f z p = (if figX f z (nI p) 120 0 ≤ 2 then 2 else 0, V, nI p, p + figX f z (nI p) 120 0) ∧ (figX f z (nI p) 120 0 ≤ 2 → V = numX f z (nI p) (figX f z (nI p) 120 0))) ∧ isFig (bAt f z (nI p)))
    ∨ (figX f z (nI p) 120 0 = 0 ∧ p < z ∧ nT f z p = (if tokL (f p) then 1 else 0, f p, nI p, p + 1) ∧ bAt f z (nI p) = f p)
    ∨ (figX f z (nI p) 120 0 = 0 ∧ p = z ∧ nT f z p = (3, 0, nI p, p) ∧ bAt f z (nI p) = -1) := by
  have e1 : figX f z (nI p) 120 0 = figN f z (z - p) p := by
    rw [figX_N hz 120 0 p (by omega)]
    exact figN_fuel 120 p (by omega)
  have e2 := dgM_2 (f := f) (z := z) (z - p) 0 p
  have e3 := bAt_nI (f := f) (p := p) hz (by omega)
  rw [e1]
  by_cases h : figN f z (z - p) p = 0
  · right
    have n1 : ¬ p < (dgM f z (z - p) 0 p).2 := by omega
    by_cases h2 : p = z
    · right
      refine ⟨h, h2, ?_, by rw [e3, if_neg (by omega)]⟩
      unfold nT
      rw [if_neg n1, if_pos h2]
    · left
      refine ⟨h, by omega, ?_, by rw [e3, if_pos (by omega)]⟩
      unfold nT
      rw [if_neg n1, if_neg h2]
  · left
    have h0 : 0 < figN f z (z - p) p := by omega
    obtain ⟨m, -, q, -⟩ := figN_p h0
    refine ⟨h0, figN_le _ _ hp, ⟨(dgM f z (z - p) 0 p).1, ?_, fun h2 => dgM_v hz (by omega) h0 h2⟩, by rw [e3, if_pos q.1]; exact q.2⟩
    unfold nT
    rw [if_pos (by omega), e2, Nat.add_sub_cancel_left]
/-- a letter, a sign -/
abbrev okC (c : Int32) : Prop := tokL c ∧ ¬ isFig c ∧ ¬ c = -1
theorem kG_iff {f : Nat → Int32} {z p : Nat} {c : Int32} (hz : z ≤ 120) (hp : p ≤ z) (hc : okC c) : kG c (nT f z p) ↔ bAt f z (nI p) = c := by
  obtain ⟨c1, c2, c3⟩ := hc
  rcases nT_cases (f := f) hz hp with ⟨-, -, ⟨V, e, -⟩, g⟩ | ⟨-, -, e, b⟩ | ⟨-, -, e, b⟩
  · rw [e]
    constructor
    · rintro ⟨h, -⟩
      exfalso
      split at h
      · exact absurd h (by decide)
      · exact absurd h (by decide)
    · intro h
      exact absurd (h ▸ g) c2
  · rw [e, b]
    constructor
    · exact fun h => h.2
    · intro h
      exact ⟨if_pos (by rw [h]; exact c1), h⟩
  · rw [e, b]
    constructor
    · rintro ⟨h, -⟩
      exact absurd h (by decide)
    · exact fun h => absurd h.symm c3
theorem kG_p {f : Nat → Int32} {z p : Nat} {c : Int32} (hz : z ≤ 120) (hp : p ≤ z) (h : kG c (nT f z p)) : p < z ∧ (nT f z p).2.2.2 = p + 1 := by
  rcases nT_cases (f := f) hz hp with ⟨-, -, ⟨V, e, -⟩, -⟩ | ⟨-, g, e, -⟩ | ⟨-, -, e, -⟩
  · rw [e] at h
    exfalso
    have h1 := h.1
    split at h1
    · exact absurd h1 (by decide)
    · exact absurd h1 (by decide)
  · rw [e]
    exact ⟨g, rfl⟩
  · rw [e] at h
    exact absurd h.1 (by decide)
theorem nT_b {f : Nat → Int32} {z p : Nat} (hz : z ≤ 120) (hp : p ≤ z) : (nT f z p).2.2.1 = nI p := by
  rcases nT_cases (f := f) hz hp with ⟨-, -, ⟨V, e, -⟩, -⟩ | ⟨-, -, e, -⟩ | ⟨-, -, e, -⟩ <;> rw [e]
/-- the one at a place, the other with its token; or both at the same fault -/
def XM (f : Nat → Int32) (z : Nat) (q : TQ) (u : MU) (e : Int32) : Prop := (q.2.1 = 0 ∧ e = 0 ∧ ∃ p : Nat, p ≤ z ∧ q.2.2 = nI p ∧ u = nT f z p) ∨ (¬ q.2.1 = 0 ∧ e = q.2.1 ∧ q.1 = u.2.2.1)
def Sty (q r : TQ) : Prop := ¬ q.2.1 = 0 → r.1 = q.1 ∧ r.2.1 = q.2.1
theorem Sty.tr {q r t : TQ} (h : Sty q r) (h2 : Sty r t) : Sty q t := fun n => by
  obtain ⟨a, b⟩ := h n
  obtain ⟨c, d⟩ := h2 (by rw [b]; exact n)
  exact ⟨c.trans a, d.trans b⟩
theorem sty_F (n : Int32) (q : TQ) : Sty q (rF n q) := fun h => by
  unfold rF
  rw [if_neg h]
  exact ⟨rfl, rfl⟩
theorem sty_B (f : Nat → Int32) (z : Nat) (c : Int32) (q : TQ) : Sty q (rB f z c q) := fun h => by
  unfold rB
  split
  · exact ⟨rfl, rfl⟩
  · exact sty_F 1 q h
theorem sty_N (f : Nat → Int32) (z : Nat) (lo hi : Int32) (q : TQ) : Sty q (rN f z lo hi q) := fun h => by
  unfold rN
  split
  · exact sty_F 1 q h
  · split
    · exact sty_F 2 q h
    · exact ⟨rfl, rfl⟩
theorem sty_NB (f : Nat → Int32) (z : Nat) (lo hi c : Int32) (q : TQ) : Sty q (rB f z c (rN f z lo hi q)) := (sty_N f z lo hi q).tr (sty_B f z c _)
theorem xm_no {f : Nat → Int32} {z p : Nat} {r : TQ} {n : Int32} (hz : z ≤ 120) (hp : p ≤ z) (hn : ¬ n = 0) (h : Sty (nI p, n, nI p) r) : XM f z r (nT f z p) n := by
  obtain ⟨a, b⟩ := h hn
  exact Or.inr ⟨by rw [b]; exact hn, b.symm, by rw [a, nT_b hz hp]⟩
theorem rF_at (n fp k : Int32) : rF n (fp, 0, k) = (k, n, k) := if_pos rfl
theorem xm_B {f : Nat → Int32} {z p : Nat} {c fp : Int32} (hz : z ≤ 120) (hp : p ≤ z) (hc : okC c) : XM f z (rB f z c (fp, 0, nI p)) (kU f z c (nT f z p)) (if kG c (nT f z p) then 0 else 1) := by
  by_cases h : kG c (nT f z p)
  · obtain ⟨g1, g2⟩ := kG_p hz hp h
    have hb := (kG_iff hz hp hc).mp h
    unfold rB kU uT
    rw [if_pos hb, if_pos h, if_pos h, g2]
    exact Or.inl ⟨rfl, rfl, p + 1, g1, nI_add p 1, rfl⟩
  · have hb : ¬ bAt f z (nI p) = c := fun q => h ((kG_iff hz hp hc).mpr q)
    unfold rB kU
    rw [if_neg hb, if_neg h, if_neg h, rF_at]
    exact xm_no hz hp (by decide) (fun _ => ⟨rfl, rfl⟩)
theorem nG_iff {f : Nat → Int32} {z p : Nat} {lo hi : Int32} (hz : z ≤ 120) (hp : p ≤ z) : (nG lo hi (nT f z p) ↔ rG1 f z (nI p) ∧ rG2 f z (nI p) lo hi) ∧ ((nT f z p).1 = 2 ↔ rG1 f z (nI p)) ∧ (rG1 f z (nI p) → (nT f z p).2.1 = numX f z (nI p) (figX f z (nI p) 120 0) ∧ (nT f z p).2.2.2 = p + figX f z (nI p) 120 0 ∧ p + figX f z (nI p) 120 0 ≤ z) := by
  rcases nT_cases (f := f) hz hp with ⟨g1, g2, ⟨V, e, hv⟩, -⟩ | ⟨g, -, e, -⟩ | ⟨g, -, e, -⟩
  · have t2 : (nT f z p).1 = 2 ↔ rG1 f z (nI p) := by
      rw [e]
      constructor
      · intro h
        refine ⟨by omega, ?_⟩
        by_cases q : figX f z (nI p) 120 0 ≤ 2
        · exact q
        · simp only [if_neg q] at h
          exact absurd h (by decide)
      · intro h
        exact if_pos h.2
    have tv : rG1 f z (nI p) → (nT f z p).2.1 = numX f z (nI p) (figX f z (nI p) 120 0) := by
      intro h
      rw [e]
      exact hv h.2
    refine ⟨?_, t2, fun h => ⟨tv h, by rw [e], g2⟩⟩
    constructor
    · rintro ⟨h1, h2⟩
      have h3 := t2.mp h1
      rw [tv h3] at h2
      exact ⟨h3, fun q => h2 (Or.inl q), i_nlt.mp (fun q => h2 (Or.inr q))⟩
    · rintro ⟨h1, h2, h3⟩
      refine ⟨t2.mpr h1, ?_⟩
      rw [tv h1]
      rintro (q | q)
      · exact h2 q
      · exact i_nlt.mpr h3 q
  · have n1 : ¬ rG1 f z (nI p) := fun q => q.1 (by omega)
    have n2 : ¬ (nT f z p).1 = 2 := by
      rw [e]
      show ¬ (if tokL (f p) then (1 : Int32) else 0) = 2
      split <;> decide
    exact ⟨⟨fun q => absurd q.1 n2, fun q => absurd q.1 n1⟩, ⟨fun q => absurd q n2, fun q => absurd q n1⟩, fun q => absurd q n1⟩
  · have n1 : ¬ rG1 f z (nI p) := fun q => q.1 (by omega)
    have n2 : ¬ (nT f z p).1 = 2 := by
      rw [e]
      exact (by decide : ¬ (3 : Int32) = 2)
    exact ⟨⟨fun q => absurd q.1 n2, fun q => absurd q.1 n1⟩, ⟨fun q => absurd q n2, fun q => absurd q n1⟩, fun q => absurd q n1⟩
theorem xm_N {f : Nat → Int32} {z p ix : Nat} {lo hi c fp : Int32} {row : Nat → Int32} (hz : z ≤ 120) (hp : p ≤ z) (hc : okC c) : XM f z (rB f z c (rN f z lo hi (fp, 0, nI p))) (nRr f z lo hi ix c (nT f z p, row)).1.1 (nRr f z lo hi ix c (nT f z p, row)).2 ∧ ((nRr f z lo hi ix c (nT f z p, row)).2 = 0 → (nRr f z lo hi ix c (nT f z p, row)).1.2 = upd row ix (rV f z lo hi (nI p))) := by
  obtain ⟨n1, n2, n3⟩ := nG_iff (f := f) (lo := lo) (hi := hi) hz hp
  by_cases h : nG lo hi (nT f z p)
  · have hg := n1.mp h
    obtain ⟨m1, m2, m3⟩ := n3 hg.1
    have eN : rN f z lo hi (fp, 0, nI p) = (fp, 0, nI (p + figX f z (nI p) 120 0)) := by
      unfold rN
      rw [if_neg (fun q => q hg.1), if_neg (fun q => q hg.2)]
      show (fp, (0 : Int32), nI p + nI (figX f z (nI p) 120 0)) = _
      rw [nI_add]
    have eU : uT f z (nT f z p) = nT f z (p + figX f z (nI p) 120 0) := by
      unfold uT
      rw [m2]
    have hB := xm_B (f := f) (fp := fp) (c := c) hz m3 hc
    unfold nRr
    constructor
    · show XM f z _ (nU f z lo hi c (nT f z p)) (if nGG f z lo hi c (nT f z p) then 0 else nE lo hi (nT f z p))
      unfold nU nE
      rw [if_pos h, if_pos h, eN, eU]
      by_cases k : kG c (nT f z (p + figX f z (nI p) 120 0))
      · rw [if_pos ⟨h, by rw [eU]; exact k⟩]
        rw [if_pos k] at hB
        exact hB
      · rw [if_neg (fun q => k (by have := q.2; rw [eU] at this; exact this))]
        rw [if_neg k] at hB
        exact hB
    · intro _
      show nR lo hi ix (nT f z p) row = _
      unfold nR rV
      rw [if_pos h, if_pos hg, m1]
  · have hne : ¬ nE lo hi (nT f z p) = 0 := by
      unfold nE
      rw [if_neg h]
      split <;> decide
    have eq2 : (nRr f z lo hi ix c (nT f z p, row)).2 = nE lo hi (nT f z p) := if_neg (fun q => h q.1)
    have eq1 : (nRr f z lo hi ix c (nT f z p, row)).1.1 = nT f z p := if_neg h
    rw [eq1, eq2]
    refine ⟨?_, fun q => absurd q hne⟩
    refine xm_no hz hp hne ?_
    refine Sty.tr (r := rN f z lo hi (fp, 0, nI p)) ?_ (sty_B f z c _)
    intro _
    unfold rN nE
    rw [if_neg h]
    by_cases g : rG1 f z (nI p)
    · rw [if_neg (fun q => q g), if_pos (fun q => h (n1.mpr ⟨g, q⟩)), rF_at, if_pos (n2.mpr g)]
      exact ⟨rfl, rfl⟩
    · rw [if_pos g, rF_at, if_neg (fun q => g (n2.mp q))]
      exact ⟨rfl, rfl⟩
/-- with what is known of the row where there is no fault -/
def XP_ (f : Nat → Int32) (z : Nat) (q : TQ) (r : MR) (P : (Nat → Int32) → Prop) : Prop := XM f z q r.1.1 r.2 ∧ (r.2 = 0 → P r.1.2)
theorem xp_bind {f : Nat → Int32} {z : Nat} {q q2 : TQ} {r : MR} {k : MS → MR} {P P2 : (Nat → Int32) → Prop} (h : XP_ f z q r P) (hs : Sty q q2) (hk : ∀ (fp : Int32) (p : Nat) (row : Nat → Int32), p ≤ z → q = (fp, 0, nI p) → P row → XP_ f z q2 (k (nT f z p, row)) P2) : XP_ f z q2 (mB r k) P2 := by
  obtain ⟨⟨u, row⟩, e⟩ := r
  obtain ⟨fp, ft, kk⟩ := q
  obtain ⟨h1, h2⟩ := h
  unfold mB
  rcases h1 with ⟨a1, a2, p, a3, a4, a5⟩ | ⟨a1, a2, a3⟩
  · have a1 : ft = 0 := a1
    have a2 : e = 0 := a2
    have a4 : kk = nI p := a4
    have a5 : u = nT f z p := a5
    subst a1 a2 a4 a5
    rw [if_pos rfl]
    exact hk fp p row a3 rfl (h2 rfl)
  · have a1 : ¬ ft = 0 := a1
    have a2 : e = ft := a2
    have a3 : fp = u.2.2.1 := a3
    subst a2
    obtain ⟨b1, b2⟩ := hs a1
    rw [if_neg a1]
    exact ⟨Or.inr ⟨by rw [b2]; exact a1, b2.symm, b1.trans a3⟩, fun z_ => absurd z_ a1⟩
theorem nrm_0 {a b c : Int32} {g1 g2 g3 g4 g5 : Nat → Int32} : upd (upd (upd r0 0 a) 1 b) 2 c = nrm a b c 1 0 0 0 0 g1 g2 g3 g4 g5 := by
  funext j
  have e0 : nI 0 = 0 := rfl
  unfold r0 nrm upd
  rw [e0]
  grind
theorem nrm_w {v0 v1 v2 v3 v5 v : Int32} {hh w kk : Nat} {g1 g2 g3 g4 g5 : Nat → Int32} (hw : w < 6) : upd (upd (nrm v0 v1 v2 v3 hh v5 w kk g1 g2 g3 g4 g5) 3 (nI w + 1)) (8 + w) v = nrm v0 v1 v2 v3 hh v5 (w + 1) kk (upd g1 w v) g2 g3 g4 g5 := by
  funext j
  have e0 : nI w + 1 = nI (w + 1) := nI_add w 1
  rw [e0]
  unfold nrm upd
  grind
theorem nrm_s {v0 v1 v2 v3 v5 kd ce lo : Int32} {hh w k : Nat} {g1 g2 g3 g4 g5 : Nat → Int32} (hk : k < 6) : upd (upd (upd (upd (nrm v0 v1 v2 v3 hh v5 w k g1 g2 g3 g4 g5) (14 + k) kd) 4 (nI k + 1)) (20 + k) ce) (32 + k) lo = nrm v0 v1 v2 v3 hh v5 w (k + 1) g1 (upd g2 k kd) (upd g3 k ce) (upd g4 k lo) (upd g5 k 0) := by
  funext j
  have e0 : nI k + 1 = nI (k + 1) := nI_add k 1
  rw [e0]
  unfold nrm upd
  grind
theorem xm_law {f : Nat → Int32} {z : Nat} (hz : z ≤ 120) (g1 g2 g3 g4 g5 : Nat → Int32) : XP_ f z (xLc f z (0, 0, 0)) (lRd f z) (fun row => row = nrm (xL0 f z (0, 0, 0)) (xL1 f z (0, 0, 0)) (xL2 f z (0, 0, 0)) 1 0 0 0 0 g1 g2 g3 g4 g5) := by
  have h1 : XP_ f z (rB f z 109 (0, 0, 0)) (lRa f z) (fun row => row = r0) := ⟨xm_B (p := 0) hz (Nat.zero_le _) (by decide), fun _ => rfl⟩
  have h2 : XP_ f z (xLa f z (0, 0, 0)) (lRb f z) (fun row => row = upd r0 0 (xL0 f z (0, 0, 0))) := by
    refine xp_bind h1 (sty_NB f z _ _ _ _) (fun fp p row hp e hr => ?_)
    have h := xm_N (f := f) (ix := 0) (lo := 5) (hi := 15) (c := 44) (fp := fp) (row := row) hz hp (by decide)
    unfold xLa xL0
    rw [e, ← hr]
    exact h
  have h3 : XP_ f z (xLb f z (0, 0, 0)) (lRc f z) (fun row => row = upd (upd r0 0 (xL0 f z (0, 0, 0))) 1 (xL1 f z (0, 0, 0))) := by
    refine xp_bind h2 (sty_NB f z _ _ _ _) (fun fp p row hp e hr => ?_)
    have h := xm_N (f := f) (ix := 1) (lo := 0) (hi := xL0 f z (0, 0, 0) - 1) (c := 44) (fp := fp) (row := row) hz hp (by decide)
    have er : row 0 = xL0 f z (0, 0, 0) := by rw [hr]; exact if_pos rfl
    unfold xLb xL1
    rw [e, ← hr, er]
    exact h
  have h4 : XP_ f z (xLc f z (0, 0, 0)) (lRd f z) (fun row => row = upd (upd (upd r0 0 (xL0 f z (0, 0, 0))) 1 (xL1 f z (0, 0, 0))) 2 (xL2 f z (0, 0, 0))) := by
    refine xp_bind h3 (sty_NB f z _ _ _ _) (fun fp p row hp e hr => ?_)
    have h := xm_N (f := f) (ix := 2) (lo := 0) (hi := 4) (c := 59) (fp := fp) (row := row) hz hp (by decide)
    unfold xLc xL2
    rw [e, ← hr]
    exact h
  exact ⟨h4.1, fun q => (h4.2 q).trans nrm_0⟩
section TWO
variable {f : Nat → Int32} {z : Nat} {v0 v1 v2 : Int32}
theorem nrm3 {v0 v1 v2 v3 v5 : Int32} {hh w k : Nat} {g1 g2 g3 g4 g5 : Nat → Int32} : nrm v0 v1 v2 v3 hh v5 w k g1 g2 g3 g4 g5 3 = nI w := rfl
theorem nrm4 {v0 v1 v2 v3 v5 : Int32} {hh w k : Nat} {g1 g2 g3 g4 g5 : Nat → Int32} : nrm v0 v1 v2 v3 hh v5 w k g1 g2 g3 g4 g5 4 = nI k := rfl
theorem nrm0 {v0 v1 v2 v3 v5 : Int32} {hh w k : Nat} {g1 g2 g3 g4 g5 : Nat → Int32} : nrm v0 v1 v2 v3 hh v5 w k g1 g2 g3 g4 g5 0 = v0 := rfl
theorem sty_W (f : Nat → Int32) (z : Nat) (s : TW) : Sty s.1 (xW f z s).1 := by
  have h0 : Sty s.1 (xW0 f z s.1 s.2.1) := by
    intro n
    unfold xW0
    rw [if_neg (fun q => n q.1)]
    exact ⟨rfl, rfl⟩
  have h1 : Sty s.1 (xWb f z s.1 s.2.1) := (h0.tr (sty_B f z 119 _)).tr (sty_NB f z 0 4 59 _)
  unfold xW
  split <;> exact h1
/-- winds: what is known of the two -/
def XMW (f : Nat → Int32) (z : Nat) (v0 v1 v2 : Int32) (g2 g3 g4 g5 : Nat → Int32) (s : TW) (r : MR) : Prop := XP_ f z s.1 r (fun row => row = nrm v0 v1 v2 1 0 0 s.2.1 0 s.2.2 g2 g3 g4 g5 ∧ s.2.1 ≤ 6)
theorem xm_W {p w : Nat} {fp : Int32} {g1 g2 g3 g4 g5 row : Nat → Int32} (hz : z ≤ 120) (hp : p ≤ z) (hw : w ≤ 6) (hr : row = nrm v0 v1 v2 1 0 0 w 0 g1 g2 g3 g4 g5) : XMW f z v0 v1 v2 g2 g3 g4 g5 (xW f z ((fp, 0, nI p), w, g1)) (wR f z (nT f z p, row)) := by
  have r3 : row 3 = nI w := by rw [hr]; rfl
  have n6 : (row 3 = 6) ↔ w = 6 := by rw [r3]; exact nI_eq (b := 6) (by omega) (by decide)
  have hB := kG_iff (f := f) (c := 119) hz hp (by decide)
  by_cases k : kG 119 (nT f z p)
  · have b := hB.mp k
    by_cases h6 : w = 6
    · have ng : ¬ wG0 (nT f z p, row) := fun q => q.2 (n6.mpr h6)
      have e1 : wR f z (nT f z p, row) = ((nT f z p, row), 3) := by
        unfold wR wS wE
        rw [if_neg ng, if_neg (fun q => ng q.1), if_neg ng, if_pos k]
      have e2 : xW0 f z (fp, 0, nI p) w = (nI p, 3, nI p) := by
        unfold xW0
        rw [if_pos ⟨rfl, b, by omega⟩, rF_at]
      have hs : Sty (nI p, 3, nI p) (xWb f z (fp, 0, nI p) w) := by
        unfold xWb xWa
        rw [e2]
        exact (sty_B f z 119 _).tr (sty_NB f z 0 4 59 _)
      have hx : (xW f z ((fp, 0, nI p), w, g1)).1 = xWb f z (fp, 0, nI p) w := by
        unfold xW
        split <;> rfl
      unfold XMW
      rw [e1, hx]
      exact ⟨xm_no hz hp (by decide) hs, fun q => absurd q (by decide)⟩
    · have g : wG0 (nT f z p, row) := ⟨k, fun q => h6 (n6.mp q)⟩
      obtain ⟨g1_, g2_⟩ := kG_p hz hp k
      have eu : uT f z (nT f z p) = nT f z (p + 1) := by
        unfold uT
        rw [g2_]
      have e2 : xW0 f z (fp, 0, nI p) w = (fp, 0, nI p) := if_neg (fun q => by omega)
      have e3 : xWa f z (fp, 0, nI p) w = (fp, 0, nI (p + 1)) := by
        unfold xWa rB
        rw [e2, if_pos b]
        show (fp, (0 : Int32), nI p + 1) = _
        rw [show nI p + 1 = nI (p + 1) from nI_add p 1]
      have hN := xm_N (f := f) (ix := 8 + w) (lo := 0) (hi := 4) (c := 59) (fp := fp) (row := upd row 3 (row 3 + 1)) hz (show p + 1 ≤ z by omega) (by decide)
      have eR : wR f z (nT f z p, row) = nRr f z 0 4 (8 + w) 59 (nT f z (p + 1), upd row 3 (row 3 + 1)) := by
        unfold wR wS wE nRr
        rw [if_pos g, if_pos g, eu, r3, nI_clamp (by omega)]
        congr 1
        by_cases q : nGG f z 0 4 59 (nT f z (p + 1))
        · rw [if_pos q, if_pos ⟨g, by show nGG f z 0 4 59 (uT f z (nT f z p)); rw [eu]; exact q⟩]
        · rw [if_neg q, if_neg (fun t => q (by have := t.2; rw [eu] at this; exact this))]
      have eb : xWb f z (fp, 0, nI p) w = rB f z 59 (rN f z 0 4 (fp, 0, nI (p + 1))) := by
        unfold xWb
        rw [e3]
      unfold XMW
      rw [eR]
      by_cases q : (nRr f z 0 4 (8 + w) 59 (nT f z (p + 1), upd row 3 (row 3 + 1))).2 = 0
      · have q2 : (xWb f z (fp, 0, nI p) w).2.1 = 0 := by
          rw [eb]
          rcases hN.1 with ⟨a, -⟩ | ⟨a, b_, -⟩
          · exact a
          · exact absurd (b_.symm.trans q) a
        have ex : xW f z ((fp, 0, nI p), w, g1) = (xWb f z (fp, 0, nI p) w, w + 1, upd g1 w (rV f z 0 4 (nI (p + 1)))) := by
          unfold xW
          rw [if_pos q2]
          show (xWb f z (fp, 0, nI p) w, w + 1, upd g1 w (rV f z 0 4 (xWa f z (fp, 0, nI p) w).2.2)) = _
          rw [e3]
        rw [ex]
        refine ⟨by show XM f z (xWb f z (fp, 0, nI p) w) _ _; rw [eb]; exact hN.1, fun _ => ⟨?_, by show w + 1 ≤ 6; omega⟩⟩
        rw [hN.2 q, hr]
        exact nrm_w (by omega)
      · have q2 : ¬ (xWb f z (fp, 0, nI p) w).2.1 = 0 := by
          rw [eb]
          rcases hN.1 with ⟨-, a, -⟩ | ⟨a, -⟩
          · exact absurd a q
          · exact a
        have ex : xW f z ((fp, 0, nI p), w, g1) = (xWb f z (fp, 0, nI p) w, w, g1) := by
          unfold xW
          rw [if_neg q2]
        rw [ex]
        exact ⟨by show XM f z (xWb f z (fp, 0, nI p) w) _ _; rw [eb]; exact hN.1, fun t => absurd t q⟩
  · have b : ¬ bAt f z (nI p) = 119 := fun q => k (hB.mpr q)
    have ng : ¬ wG0 (nT f z p, row) := fun q => k q.1
    have e1 : wR f z (nT f z p, row) = ((nT f z p, row), 1) := by
      unfold wR wS wE
      rw [if_neg ng, if_neg (fun q => ng q.1), if_neg ng, if_neg k]
    have e2 : xW0 f z (fp, 0, nI p) w = (fp, 0, nI p) := if_neg (fun q => b q.2.1)
    have e3 : xWa f z (fp, 0, nI p) w = (nI p, 1, nI p) := by
      unfold xWa rB
      rw [e2, if_neg b, rF_at]
    have hs : Sty (nI p, 1, nI p) (xWb f z (fp, 0, nI p) w) := by
      unfold xWb
      rw [e3]
      exact sty_NB f z 0 4 59 _
    have hx : (xW f z ((fp, 0, nI p), w, g1)).1 = xWb f z (fp, 0, nI p) w := by
      unfold xW
      split <;> rfl
    unfold XMW
    rw [e1, hx]
    exact ⟨xm_no hz hp (by decide) hs, fun q => absurd q (by decide)⟩
theorem xm_Ws {g2 g3 g4 g5 : Nat → Int32} (hz : z ≤ 120) : ∀ (n : Nat) (s : TW) (r : MR), XMW f z v0 v1 v2 g2 g3 g4 g5 s r → XMW f z v0 v1 v2 g2 g3 g4 g5 (xWs f z n s) (wL f z n r)
  | 0, _, _, h => h
  | n + 1, ⟨⟨fp, ft, kk⟩, w, g1⟩, ⟨⟨u, row⟩, e⟩, h => by
    obtain ⟨h1, h2⟩ := id h
    rcases h1 with ⟨a1, a2, p, a3, a4, a5⟩ | ⟨a1, a2, a3⟩
    · have a1 : ft = 0 := a1
      have a2 : e = 0 := a2
      have a4 : kk = nI p := a4
      have a5 : u = nT f z p := a5
      subst a1 a2 a4 a5
      obtain ⟨b1, b2⟩ := h2 rfl
      have hB := kG_iff (f := f) (c := 119) hz a3 (by decide)
      by_cases k : kG 119 (nT f z p)
      · rw [xWs_go (by omega) ⟨rfl, hB.mp k⟩, wL_go (by omega) ⟨rfl, k⟩]
        exact xm_Ws hz n _ _ (xm_W hz a3 b2 b1)
      · rw [xWs_stop (fun q => k (hB.mpr q.2)), wL_stop (fun q => k q.2)]
        exact h
    · rw [xWs_stop (fun q => a1 q.1), wL_stop (fun q => a1 (a2.symm.trans q.1))]
      exact h
theorem sty_Ws (f : Nat → Int32) (z : Nat) : ∀ (n : Nat) (s : TW), Sty s.1 (xWs f z n s).1
  | 0, _ => fun _ => ⟨rfl, rfl⟩
  | n + 1, s => by
    unfold xWs
    split
    · exact (sty_W f z s).tr (sty_Ws f z n _)
    · exact fun _ => ⟨rfl, rfl⟩
end TWO
section TWOS
variable {f : Nat → Int32} {z : Nat} {v0 v1 v2 : Int32} {g1 : Nat → Int32} {w : Nat}
theorem kd_eq {p : Nat} (hz : z ≤ 120) (hp : p ≤ z) : kdM (nT f z p) = kindX (bAt f z (nI p)) ∧ (¬ kdM (nT f z p) = 0 → p < z ∧ (nT f z p).2.2.2 = p + 1) := by
  rcases nT_cases (f := f) hz hp with ⟨-, -, ⟨V, e, -⟩, g⟩ | ⟨-, g, e, b⟩ | ⟨-, -, e, b⟩
  · have h : kdM (nT f z p) = 0 := by
      rw [e]
      unfold kdM
      refine if_neg (fun h => ?_)
      have h : (if figX f z (nI p) 120 0 ≤ 2 then (2 : Int32) else 0) = 1 := h
      split at h
      · exact absurd h (by decide)
      · exact absurd h (by decide)
    exact ⟨h.trans (fig_n g).2.1.symm, fun q => absurd h q⟩
  · rw [e, b]
    refine ⟨?_, fun _ => ⟨g, rfl⟩⟩
    unfold kdM
    by_cases t : tokL (f p)
    · have h1 : (if tokL (f p) then (1 : Int32) else 0) = 1 := if_pos t
      exact if_pos h1
    · have h1 : (if tokL (f p) then (1 : Int32) else 0) = 0 := if_neg t
      have h2 : ¬ (if tokL (f p) then (1 : Int32) else 0) = 1 := by rw [h1]; decide
      refine (if_neg h2).trans ?_
      unfold kindX
      have nn : ∀ c : Int32, tokL c → ¬ f p = c := fun c hc q => t (q ▸ hc)
      rw [if_neg (nn 118 (by decide)), if_neg (nn 98 (by decide)), if_neg (nn 104 (by decide)), if_neg (nn 100 (by decide)), if_neg (nn 115 (by decide))]
  · rw [e, b]
    exact ⟨by decide, fun q => absurd (by decide) q⟩
theorem sty_S (f : Nat → Int32) (z : Nat) (c : Int32) (s : TS) : Sty s.1 (xS f z c s).1 := by
  have h0 : Sty s.1 (xSa f z s.1 s.2.1) := by
    intro n
    have h1 : Sty s.1 (xS0 f z s.1 s.2.1) := by
      unfold xS0
      split
      · exact sty_F 1 _
      · split
        · exact sty_F 3 _
        · exact fun _ => ⟨rfl, rfl⟩
    exact h1 n
  have h1 : Sty s.1 (xSc f z c s.1 s.2.1) := (h0.tr (sty_NB f z 0 (c - 1) 44 _)).tr (sty_NB f z 1 20 59 _)
  unfold xS
  split <;> exact h1
/-- sounds: what is known of the two -/
def XMS (f : Nat → Int32) (z : Nat) (v0 v1 v2 : Int32) (w : Nat) (g1 : Nat → Int32) (s : TS) (r : MR) : Prop := XP_ f z s.1 r (fun row => row = nrm v0 v1 v2 1 0 0 w s.2.1 g1 s.2.2.1 s.2.2.2.1 s.2.2.2.2.1 s.2.2.2.2.2 ∧ s.2.1 ≤ 6)
theorem sR_eq {s : MS} (g : sG0 s) : sR f z s = mB (nRr f z 0 (s.2 0 - 1) (20 + (s.2 4).toNatClampNeg) 44 (uT f z s.1, sRa s)) (fun t => nRr f z 1 20 (32 + (s.2 4).toNatClampNeg) 59 t) := by
  unfold sR mB
  by_cases g1 : sG1 f z s
  · have e1 : (nRr f z 0 (s.2 0 - 1) (20 + (s.2 4).toNatClampNeg) 44 (uT f z s.1, sRa s)).2 = 0 := if_pos g1
    rw [if_pos e1]
    unfold sS sE
    rw [if_pos g, if_pos g1, if_pos g, if_pos g1]
    unfold nRr
    refine congrArg (Prod.mk _) ?_
    by_cases g2 : nGG f z 1 20 59 (sUb f z s)
    · rw [if_pos ⟨g, g1, g2⟩]
      exact (if_pos g2).symm
    · rw [if_neg (fun q => g2 q.2.2)]
      exact (if_neg g2).symm
  · have e1 : (nRr f z 0 (s.2 0 - 1) (20 + (s.2 4).toNatClampNeg) 44 (uT f z s.1, sRa s)).2 = nE 0 (s.2 0 - 1) (uT f z s.1) := if_neg g1
    have hne : ¬ nE 0 (s.2 0 - 1) (uT f z s.1) = 0 := by
      unfold nE
      split
      · decide
      · split <;> decide
    rw [if_neg (by rw [e1]; exact hne)]
    unfold sS sE
    rw [if_pos g, if_neg g1, if_pos g, if_neg g1, if_neg (fun q => g1 q.2.1)]
    unfold nRr
    rw [if_neg g1]
    rfl
theorem xm_S {p k : Nat} {fp : Int32} {g2 g3 g4 g5 row : Nat → Int32} (hz : z ≤ 120) (hp : p ≤ z) (hk : k ≤ 6) (hr : row = nrm v0 v1 v2 1 0 0 w k g1 g2 g3 g4 g5) : XMS f z v0 v1 v2 w g1 (xS f z v0 ((fp, 0, nI p), k, g2, g3, g4, g5)) (sR f z (nT f z p, row)) := by
  have r4 : row 4 = nI k := by rw [hr]; rfl
  have r00 : row 0 = v0 := by rw [hr]; rfl
  have n6 : (row 4 = 6) ↔ k = 6 := by rw [r4]; exact nI_eq (b := 6) (by omega) (by decide)
  obtain ⟨k1, k2⟩ := kd_eq (f := f) hz hp
  have hx : (xS f z v0 ((fp, 0, nI p), k, g2, g3, g4, g5)).1 = xSc f z v0 (fp, 0, nI p) k := by
    unfold xS
    split <;> rfl
  by_cases h0 : kdM (nT f z p) = 0
  · have ng : ¬ sG0 (nT f z p, row) := fun q => q.1 h0
    have e1 : sR f z (nT f z p, row) = ((nT f z p, row), 1) := by
      unfold sR sS sE
      rw [if_neg ng, if_neg (fun q => ng q.1), if_neg ng, if_pos h0]
    have e2 : xS0 f z (fp, 0, nI p) k = (nI p, 1, nI p) := by
      unfold xS0
      rw [if_pos (k1.symm.trans h0), rF_at]
    have hs : Sty (nI p, 1, nI p) (xSc f z v0 (fp, 0, nI p) k) := by
      unfold xSc xSb xSa
      rw [e2]
      exact Sty.tr (r := (nI p, 1, nI p + 1)) (fun _ => ⟨rfl, rfl⟩) ((sty_NB f z 0 (v0 - 1) 44 _).tr (sty_NB f z 1 20 59 _))
    unfold XMS
    rw [e1, hx]
    exact ⟨xm_no hz hp (by decide) hs, fun q => absurd q (by decide)⟩
  · by_cases h6 : k = 6
    · have ng : ¬ sG0 (nT f z p, row) := fun q => q.2 (n6.mpr h6)
      have e1 : sR f z (nT f z p, row) = ((nT f z p, row), 3) := by
        unfold sR sS sE
        rw [if_neg ng, if_neg (fun q => ng q.1), if_neg ng, if_neg h0]
      have e2 : xS0 f z (fp, 0, nI p) k = (nI p, 3, nI p) := by
        unfold xS0
        rw [if_neg (fun q => h0 (k1.trans q)), if_pos (by omega), rF_at]
      have hs : Sty (nI p, 3, nI p) (xSc f z v0 (fp, 0, nI p) k) := by
        unfold xSc xSb xSa
        rw [e2]
        exact Sty.tr (r := (nI p, 3, nI p + 1)) (fun _ => ⟨rfl, rfl⟩) ((sty_NB f z 0 (v0 - 1) 44 _).tr (sty_NB f z 1 20 59 _))
      unfold XMS
      rw [e1, hx]
      exact ⟨xm_no hz hp (by decide) hs, fun q => absurd q (by decide)⟩
    · have g : sG0 (nT f z p, row) := ⟨h0, fun q => h6 (n6.mp q)⟩
      obtain ⟨p1, p2⟩ := k2 h0
      have eu : uT f z (nT f z p) = nT f z (p + 1) := by
        unfold uT
        rw [p2]
      have e2 : xS0 f z (fp, 0, nI p) k = (fp, 0, nI p) := by
        unfold xS0
        rw [if_neg (fun q => h0 (k1.trans q)), if_neg (by omega)]
      have e3 : xSa f z (fp, 0, nI p) k = (fp, 0, nI (p + 1)) := by
        unfold xSa
        rw [e2]
        show (fp, (0 : Int32), nI p + 1) = _
        rw [show nI p + 1 = nI (p + 1) from nI_add p 1]
      have ra : sRa (nT f z p, row) = upd (upd row (14 + k) (kindX (bAt f z (nI p)))) 4 (nI k + 1) := by
        unfold sRa
        show upd (upd row (14 + (row 4).toNatClampNeg) (kdM (nT f z p))) 4 (row 4 + 1) = _
        rw [r4, nI_clamp (by omega), k1]
      have c4 : (row 4).toNatClampNeg = k := by rw [r4, nI_clamp (by omega)]
      have hA : XP_ f z (xSb f z v0 (fp, 0, nI p) k) (nRr f z 0 (v0 - 1) (20 + k) 44 (nT f z (p + 1), sRa (nT f z p, row))) (fun t => t = upd (sRa (nT f z p, row)) (20 + k) (rV f z 0 (v0 - 1) (nI (p + 1)))) := by
        unfold xSb
        rw [e3]
        exact xm_N hz (by omega) (by decide)
      have hB : XP_ f z (xSc f z v0 (fp, 0, nI p) k) (sR f z (nT f z p, row)) (fun t => t = upd (upd (sRa (nT f z p, row)) (20 + k) (rV f z 0 (v0 - 1) (nI (p + 1)))) (32 + k) (rV f z 1 20 (xSb f z v0 (fp, 0, nI p) k).2.2)) := by
        rw [sR_eq g]
        show XP_ f z _ (mB (nRr f z 0 (row 0 - 1) (20 + (row 4).toNatClampNeg) 44 (uT f z (nT f z p), sRa (nT f z p, row))) (fun t => nRr f z 1 20 (32 + (row 4).toNatClampNeg) 59 t)) _
        rw [c4, r00, eu]
        refine xp_bind hA (sty_NB f z 1 20 59 _) (fun fp2 p2_ row2 hp2 e hr2 => ?_)
        unfold xSc
        rw [e, ← hr2]
        exact xm_N hz hp2 (by decide)
      by_cases q : (sR f z (nT f z p, row)).2 = 0
      · have q2 : (xSc f z v0 (fp, 0, nI p) k).2.1 = 0 := by
          rcases hB.1 with ⟨a, -⟩ | ⟨a, b_, -⟩
          · exact a
          · exact absurd (b_.symm.trans q) a
        have ex : xS f z v0 ((fp, 0, nI p), k, g2, g3, g4, g5) = (xSc f z v0 (fp, 0, nI p) k, k + 1, upd g2 k (kindX (bAt f z (nI p))), upd g3 k (rV f z 0 (v0 - 1) (nI (p + 1))), upd g4 k (rV f z 1 20 (xSb f z v0 (fp, 0, nI p) k).2.2), upd g5 k 0) := by
          unfold xS
          rw [if_pos q2]
          show (xSc f z v0 (fp, 0, nI p) k, k + 1, upd g2 k (kindX (bAt f z (nI p))), upd g3 k (rV f z 0 (v0 - 1) (xSa f z (fp, 0, nI p) k).2.2), upd g4 k (rV f z 1 20 (xSb f z v0 (fp, 0, nI p) k).2.2), upd g5 k 0) = _
          rw [e3]
        unfold XMS
        rw [ex]
        refine ⟨hB.1, fun _ => ⟨?_, by show k + 1 ≤ 6; omega⟩⟩
        rw [hB.2 q, ra, hr]
        exact nrm_s (by omega)
      · unfold XMS
        rw [hx]
        exact ⟨hB.1, fun t => absurd t q⟩
theorem end_iff {p : Nat} (hz : z ≤ 120) (hp : p ≤ z) (hT : okT f z) : (nT f z p).1 = 3 ↔ bAt f z (nI p) = -1 := by
  rcases nT_cases (f := f) hz hp with ⟨-, -, ⟨V, e, -⟩, g⟩ | ⟨-, g, e, b⟩ | ⟨-, -, e, b⟩
  · rw [e]
    constructor
    · intro h
      exfalso
      have h : (if figX f z (nI p) 120 0 ≤ 2 then (2 : Int32) else 0) = 3 := h
      split at h
      · exact absurd h (by decide)
      · exact absurd h (by decide)
    · intro h
      exact absurd h (fig_n g).2.2
  · rw [e, b]
    constructor
    · intro h
      exfalso
      have h : (if tokL (f p) then (1 : Int32) else 0) = 3 := h
      split at h
      · exact absurd h (by decide)
      · exact absurd h (by decide)
    · intro h
      exact absurd h (hT p g)
  · rw [e, b]
    exact ⟨fun _ => rfl, fun _ => rfl⟩
theorem xm_Ss (hz : z ≤ 120) (hT : okT f z) : ∀ (n : Nat) (s : TS) (r : MR), 1 ≤ s.2.1 ∨ ¬ r.2 = 0 → XMS f z v0 v1 v2 w g1 s r → XMS f z v0 v1 v2 w g1 (xSs f z v0 n s) (sL f z n r)
  | 0, _, _, _, h => h
  | n + 1, ⟨⟨fp, ft, kk⟩, k, g2, g3, g4, g5⟩, ⟨⟨u, row⟩, e⟩, hk, h => by
    obtain ⟨h1, h2⟩ := id h
    rcases h1 with ⟨a1, a2, p, a3, a4, a5⟩ | ⟨a1, a2, a3⟩
    · have a1 : ft = 0 := a1
      have a2 : e = 0 := a2
      have a4 : kk = nI p := a4
      have a5 : u = nT f z p := a5
      subst a1 a2 a4 a5
      obtain ⟨b1, b2⟩ := h2 rfl
      have b2 : k ≤ 6 := b2
      have k1 : 1 ≤ k := hk.resolve_right (fun q => q rfl)
      have r4 : ¬ row 4 = 0 := by
        rw [b1]
        exact nI_ne0 k1 (by omega)
      have hE := end_iff (f := f) hz a3 hT
      by_cases q : bAt f z (nI p) = -1
      · rw [xSs_stop (fun t => t.2 q), sL_stop (fun t => t.2 ⟨hE.mpr q, r4⟩)]
        exact h
      · rw [xSs_go (by omega) ⟨rfl, q⟩, sL_go (by omega) ⟨rfl, fun t => q (hE.mp t.1)⟩]
        have hS := xm_S (f := f) (fp := fp) hz a3 b2 b1
        refine xm_Ss hz hT n _ _ ?_ hS
        by_cases t : (sR f z (nT f z p, row)).2 = 0
        · left
          show 1 ≤ (xS f z v0 ((fp, 0, nI p), k, g2, g3, g4, g5)).2.1
          unfold xS
          split
          · show 1 ≤ k + 1
            omega
          · exact k1
        · exact Or.inr t
    · rw [xSs_stop (fun q => a1 q.1), sL_stop (fun q => a1 (a2.symm.trans q.1))]
      exact h
/-- the two ways of reading -/
theorem xm_read (hz : z ≤ 120) (hT : okT f z) (g1 g2 g3 g4 g5 : Nat → Int32) : XMS f z (xL0 f z (0, 0, 0)) (xL1 f z (0, 0, 0)) (xL2 f z (0, 0, 0)) (xRw f z g1).2.1 (xRw f z g1).2.2 (xRs f z g1 g2 g3 g4 g5) (rR f z) := by
  have h1 := xm_law (f := f) hz g1 g2 g3 g4 g5
  have h2 : XMW f z (xL0 f z (0, 0, 0)) (xL1 f z (0, 0, 0)) (xL2 f z (0, 0, 0)) g2 g3 g4 g5 (xW f z (xLc f z (0, 0, 0), 0, g1)) (lRe f z) := by
    unfold XMW lRe
    refine xp_bind h1 (sty_W f z _) (fun fp p row hp e hr => ?_)
    rw [e]
    exact xm_W hz hp (by decide) hr
  have h3 : XMW f z (xL0 f z (0, 0, 0)) (xL1 f z (0, 0, 0)) (xL2 f z (0, 0, 0)) g2 g3 g4 g5 (xRw f z g1) (wL f z 6 (lRe f z)) := xm_Ws hz 6 _ _ h2
  unfold xRs rR
  generalize xRw f z g1 = W at h3 ⊢
  generalize wL f z 6 (lRe f z) = R at h3 ⊢
  obtain ⟨⟨fp, ft, kk⟩, w, gw⟩ := W
  obtain ⟨⟨u, row⟩, e⟩ := R
  obtain ⟨a, b⟩ := id h3
  rcases a with ⟨a1, a2, p, a3, a4, a5⟩ | ⟨a1, a2, a3⟩
  · have a1 : ft = 0 := a1
    have a2 : e = 0 := a2
    have a4 : kk = nI p := a4
    have a5 : u = nT f z p := a5
    subst a1 a2 a4 a5
    obtain ⟨b1, b2⟩ := b rfl
    have r4 : row 4 = 0 := by rw [b1]; rfl
    rw [sL_go (by omega) ⟨rfl, fun t => t.2 r4⟩]
    have hS := xm_S (f := f) (fp := fp) (k := 0) hz a3 (by decide) b1
    refine xm_Ss hz hT 6 _ _ ?_ hS
    by_cases t : (sR f z (nT f z p, row)).2 = 0
    · left
      rcases hS.1 with ⟨c1, -⟩ | ⟨c1, c2, -⟩
      · show 1 ≤ (xS f z (xL0 f z (0, 0, 0)) ((fp, 0, nI p), 0, g2, g3, g4, g5)).2.1
        unfold xS at c1 ⊢
        split
        · exact Nat.le_refl 1
        · rename_i q
          rw [if_neg q] at c1
          exact absurd c1 q
      · exact absurd (c2.symm.trans t) c1
    · exact Or.inr t
  · have a1 : ¬ ft = 0 := a1
    have a2 : e = ft := a2
    rw [sL_stop (fun q => a1 (a2.symm.trans q.1))]
    have hy := sty_S f z (xL0 f z (0, 0, 0)) ((fp, ft, kk), 0, g2, g3, g4, g5)
    have hy2 : Sty (xS f z (xL0 f z (0, 0, 0)) ((fp, ft, kk), 0, g2, g3, g4, g5)).1 (xSs f z (xL0 f z (0, 0, 0)) 6 (xS f z (xL0 f z (0, 0, 0)) ((fp, ft, kk), 0, g2, g3, g4, g5))).1 := by
      obtain ⟨y1, y2⟩ := hy a1
      rw [xSs_stop (fun q => a1 (y2.symm.trans q.1))]
      exact fun _ => ⟨rfl, rfl⟩
    obtain ⟨y1, y2⟩ := (hy.tr hy2) a1
    exact ⟨Or.inr ⟨by rw [y2]; exact a1, a2.trans y2.symm, y1.trans a3⟩, fun q => absurd (a2.symm.trans q) a1⟩
/-- what the class answers, and its fault -/
theorem lv_ans (hz : z ≤ 120) (hT : okT f z) (g1 g2 g3 g4 g5 : Nat → Int32) : ((xRs f z g1 g2 g3 g4 g5).1.2.1 = 0 → nI (xRs f z g1 g2 g3 g4 g5).2.1 = lvA f z ∧ ∀ lf : Int32, lf = lvF f z lf) ∧ (¬ (xRs f z g1 g2 g3 g4 g5).1.2.1 = 0 → -1000100 - (xRs f z g1 g2 g3 g4 g5).1.1 = lvA f z ∧ ∀ lf : Int32, (xRs f z g1 g2 g3 g4 g5).1.2.1 = lvF f z lf) := by
  have h := xm_read hz hT g1 g2 g3 g4 g5
  unfold lvA lvF
  obtain ⟨a, b⟩ := h
  rcases a with ⟨a1, a2, -⟩ | ⟨a1, a2, a3⟩
  · refine ⟨fun _ => ?_, fun q => absurd a1 q⟩
    obtain ⟨b1, -⟩ := b a2
    rw [if_pos a2, if_pos a2, b1]
    exact ⟨rfl, fun _ => rfl⟩
  · have n2 : ¬ (rR f z).2 = 0 := by rw [a2]; exact a1
    refine ⟨fun q => absurd q a1, fun _ => ?_⟩
    rw [if_neg n2, if_neg n2, a3]
    exact ⟨rfl, fun _ => a2.symm⟩
/-- the level that is read -/
theorem lv_row (hz : z ≤ 120) (hT : okT f z) (g1 g2 g3 g4 g5 : Nat → Int32) : ((xRs f z g1 g2 g3 g4 g5).1.2.1 = 0 ↔ (rR f z).2 = 0) ∧ ((rR f z).2 = 0 → (rR f z).1.2 = nrm (xL0 f z (0, 0, 0)) (xL1 f z (0, 0, 0)) (xL2 f z (0, 0, 0)) 1 0 0 (xRw f z g1).2.1 (xRs f z g1 g2 g3 g4 g5).2.1 (xRw f z g1).2.2 (xRs f z g1 g2 g3 g4 g5).2.2.1 (xRs f z g1 g2 g3 g4 g5).2.2.2.1 (xRs f z g1 g2 g3 g4 g5).2.2.2.2.1 (xRs f z g1 g2 g3 g4 g5).2.2.2.2.2) := by
  obtain ⟨a, b⟩ := xm_read hz hT g1 g2 g3 g4 g5
  refine ⟨?_, fun q => (b q).1⟩
  rcases a with ⟨a1, a2, -⟩ | ⟨a1, a2, -⟩
  · exact ⟨fun _ => a2, fun _ => a1⟩
  · exact ⟨fun q => absurd q a1, fun q => absurd (a2.symm.trans q) a1⟩
end TWOS
section RDOK
variable {f : Nat → Int32} {z : Nat}
theorem rngN {v L U : Int32} {l u : Nat} (hL : L.toInt = l) (hU : U.toInt = u) (h : ¬ (v < L ∨ U < v)) (hu : u < 2 ^ 30) : ∃ j : Nat, l ≤ j ∧ j ≤ u ∧ v = nI j := by
  have h1 : ¬ v < L := fun q => h (Or.inl q)
  have h2 : ¬ U < v := fun q => h (Or.inr q)
  rw [Int32.lt_iff_toInt_lt, hL] at h1
  rw [Int32.lt_iff_toInt_lt, hU] at h2
  obtain ⟨j, hj, rfl⟩ := nat_of (x := v) (n := u + 1) (by omega) (by omega) (by omega)
  rw [nI_toInt (by omega)] at h1
  exact ⟨j, by omega, by omega, rfl⟩
theorem mB_0 {r : MR} {k : MS → MR} (h : (mB r k).2 = 0) : r.2 = 0 ∧ mB r k = k r.1 := by
  unfold mB at h ⊢
  split at h
  · rename_i q
    exact ⟨q, if_pos q⟩
  · rename_i q
    exact absurd h q
theorem nRr_0 {lo hi c : Int32} {ix : Nat} {s : MS} (h : (nRr f z lo hi ix c s).2 = 0) : ∃ v : Int32, ¬ (v < lo ∨ hi < v) ∧ (nRr f z lo hi ix c s).1.2 = upd s.2 ix v := by
  have g : nGG f z lo hi c s.1 := by
    refine Decidable.byContradiction (fun q => ?_)
    have h2 : (nRr f z lo hi ix c s).2 = nE lo hi s.1 := if_neg q
    exact nE_nz _ _ _ (h2.symm.trans h)
  exact ⟨s.1.2.1, g.1.2, if_pos g.1⟩
theorem wR_0 {s : MS} (h : (wR f z s).2 = 0) : ¬ s.2 3 = 6 ∧ ∃ v : Int32, ¬ (v < 0 ∨ 4 < v) ∧ (wR f z s).1.2 = upd (upd s.2 3 (s.2 3 + 1)) (8 + (s.2 3).toNatClampNeg) v := by
  have g : wGG f z s := by
    refine Decidable.byContradiction (fun q => ?_)
    have h2 : (wR f z s).2 = wE f z s := if_neg q
    exact wE_nz _ _ _ (h2.symm.trans h)
  refine ⟨g.1.2, (uT f z s.1).2.1, g.2.1.2, ?_⟩
  show (wS f z s).2 = _
  unfold wS
  rw [if_pos g.1]
  exact if_pos g.2.1
theorem sR_0 {s : MS} (h : (sR f z s).2 = 0) : sG0 s ∧ ∃ v v2 : Int32, ¬ (v < 0 ∨ s.2 0 - 1 < v) ∧ ¬ (v2 < 1 ∨ 20 < v2) ∧ (sR f z s).1.2 = upd (upd (sRa s) (20 + (s.2 4).toNatClampNeg) v) (32 + (s.2 4).toNatClampNeg) v2 := by
  have g : sGG f z s := by
    refine Decidable.byContradiction (fun q => ?_)
    have h2 : (sR f z s).2 = sE f z s := if_neg q
    exact sE_nz _ _ _ (h2.symm.trans h)
  obtain ⟨g0, g1, g2⟩ := g
  refine ⟨g0, (uT f z s.1).2.1, (sUb f z s).2.1, g1.1.2, g2.1.2, ?_⟩
  have e1 : sRb f z s = upd (sRa s) (20 + (s.2 4).toNatClampNeg) (uT f z s.1).2.1 := if_pos g1.1
  show (sS f z s).2 = _
  unfold sS
  rw [if_pos g0, if_pos g1, ← e1]
  exact if_pos g2.1
theorem kindX_n {x : Int32} (h : ¬ kindX x = 0) : ∃ a : Nat, 1 ≤ a ∧ a ≤ 5 ∧ kindX x = nI a := by
  unfold kindX at h ⊢
  split
  · exact ⟨1, by decide, by decide, rfl⟩
  · split
    · exact ⟨2, by decide, by decide, rfl⟩
    · split
      · exact ⟨3, by decide, by decide, rfl⟩
      · split
        · exact ⟨4, by decide, by decide, rfl⟩
        · split
          · exact ⟨5, by decide, by decide, rfl⟩
          · rename_i h1 h2 h3 h4 h5
            rw [if_neg h1, if_neg h2, if_neg h3, if_neg h4, if_neg h5] at h
            exact absurd rfl h
theorem kdM_n {u : MU} (h : ¬ kdM u = 0) : ∃ a : Nat, 1 ≤ a ∧ a ≤ 5 ∧ kdM u = nI a := by
  unfold kdM at h ⊢
  split
  · rename_i q
    rw [if_pos q] at h
    exact kindX_n h
  · rename_i q
    rw [if_neg q] at h
    exact absurd rfl h
def rdS (k : Nat) (row : RF) : Prop := ∃ (c m re w : Nat) (g1 g2 g3 g4 g5 : RF), row = nrm (nI c) (nI m) (nI re) 1 0 0 w k g1 g2 g3 g4 g5 ∧ (5 ≤ c ∧ c ≤ 15 ∧ m < c ∧ re ≤ 4 ∧ w ≤ 6 ∧ k ≤ 6) ∧ (∀ i : Nat, i < w → ∃ x : Nat, x ≤ 4 ∧ g1 i = nI x) ∧ (∀ i : Nat, i < k → ∃ a p q l : Nat, (g2 i = nI a ∧ g3 i = nI p ∧ g5 i = nI q ∧ g4 i = nI l) ∧ 1 ≤ a ∧ a ≤ 5 ∧ p < c ∧ q ≤ 2 ∧ 1 ≤ l ∧ l ≤ 20)
theorem rd_law (h : (lRd f z).2 = 0) : rdS 0 (lRd f z).1.2 ∧ (lRd f z).1.2 3 = nI 0 := by
  obtain ⟨h1, e1⟩ := mB_0 (r := lRc f z) h
  have h' := h
  unfold lRd at h' ⊢
  rw [e1] at h' ⊢
  obtain ⟨v2, b2, r2⟩ := nRr_0 h'
  obtain ⟨h3, e3⟩ := mB_0 (r := lRb f z) h1
  unfold lRc at h1 r2 ⊢
  rw [e3] at h1 r2 ⊢
  obtain ⟨v1, b1, r1⟩ := nRr_0 h1
  obtain ⟨h5, e5⟩ := mB_0 (r := lRa f z) h3
  unfold lRb at h3 b1 r1 r2 ⊢
  rw [e5] at h3 b1 r1 r2 ⊢
  obtain ⟨v0, b0, r0_⟩ := nRr_0 h3
  have ra : (lRa f z).1.2 = r0 := rfl
  rw [ra] at r0_
  rw [r0_] at b1 r1
  rw [r1] at r2
  have e0 : upd r0 0 v0 0 = v0 := pk_us
  rw [e0] at b1
  obtain ⟨c, c1, c2, rfl⟩ := rngN (l := 5) (u := 15) rfl rfl b0 (by decide)
  have ec : nI c - 1 = nI (c - 1) := pk_sub (b := 1) (by omega)
  rw [ec] at b1
  obtain ⟨m, m1, m2, rfl⟩ := rngN (l := 0) (u := c - 1) rfl (nI_toInt (by omega)) b1 (by omega)
  obtain ⟨re, d1, d2, rfl⟩ := rngN (l := 0) (u := 4) rfl rfl b2 (by decide)
  have er := r2.trans (nrm_0 (g1 := fun _ => 0) (g2 := fun _ => 0) (g3 := fun _ => 0) (g4 := fun _ => 0) (g5 := fun _ => 0))
  refine ⟨⟨c, m, re, 0, _, _, _, _, _, er, ⟨c1, c2, by omega, d2, by decide, by decide⟩, fun i hi => absurd hi (Nat.not_lt_zero i), fun i hi => absurd hi (Nat.not_lt_zero i)⟩, ?_⟩
  rw [er]
  rfl
theorem rd_wind {s : MS} (hs : rdS 0 s.2) (h : (wR f z s).2 = 0) : rdS 0 (wR f z s).1.2 ∧ ∃ w : Nat, 1 ≤ w ∧ w ≤ 6 ∧ (wR f z s).1.2 3 = nI w := by
  obtain ⟨n6, v, b, e⟩ := wR_0 h
  obtain ⟨c, m, re, w, g1, g2, g3, g4, g5, er, B, W, S⟩ := hs
  obtain ⟨x, -, x2, rfl⟩ := rngN (l := 0) (u := 4) rfl rfl b (by decide)
  have e3 : s.2 3 = nI w := by rw [er]; rfl
  have hw : w < 6 := by
    rcases Nat.lt_or_ge w 6 with q | q
    · exact q
    · have : w = 6 := by omega
      exact absurd (by rw [e3, this]; rfl) n6
  rw [e3, nI_clamp (by omega), er, nrm_w hw] at e
  refine ⟨⟨c, m, re, w + 1, _, _, _, _, _, e, ⟨B.1, B.2.1, B.2.2.1, B.2.2.2.1, by omega, B.2.2.2.2.2⟩, fun i hi => ?_, S⟩, w + 1, by omega, by omega, by rw [e]; rfl⟩
  by_cases q : i = w
  · rw [q, pk_us]
    exact ⟨x, x2, rfl⟩
  · rw [pk_un q]
    exact W i (by omega)
theorem rd_winds : ∀ (n : Nat) (r : MR), (r.2 = 0 → rdS 0 r.1.2 ∧ ∃ w : Nat, 1 ≤ w ∧ w ≤ 6 ∧ r.1.2 3 = nI w) → (wL f z n r).2 = 0 → rdS 0 (wL f z n r).1.2 ∧ ∃ w : Nat, 1 ≤ w ∧ w ≤ 6 ∧ (wL f z n r).1.2 3 = nI w
  | 0, _, hr, h => hr h
  | n + 1, r, hr, h => by
    by_cases q : wLg r
    · rw [wL_go (by omega) q] at h ⊢
      exact rd_winds n _ (fun h2 => rd_wind (hr q.1).1 h2) h
    · rw [wL_stop q] at h ⊢
      exact hr h
theorem rd_sound {s : MS} {k w : Nat} (hw1 : 1 ≤ w) (hs : rdS k s.2) (e3 : s.2 3 = nI w) (hw6 : w ≤ 6) (h : (sR f z s).2 = 0) : rdS (k + 1) (sR f z s).1.2 ∧ (sR f z s).1.2 3 = nI w := by
  obtain ⟨g0, v, v2, b, b2, e⟩ := sR_0 h
  obtain ⟨c, m, re, w_, g1, g2, g3, g4, g5, er, B, W, S⟩ := hs
  obtain ⟨a, a1, a2, ea⟩ := kdM_n g0.1
  have e4 : s.2 4 = nI k := by rw [er]; rfl
  have e0 : s.2 0 = nI c := by rw [er]; rfl
  have hk : k < 6 := by
    rcases Nat.lt_or_ge k 6 with q | q
    · exact q
    · have : k = 6 := by omega
      exact absurd (by rw [e4, this]; rfl) g0.2
  have ec : nI c - 1 = nI (c - 1) := pk_sub (b := 1) (by omega)
  rw [e0, ec] at b
  obtain ⟨p, -, p2, rfl⟩ := rngN (l := 0) (u := c - 1) rfl (nI_toInt (by omega)) b (by omega)
  obtain ⟨l, l1, l2, rfl⟩ := rngN (l := 1) (u := 20) rfl rfl b2 (by decide)
  unfold sRa at e
  rw [e4, nI_clamp (by omega), ea, er, nrm_s hk] at e
  have ew : w_ = w := by
    rw [er] at e3
    exact (nI_eq (by omega) (by omega)).mp e3
  subst ew
  refine ⟨⟨c, m, re, w_, _, _, _, _, _, e, ⟨B.1, B.2.1, B.2.2.1, B.2.2.2.1, B.2.2.2.2.1, by omega⟩, W, fun i hi => ?_⟩, by rw [e]; rfl⟩
  by_cases q : i = k
  · rw [q, pk_us, pk_us, pk_us, pk_us]
    exact ⟨a, p, 0, l, ⟨rfl, rfl, rfl, rfl⟩, a1, a2, by omega, by decide, l1, l2⟩
  · rw [pk_un q, pk_un q, pk_un q, pk_un q]
    exact S i (by omega)
theorem rd_sounds {w : Nat} (hw1 : 1 ≤ w) (hw6 : w ≤ 6) : ∀ (n : Nat) (r : MR), (r.2 = 0 → ∃ k : Nat, 1 ≤ k ∧ rdS k r.1.2 ∧ r.1.2 3 = nI w) → (sL f z n r).2 = 0 → ∃ k : Nat, 1 ≤ k ∧ rdS k (sL f z n r).1.2 ∧ (sL f z n r).1.2 3 = nI w
  | 0, _, hr, h => hr h
  | n + 1, r, hr, h => by
    by_cases q : sLg r
    · rw [sL_go (by omega) q] at h ⊢
      refine rd_sounds hw1 hw6 n _ (fun h2 => ?_) h
      obtain ⟨k, -, k1, k2⟩ := hr q.1
      obtain ⟨a, b⟩ := rd_sound hw1 k1 k2 hw6 h2
      exact ⟨k + 1, by omega, a, b⟩
    · rw [sL_stop q] at h ⊢
      exact hr h
theorem rd_ok (h : (rR f z).2 = 0) : okN 999 (rR f z).1.2 := by
  have hW : (wL f z 6 (lRe f z)).2 = 0 → rdS 0 (wL f z 6 (lRe f z)).1.2 ∧ ∃ w : Nat, 1 ≤ w ∧ w ≤ 6 ∧ (wL f z 6 (lRe f z)).1.2 3 = nI w := by
    refine rd_winds 6 _ (fun h2 => ?_)
    obtain ⟨a, b⟩ := mB_0 (r := lRd f z) h2
    unfold lRe at h2 ⊢
    rw [b] at h2 ⊢
    exact rd_wind (rd_law a).1 h2
  have key : ∃ w : Nat, 1 ≤ w ∧ w ≤ 6 ∧ ∃ k : Nat, 1 ≤ k ∧ rdS k (rR f z).1.2 ∧ (rR f z).1.2 3 = nI w := by
    unfold rR at h ⊢
    generalize wL f z 6 (lRe f z) = r at h hW ⊢
    by_cases q : r.2 = 0
    · obtain ⟨a, w, w1, w2, w3⟩ := hW q
      have r4 : r.1.2 4 = 0 := by
        obtain ⟨c, m, re, w_, g1, g2, g3, g4, g5, er, -⟩ := a
        rw [er]
        rfl
      have g : sLg r := ⟨q, fun t => t.2 r4⟩
      rw [sL_go (by decide) g] at h ⊢
      refine ⟨w, w1, w2, rd_sounds w1 w2 6 _ (fun h2 => ?_) h⟩
      obtain ⟨x, y⟩ := rd_sound w1 a w3 w2 h2
      exact ⟨1, by decide, x, y⟩
    · rw [sL_stop (fun t => q t.1)] at h
      exact absurd h q
  obtain ⟨w, w1, w2, k, k1, ⟨c, m, re, w_, g1, g2, g3, g4, g5, er, B, W, S⟩, e3⟩ := key
  have ew : w_ = w := by
    rw [er] at e3
    exact (nI_eq (by omega) (by omega)).mp e3
  subst ew
  refine ⟨_, _, _, _, _, _, _, _, _, _, _, _, _, er, by decide, B.2.2.2.2.1, B.2.2.2.2.2, ?_⟩
  rw [er]
  exact okRow_of (ca := 1) (me := 0) ⟨rfl, rfl, rfl, rfl, rfl⟩ ⟨B.1, B.2.1, B.2.2.1, B.2.2.2.1, w1, k1, by decide, by decide, by decide⟩ B.2.2.2.2.1 B.2.2.2.2.2 W S
theorem ok_lev {Lv I0 I1 : RF} {An : Nat} {Ac : AC} (hs : okS Lv An Ac I0 I1) : okS (n_lev ((rR f z).2 = 0) (rR f z).1.2 Lv) (n_levN ((rR f z).2 = 0) An) (n_levA ((rR f z).2 = 0) Ac) I0 I1 := by
  unfold n_lev n_levN n_levA
  by_cases q : (rR f z).2 = 0
  · rw [if_pos q, if_pos q, if_pos q]
    exact ⟨Or.inr (rd_ok q), by decide, fun k hk => absurd hk (Nat.not_lt_zero k), hs.2.2.2.1, hs.2.2.2.2⟩
  · rw [if_neg q, if_neg q, if_neg q]
    exact hs
end RDOK
theorem an_row_ok {j n : Nat} {b : Int32} (hj : j < 8) (hb : ¬ (b < 0 ∨ 2 < b)) (hn : n ≤ 40) : an_row (nI j) b (nI n) = nI n := by
  have h := okr_ok hj hb hn
  unfold an_row
  rw [if_neg (by rintro (q | q | q); exact nI_nb hj q; exact hb q; exact q h.2.2.1), if_pos h.2.2.2]
theorem an_row_neg {j : Nat} {b n : Int32} (hj : j < 8) (hb : ¬ (b < 0 ∨ 2 < b)) (hn : n ≤ 40) (h0 : ¬ 0 ≤ n) : an_row (nI j) b n = -1000010 - 4 := by
  unfold an_row
  rw [if_neg (by rintro (q | q | q); exact nI_nb hj q; exact hb q; exact q hn), if_neg h0]
  decide
theorem dX4_comesTo_0 : decode cX4_comesTo 0 = .ok (.aload_n 0, 1) := dq_42 (by decide +kernel)
theorem dX4_comesTo_1 : decode cX4_comesTo 1 = .ok (.getfield 10, 3) := dq_180 (b1 := 0) (b2 := 10) (by decide +kernel) (by decide)
theorem dX4_comesTo_10 : decode cX4_comesTo 10 = .ok (.putfield 23, 3) := dq_181 (b1 := 0) (b2 := 23) (by decide +kernel) (by decide)
theorem dX4_comesTo_13 : decode cX4_comesTo 13 = .ok (.aload_n 0, 1) := dq_42 (by decide +kernel)
theorem dX4_comesTo_14 : decode cX4_comesTo 14 = .ok (.iconst 1, 1) := dq_4 (by decide +kernel)
theorem dX4_comesTo_15 : decode cX4_comesTo 15 = .ok (.iload_n 2, 1) := dq_28 (by decide +kernel)
theorem dX4_comesTo_16 : decode cX4_comesTo 16 = .ok (.iconst 4, 1) := dq_7 (by decide +kernel)
theorem dX4_comesTo_17 : decode cX4_comesTo 17 = .ok (.invokestatic 27, 3) := dq_184 (b1 := 0) (b2 := 27) (by decide +kernel) (by decide)
theorem dX4_comesTo_20 : decode cX4_comesTo 20 = .ok (.invokevirtual 33, 3) := dq_182 (b1 := 0) (b2 := 33) (by decide +kernel) (by decide)
theorem dX4_comesTo_23 : decode cX4_comesTo 23 = .ok (.ireturn, 1) := dq_172 (by decide +kernel)
theorem dX4_comesTo_4 : decode cX4_comesTo 4 = .ok (.aload_n 1, 1) := dq_43 (by decide +kernel)
theorem dX4_comesTo_5 : decode cX4_comesTo 5 = .ok (.invokevirtual 19, 3) := dq_182 (b1 := 0) (b2 := 19) (by decide +kernel) (by decide)
theorem dX4_comesTo_8 : decode cX4_comesTo 8 = .ok (.aload_n 0, 1) := dq_42 (by decide +kernel)
theorem dX4_comesTo_9 : decode cX4_comesTo 9 = .ok (.iload_n 3, 1) := dq_29 (by decide +kernel)
theorem dX7_as_0 : decode cX7_as 0 = .ok (.aload_n 0, 1) := dq_42 (by decide +kernel)
theorem dX7_as_1 : decode cX7_as 1 = .ok (.getfield 26, 3) := dq_180 (b1 := 0) (b2 := 26) (by decide +kernel) (by decide)
theorem dX7_as_11 : decode cX7_as 11 = .ok (.iload_n 2, 1) := dq_28 (by decide +kernel)
theorem dX7_as_12 : decode cX7_as 12 = .ok (.ifCond .lt 8, 3) := dq_155 (b1 := 0) (b2 := 8) (by decide +kernel) (by decide)
theorem dX7_as_15 : decode cX7_as 15 = .ok (.iload_n 2, 1) := dq_28 (by decide +kernel)
theorem dX7_as_16 : decode cX7_as 16 = .ok (.iconst 5, 1) := dq_8 (by decide +kernel)
theorem dX7_as_17 : decode cX7_as 17 = .ok (.if_icmp .le 6, 3) := dq_164 (b1 := 0) (b2 := 6) (by decide +kernel) (by decide)
theorem dX7_as_20 : decode cX7_as 20 = .ok (.ldc 72, 2) := dq_18 (b1 := 72) (by decide +kernel) (by decide)
theorem dX7_as_22 : decode cX7_as 22 = .ok (.ireturn, 1) := dq_172 (by decide +kernel)
theorem dX7_as_23 : decode cX7_as 23 = .ok (.aload_n 0, 1) := dq_42 (by decide +kernel)
theorem dX7_as_24 : decode cX7_as 24 = .ok (.getfield 26, 3) := dq_180 (b1 := 0) (b2 := 26) (by decide +kernel) (by decide)
theorem dX7_as_27 : decode cX7_as 27 = .ok (.getfield 301, 3) := dq_180 (b1 := 1) (b2 := 45) (by decide +kernel) (by decide)
theorem dX7_as_30 : decode cX7_as 30 = .ok (.iload_n 1, 1) := dq_27 (by decide +kernel)
theorem dX7_as_31 : decode cX7_as 31 = .ok (.iaload, 1) := dq_46 (by decide +kernel)
theorem dX7_as_32 : decode cX7_as 32 = .ok (.iload_n 2, 1) := dq_28 (by decide +kernel)
theorem dX7_as_33 : decode cX7_as 33 = .ok (.invokestatic 304, 3) := dq_184 (b1 := 1) (b2 := 48) (by decide +kernel) (by decide)
theorem dX7_as_36 : decode cX7_as 36 = .ok (.ifCond .eq 11, 3) := dq_153 (b1 := 0) (b2 := 11) (by decide +kernel) (by decide)
theorem dX7_as_39 : decode cX7_as 39 = .ok (.aload_n 0, 1) := dq_42 (by decide +kernel)
theorem dX7_as_4 : decode cX7_as 4 = .ok (.iload_n 1, 1) := dq_27 (by decide +kernel)
theorem dX7_as_40 : decode cX7_as 40 = .ok (.iload_n 1, 1) := dq_27 (by decide +kernel)
theorem dX7_as_41 : decode cX7_as 41 = .ok (.invokevirtual 81, 3) := dq_182 (b1 := 0) (b2 := 81) (by decide +kernel) (by decide)
theorem dX7_as_44 : decode cX7_as 44 = .ok (.goto 8, 3) := dq_167 (b1 := 0) (b2 := 8) (by decide +kernel) (by decide)
theorem dX7_as_47 : decode cX7_as 47 = .ok (.aload_n 0, 1) := dq_42 (by decide +kernel)
theorem dX7_as_48 : decode cX7_as 48 = .ok (.iconst 3, 1) := dq_6 (by decide +kernel)
theorem dX7_as_49 : decode cX7_as 49 = .ok (.invokevirtual 73, 3) := dq_182 (b1 := 0) (b2 := 73) (by decide +kernel) (by decide)
theorem dX7_as_5 : decode cX7_as 5 = .ok (.invokevirtual 173, 3) := dq_182 (b1 := 0) (b2 := 173) (by decide +kernel) (by decide)
theorem dX7_as_52 : decode cX7_as 52 = .ok (.ireturn, 1) := dq_172 (by decide +kernel)
theorem dX7_as_8 : decode cX7_as 8 = .ok (.ifCond .eq 12, 3) := dq_153 (b1 := 0) (b2 := 12) (by decide +kernel) (by decide)
theorem dX7_ask_0 : decode cX7_ask 0 = .ok (.aload_n 0, 1) := dq_42 (by decide +kernel)
theorem dX7_ask_1 : decode cX7_ask 1 = .ok (.getfield 26, 3) := dq_180 (b1 := 0) (b2 := 26) (by decide +kernel) (by decide)
theorem dX7_ask_11 : decode cX7_ask 11 = .ok (.iload_n 2, 1) := dq_28 (by decide +kernel)
theorem dX7_ask_12 : decode cX7_ask 12 = .ok (.invokestatic 307, 3) := dq_184 (b1 := 1) (b2 := 51) (by decide +kernel) (by decide)
theorem dX7_ask_15 : decode cX7_ask 15 = .ok (.ifCond .ne 6, 3) := dq_154 (b1 := 0) (b2 := 6) (by decide +kernel) (by decide)
theorem dX7_ask_18 : decode cX7_ask 18 = .ok (.ldc 72, 2) := dq_18 (b1 := 72) (by decide +kernel) (by decide)
theorem dX7_ask_20 : decode cX7_ask 20 = .ok (.ireturn, 1) := dq_172 (by decide +kernel)
theorem dX7_ask_21 : decode cX7_ask 21 = .ok (.aload_n 0, 1) := dq_42 (by decide +kernel)
theorem dX7_ask_22 : decode cX7_ask 22 = .ok (.getfield 61, 3) := dq_180 (b1 := 0) (b2 := 61) (by decide +kernel) (by decide)
theorem dX7_ask_25 : decode cX7_ask 25 = .ok (.aload_n 0, 1) := dq_42 (by decide +kernel)
theorem dX7_ask_26 : decode cX7_ask 26 = .ok (.getfield 26, 3) := dq_180 (b1 := 0) (b2 := 26) (by decide +kernel) (by decide)
theorem dX7_ask_29 : decode cX7_ask 29 = .ok (.iload_n 1, 1) := dq_27 (by decide +kernel)
theorem dX7_ask_30 : decode cX7_ask 30 = .ok (.iload_n 2, 1) := dq_28 (by decide +kernel)
theorem dX7_ask_31 : decode cX7_ask 31 = .ok (.invokevirtual 310, 3) := dq_182 (b1 := 1) (b2 := 54) (by decide +kernel) (by decide)
theorem dX7_ask_34 : decode cX7_ask 34 = .ok (.ireturn, 1) := dq_172 (by decide +kernel)
theorem dX7_ask_4 : decode cX7_ask 4 = .ok (.iload_n 1, 1) := dq_27 (by decide +kernel)
theorem dX7_ask_5 : decode cX7_ask 5 = .ok (.invokevirtual 173, 3) := dq_182 (b1 := 0) (b2 := 173) (by decide +kernel) (by decide)
theorem dX7_ask_8 : decode cX7_ask 8 = .ok (.ifCond .eq 10, 3) := dq_153 (b1 := 0) (b2 := 10) (by decide +kernel) (by decide)
theorem dX7_byTurns_0 : decode cX7_byTurns 0 = .ok (.aload_n 0, 1) := dq_42 (by decide +kernel)
theorem dX7_byTurns_1 : decode cX7_byTurns 1 = .ok (.getfield 26, 3) := dq_180 (b1 := 0) (b2 := 26) (by decide +kernel) (by decide)
theorem dX7_byTurns_10 : decode cX7_byTurns 10 = .ok (.ldc 141, 2) := dq_18 (b1 := 141) (by decide +kernel) (by decide)
theorem dX7_byTurns_12 : decode cX7_byTurns 12 = .ok (.ireturn, 1) := dq_172 (by decide +kernel)
theorem dX7_byTurns_13 : decode cX7_byTurns 13 = .ok (.iload_n 1, 1) := dq_27 (by decide +kernel)
theorem dX7_byTurns_14 : decode cX7_byTurns 14 = .ok (.ifCond .lt 19, 3) := dq_155 (b1 := 0) (b2 := 19) (by decide +kernel) (by decide)
theorem dX7_byTurns_17 : decode cX7_byTurns 17 = .ok (.iload_n 1, 1) := dq_27 (by decide +kernel)
theorem dX7_byTurns_18 : decode cX7_byTurns 18 = .ok (.iconst 4, 1) := dq_7 (by decide +kernel)
theorem dX7_byTurns_19 : decode cX7_byTurns 19 = .ok (.if_icmp .gt 14, 3) := dq_163 (b1 := 0) (b2 := 14) (by decide +kernel) (by decide)
theorem dX7_byTurns_22 : decode cX7_byTurns 22 = .ok (.iload_n 2, 1) := dq_28 (by decide +kernel)
theorem dX7_byTurns_23 : decode cX7_byTurns 23 = .ok (.iconst 1, 1) := dq_4 (by decide +kernel)
theorem dX7_byTurns_24 : decode cX7_byTurns 24 = .ok (.if_icmp .lt 9, 3) := dq_161 (b1 := 0) (b2 := 9) (by decide +kernel) (by decide)
theorem dX7_byTurns_27 : decode cX7_byTurns 27 = .ok (.iload_n 2, 1) := dq_28 (by decide +kernel)
theorem dX7_byTurns_28 : decode cX7_byTurns 28 = .ok (.bipush 20, 2) := dq_16 (b1 := 20) (by decide +kernel) (by decide)
theorem dX7_byTurns_30 : decode cX7_byTurns 30 = .ok (.if_icmp .le 6, 3) := dq_164 (b1 := 0) (b2 := 6) (by decide +kernel) (by decide)
theorem dX7_byTurns_33 : decode cX7_byTurns 33 = .ok (.ldc 72, 2) := dq_18 (b1 := 72) (by decide +kernel) (by decide)
theorem dX7_byTurns_35 : decode cX7_byTurns 35 = .ok (.ireturn, 1) := dq_172 (by decide +kernel)
theorem dX7_byTurns_36 : decode cX7_byTurns 36 = .ok (.aload_n 0, 1) := dq_42 (by decide +kernel)
theorem dX7_byTurns_37 : decode cX7_byTurns 37 = .ok (.getfield 47, 3) := dq_180 (b1 := 0) (b2 := 47) (by decide +kernel) (by decide)
theorem dX7_byTurns_4 : decode cX7_byTurns 4 = .ok (.invokevirtual 145, 3) := dq_182 (b1 := 0) (b2 := 145) (by decide +kernel) (by decide)
theorem dX7_byTurns_40 : decode cX7_byTurns 40 = .ok (.aload_n 0, 1) := dq_42 (by decide +kernel)
theorem dX7_byTurns_41 : decode cX7_byTurns 41 = .ok (.getfield 26, 3) := dq_180 (b1 := 0) (b2 := 26) (by decide +kernel) (by decide)
theorem dX7_byTurns_44 : decode cX7_byTurns 44 = .ok (.iload_n 1, 1) := dq_27 (by decide +kernel)
theorem dX7_byTurns_45 : decode cX7_byTurns 45 = .ok (.iload_n 2, 1) := dq_28 (by decide +kernel)
theorem dX7_byTurns_46 : decode cX7_byTurns 46 = .ok (.invokevirtual 243, 3) := dq_182 (b1 := 0) (b2 := 243) (by decide +kernel) (by decide)
theorem dX7_byTurns_49 : decode cX7_byTurns 49 = .ok (.ireturn, 1) := dq_172 (by decide +kernel)
theorem dX7_byTurns_7 : decode cX7_byTurns 7 = .ok (.ifCond .ne 6, 3) := dq_154 (b1 := 0) (b2 := 6) (by decide +kernel) (by decide)
theorem dX7_caps_0 : decode cX7_caps 0 = .ok (.aload_n 0, 1) := dq_42 (by decide +kernel)
theorem dX7_caps_1 : decode cX7_caps 1 = .ok (.getfield 26, 3) := dq_180 (b1 := 0) (b2 := 26) (by decide +kernel) (by decide)
theorem dX7_caps_10 : decode cX7_caps 10 = .ok (.ldc 141, 2) := dq_18 (b1 := 141) (by decide +kernel) (by decide)
theorem dX7_caps_12 : decode cX7_caps 12 = .ok (.ireturn, 1) := dq_172 (by decide +kernel)
theorem dX7_caps_13 : decode cX7_caps 13 = .ok (.iload_n 1, 1) := dq_27 (by decide +kernel)
theorem dX7_caps_14 : decode cX7_caps 14 = .ok (.invokestatic 221, 3) := dq_184 (b1 := 0) (b2 := 221) (by decide +kernel) (by decide)
theorem dX7_caps_17 : decode cX7_caps 17 = .ok (.ifCond .eq 9, 3) := dq_153 (b1 := 0) (b2 := 9) (by decide +kernel) (by decide)
theorem dX7_caps_20 : decode cX7_caps 20 = .ok (.iload_n 2, 1) := dq_28 (by decide +kernel)
theorem dX7_caps_21 : decode cX7_caps 21 = .ok (.bipush (-2), 2) := dq_16 (b1 := 254) (by decide +kernel) (by decide)
theorem dX7_caps_23 : decode cX7_caps 23 = .ok (.if_icmp .ge 6, 3) := dq_162 (b1 := 0) (b2 := 6) (by decide +kernel) (by decide)
theorem dX7_caps_26 : decode cX7_caps 26 = .ok (.ldc 72, 2) := dq_18 (b1 := 72) (by decide +kernel) (by decide)
theorem dX7_caps_28 : decode cX7_caps 28 = .ok (.ireturn, 1) := dq_172 (by decide +kernel)
theorem dX7_caps_29 : decode cX7_caps 29 = .ok (.iload_n 2, 1) := dq_28 (by decide +kernel)
theorem dX7_caps_30 : decode cX7_caps 30 = .ok (.iload_n 1, 1) := dq_27 (by decide +kernel)
theorem dX7_caps_31 : decode cX7_caps 31 = .ok (.if_icmp .lt 6, 3) := dq_161 (b1 := 0) (b2 := 6) (by decide +kernel) (by decide)
theorem dX7_caps_34 : decode cX7_caps 34 = .ok (.ldc 220, 2) := dq_18 (b1 := 220) (by decide +kernel) (by decide)
theorem dX7_caps_36 : decode cX7_caps 36 = .ok (.ireturn, 1) := dq_172 (by decide +kernel)
theorem dX7_caps_37 : decode cX7_caps 37 = .ok (.aload_n 0, 1) := dq_42 (by decide +kernel)
theorem dX7_caps_38 : decode cX7_caps 38 = .ok (.getfield 54, 3) := dq_180 (b1 := 0) (b2 := 54) (by decide +kernel) (by decide)
theorem dX7_caps_4 : decode cX7_caps 4 = .ok (.invokevirtual 145, 3) := dq_182 (b1 := 0) (b2 := 145) (by decide +kernel) (by decide)
theorem dX7_caps_41 : decode cX7_caps 41 = .ok (.aload_n 0, 1) := dq_42 (by decide +kernel)
theorem dX7_caps_42 : decode cX7_caps 42 = .ok (.getfield 26, 3) := dq_180 (b1 := 0) (b2 := 26) (by decide +kernel) (by decide)
theorem dX7_caps_45 : decode cX7_caps 45 = .ok (.iload_n 1, 1) := dq_27 (by decide +kernel)
theorem dX7_caps_46 : decode cX7_caps 46 = .ok (.iconst (-1), 1) := dq_2 (by decide +kernel)
theorem dX7_caps_47 : decode cX7_caps 47 = .ok (.invokevirtual 224, 3) := dq_182 (b1 := 0) (b2 := 224) (by decide +kernel) (by decide)
theorem dX7_caps_50 : decode cX7_caps 50 = .ok (.iload_n 2, 1) := dq_28 (by decide +kernel)
theorem dX7_caps_51 : decode cX7_caps 51 = .ok (.iconst (-1), 1) := dq_2 (by decide +kernel)
theorem dX7_caps_52 : decode cX7_caps 52 = .ok (.if_icmp .ne 11, 3) := dq_160 (b1 := 0) (b2 := 11) (by decide +kernel) (by decide)
theorem dX7_caps_55 : decode cX7_caps 55 = .ok (.aload_n 0, 1) := dq_42 (by decide +kernel)
theorem dX7_caps_56 : decode cX7_caps 56 = .ok (.getfield 54, 3) := dq_180 (b1 := 0) (b2 := 54) (by decide +kernel) (by decide)
theorem dX7_caps_59 : decode cX7_caps 59 = .ok (.getfield 228, 3) := dq_180 (b1 := 0) (b2 := 228) (by decide +kernel) (by decide)
theorem dX7_caps_62 : decode cX7_caps 62 = .ok (.ireturn, 1) := dq_172 (by decide +kernel)
theorem dX7_caps_63 : decode cX7_caps 63 = .ok (.iload_n 2, 1) := dq_28 (by decide +kernel)
theorem dX7_caps_64 : decode cX7_caps 64 = .ok (.bipush (-2), 2) := dq_16 (b1 := 254) (by decide +kernel) (by decide)
theorem dX7_caps_66 : decode cX7_caps 66 = .ok (.if_icmp .ne 13, 3) := dq_160 (b1 := 0) (b2 := 13) (by decide +kernel) (by decide)
theorem dX7_caps_69 : decode cX7_caps 69 = .ok (.aload_n 0, 1) := dq_42 (by decide +kernel)
theorem dX7_caps_7 : decode cX7_caps 7 = .ok (.ifCond .ne 6, 3) := dq_154 (b1 := 0) (b2 := 6) (by decide +kernel) (by decide)
theorem dX7_caps_70 : decode cX7_caps 70 = .ok (.getfield 54, 3) := dq_180 (b1 := 0) (b2 := 54) (by decide +kernel) (by decide)
theorem dX7_caps_73 : decode cX7_caps 73 = .ok (.getfield 231, 3) := dq_180 (b1 := 0) (b2 := 231) (by decide +kernel) (by decide)
theorem dX7_caps_76 : decode cX7_caps 76 = .ok (.goto 11, 3) := dq_167 (b1 := 0) (b2 := 11) (by decide +kernel) (by decide)
theorem dX7_caps_79 : decode cX7_caps 79 = .ok (.aload_n 0, 1) := dq_42 (by decide +kernel)
theorem dX7_caps_80 : decode cX7_caps 80 = .ok (.getfield 54, 3) := dq_180 (b1 := 0) (b2 := 54) (by decide +kernel) (by decide)
theorem dX7_caps_83 : decode cX7_caps 83 = .ok (.iload_n 2, 1) := dq_28 (by decide +kernel)
theorem dX7_caps_84 : decode cX7_caps 84 = .ok (.invokevirtual 234, 3) := dq_182 (b1 := 0) (b2 := 234) (by decide +kernel) (by decide)
theorem dX7_caps_87 : decode cX7_caps 87 = .ok (.ireturn, 1) := dq_172 (by decide +kernel)
theorem dX7_copy_0 : decode cX7_copy 0 = .ok (.iload_n 1, 1) := dq_27 (by decide +kernel)
theorem dX7_copy_1 : decode cX7_copy 1 = .ok (.invokestatic 65, 3) := dq_184 (b1 := 0) (b2 := 65) (by decide +kernel) (by decide)
theorem dX7_copy_11 : decode cX7_copy 11 = .ok (.ifCond .ne 6, 3) := dq_154 (b1 := 0) (b2 := 6) (by decide +kernel) (by decide)
theorem dX7_copy_14 : decode cX7_copy 14 = .ok (.ldc 72, 2) := dq_18 (b1 := 72) (by decide +kernel) (by decide)
theorem dX7_copy_16 : decode cX7_copy 16 = .ok (.ireturn, 1) := dq_172 (by decide +kernel)
theorem dX7_copy_17 : decode cX7_copy 17 = .ok (.aload_n 0, 1) := dq_42 (by decide +kernel)
theorem dX7_copy_18 : decode cX7_copy 18 = .ok (.getfield 10, 3) := dq_180 (b1 := 0) (b2 := 10) (by decide +kernel) (by decide)
theorem dX7_copy_21 : decode cX7_copy 21 = .ok (.iload_n 1, 1) := dq_27 (by decide +kernel)
theorem dX7_copy_22 : decode cX7_copy 22 = .ok (.iload_n 2, 1) := dq_28 (by decide +kernel)
theorem dX7_copy_23 : decode cX7_copy 23 = .ok (.iload_n 3, 1) := dq_29 (by decide +kernel)
theorem dX7_copy_24 : decode cX7_copy 24 = .ok (.iload 4, 2) := dq_21 (b1 := 4) (by decide +kernel) (by decide)
theorem dX7_copy_26 : decode cX7_copy 26 = .ok (.iload 5, 2) := dq_21 (b1 := 5) (by decide +kernel) (by decide)
theorem dX7_copy_28 : decode cX7_copy 28 = .ok (.invokevirtual 91, 3) := dq_182 (b1 := 0) (b2 := 91) (by decide +kernel) (by decide)
theorem dX7_copy_31 : decode cX7_copy 31 = .ok (.istore 6, 2) := dq_54 (b1 := 6) (by decide +kernel) (by decide)
theorem dX7_copy_33 : decode cX7_copy 33 = .ok (.iload 6, 2) := dq_21 (b1 := 6) (by decide +kernel) (by decide)
theorem dX7_copy_35 : decode cX7_copy 35 = .ok (.ifCond .eq 10, 3) := dq_153 (b1 := 0) (b2 := 10) (by decide +kernel) (by decide)
theorem dX7_copy_38 : decode cX7_copy 38 = .ok (.aload_n 0, 1) := dq_42 (by decide +kernel)
theorem dX7_copy_39 : decode cX7_copy 39 = .ok (.iload 6, 2) := dq_21 (b1 := 6) (by decide +kernel) (by decide)
theorem dX7_copy_4 : decode cX7_copy 4 = .ok (.ifCond .eq 10, 3) := dq_153 (b1 := 0) (b2 := 10) (by decide +kernel) (by decide)
theorem dX7_copy_41 : decode cX7_copy 41 = .ok (.invokevirtual 73, 3) := dq_182 (b1 := 0) (b2 := 73) (by decide +kernel) (by decide)
theorem dX7_copy_44 : decode cX7_copy 44 = .ok (.ireturn, 1) := dq_172 (by decide +kernel)
theorem dX7_copy_45 : decode cX7_copy 45 = .ok (.aload_n 0, 1) := dq_42 (by decide +kernel)
theorem dX7_copy_46 : decode cX7_copy 46 = .ok (.getfield 10, 3) := dq_180 (b1 := 0) (b2 := 10) (by decide +kernel) (by decide)
theorem dX7_copy_49 : decode cX7_copy 49 = .ok (.iload_n 1, 1) := dq_27 (by decide +kernel)
theorem dX7_copy_50 : decode cX7_copy 50 = .ok (.iload_n 2, 1) := dq_28 (by decide +kernel)
theorem dX7_copy_51 : decode cX7_copy 51 = .ok (.iload_n 3, 1) := dq_29 (by decide +kernel)
theorem dX7_copy_52 : decode cX7_copy 52 = .ok (.iload 4, 2) := dq_21 (b1 := 4) (by decide +kernel) (by decide)
theorem dX7_copy_54 : decode cX7_copy 54 = .ok (.iload 5, 2) := dq_21 (b1 := 5) (by decide +kernel) (by decide)
theorem dX7_copy_56 : decode cX7_copy 56 = .ok (.invokevirtual 95, 3) := dq_182 (b1 := 0) (b2 := 95) (by decide +kernel) (by decide)
theorem dX7_copy_59 : decode cX7_copy 59 = .ok (.aload_n 0, 1) := dq_42 (by decide +kernel)
theorem dX7_copy_60 : decode cX7_copy 60 = .ok (.iload 5, 2) := dq_21 (b1 := 5) (by decide +kernel) (by decide)
theorem dX7_copy_62 : decode cX7_copy 62 = .ok (.invokevirtual 81, 3) := dq_182 (b1 := 0) (b2 := 81) (by decide +kernel) (by decide)
theorem dX7_copy_65 : decode cX7_copy 65 = .ok (.ireturn, 1) := dq_172 (by decide +kernel)
theorem dX7_copy_7 : decode cX7_copy 7 = .ok (.iload_n 3, 1) := dq_29 (by decide +kernel)
theorem dX7_copy_8 : decode cX7_copy 8 = .ok (.invokestatic 65, 3) := dq_184 (b1 := 0) (b2 := 65) (by decide +kernel) (by decide)
theorem dX7_drop_0 : decode cX7_drop 0 = .ok (.iload_n 1, 1) := dq_27 (by decide +kernel)
theorem dX7_drop_1 : decode cX7_drop 1 = .ok (.invokestatic 65, 3) := dq_184 (b1 := 0) (b2 := 65) (by decide +kernel) (by decide)
theorem dX7_drop_10 : decode cX7_drop 10 = .ok (.aload_n 0, 1) := dq_42 (by decide +kernel)
theorem dX7_drop_11 : decode cX7_drop 11 = .ok (.getfield 10, 3) := dq_180 (b1 := 0) (b2 := 10) (by decide +kernel) (by decide)
theorem dX7_drop_14 : decode cX7_drop 14 = .ok (.iload_n 1, 1) := dq_27 (by decide +kernel)
theorem dX7_drop_15 : decode cX7_drop 15 = .ok (.invokevirtual 99, 3) := dq_182 (b1 := 0) (b2 := 99) (by decide +kernel) (by decide)
theorem dX7_drop_18 : decode cX7_drop 18 = .ok (.ifCond .eq 9, 3) := dq_153 (b1 := 0) (b2 := 9) (by decide +kernel) (by decide)
theorem dX7_drop_21 : decode cX7_drop 21 = .ok (.aload_n 0, 1) := dq_42 (by decide +kernel)
theorem dX7_drop_22 : decode cX7_drop 22 = .ok (.iconst 1, 1) := dq_4 (by decide +kernel)
theorem dX7_drop_23 : decode cX7_drop 23 = .ok (.invokevirtual 73, 3) := dq_182 (b1 := 0) (b2 := 73) (by decide +kernel) (by decide)
theorem dX7_drop_26 : decode cX7_drop 26 = .ok (.ireturn, 1) := dq_172 (by decide +kernel)
theorem dX7_drop_27 : decode cX7_drop 27 = .ok (.aload_n 0, 1) := dq_42 (by decide +kernel)
theorem dX7_drop_28 : decode cX7_drop 28 = .ok (.aload_n 0, 1) := dq_42 (by decide +kernel)
theorem dX7_drop_29 : decode cX7_drop 29 = .ok (.getfield 10, 3) := dq_180 (b1 := 0) (b2 := 10) (by decide +kernel) (by decide)
theorem dX7_drop_32 : decode cX7_drop 32 = .ok (.iload_n 1, 1) := dq_27 (by decide +kernel)
theorem dX7_drop_33 : decode cX7_drop 33 = .ok (.invokevirtual 102, 3) := dq_182 (b1 := 0) (b2 := 102) (by decide +kernel) (by decide)
theorem dX7_drop_36 : decode cX7_drop 36 = .ok (.invokevirtual 81, 3) := dq_182 (b1 := 0) (b2 := 81) (by decide +kernel) (by decide)
theorem dX7_drop_39 : decode cX7_drop 39 = .ok (.ireturn, 1) := dq_172 (by decide +kernel)
theorem dX7_drop_4 : decode cX7_drop 4 = .ok (.ifCond .ne 6, 3) := dq_154 (b1 := 0) (b2 := 6) (by decide +kernel) (by decide)
theorem dX7_drop_7 : decode cX7_drop 7 = .ok (.ldc 72, 2) := dq_18 (b1 := 72) (by decide +kernel) (by decide)
theorem dX7_drop_9 : decode cX7_drop 9 = .ok (.ireturn, 1) := dq_172 (by decide +kernel)
theorem dX7_feed_0 : decode cX7_feed 0 = .ok (.iload_n 1, 1) := dq_27 (by decide +kernel)
theorem dX7_feed_1 : decode cX7_feed 1 = .ok (.ifCond .lt 10, 3) := dq_155 (b1 := 0) (b2 := 10) (by decide +kernel) (by decide)
theorem dX7_feed_11 : decode cX7_feed 11 = .ok (.ldc 72, 2) := dq_18 (b1 := 72) (by decide +kernel) (by decide)
theorem dX7_feed_13 : decode cX7_feed 13 = .ok (.ireturn, 1) := dq_172 (by decide +kernel)
theorem dX7_feed_14 : decode cX7_feed 14 = .ok (.aload_n 0, 1) := dq_42 (by decide +kernel)
theorem dX7_feed_15 : decode cX7_feed 15 = .ok (.getfield 19, 3) := dq_180 (b1 := 0) (b2 := 19) (by decide +kernel) (by decide)
theorem dX7_feed_18 : decode cX7_feed 18 = .ok (.invokevirtual 105, 3) := dq_182 (b1 := 0) (b2 := 105) (by decide +kernel) (by decide)
theorem dX7_feed_21 : decode cX7_feed 21 = .ok (.ifCond .eq 6, 3) := dq_153 (b1 := 0) (b2 := 6) (by decide +kernel) (by decide)
theorem dX7_feed_24 : decode cX7_feed 24 = .ok (.ldc 109, 2) := dq_18 (b1 := 109) (by decide +kernel) (by decide)
theorem dX7_feed_26 : decode cX7_feed 26 = .ok (.ireturn, 1) := dq_172 (by decide +kernel)
theorem dX7_feed_27 : decode cX7_feed 27 = .ok (.aload_n 0, 1) := dq_42 (by decide +kernel)
theorem dX7_feed_28 : decode cX7_feed 28 = .ok (.getfield 19, 3) := dq_180 (b1 := 0) (b2 := 19) (by decide +kernel) (by decide)
theorem dX7_feed_31 : decode cX7_feed 31 = .ok (.iload_n 1, 1) := dq_27 (by decide +kernel)
theorem dX7_feed_32 : decode cX7_feed 32 = .ok (.invokevirtual 110, 3) := dq_182 (b1 := 0) (b2 := 110) (by decide +kernel) (by decide)
theorem dX7_feed_35 : decode cX7_feed 35 = .ok (.ireturn, 1) := dq_172 (by decide +kernel)
theorem dX7_feed_4 : decode cX7_feed 4 = .ok (.iload_n 1, 1) := dq_27 (by decide +kernel)
theorem dX7_feed_5 : decode cX7_feed 5 = .ok (.sipush 255, 3) := dq_17 (b1 := 0) (b2 := 255) (by decide +kernel) (by decide)
theorem dX7_feed_8 : decode cX7_feed 8 = .ok (.if_icmp .le 6, 3) := dq_164 (b1 := 0) (b2 := 6) (by decide +kernel) (by decide)
theorem dX7_had_0 : decode cX7_had 0 = .ok (.aload_n 0, 1) := dq_42 (by decide +kernel)
theorem dX7_had_1 : decode cX7_had 1 = .ok (.getfield 26, 3) := dq_180 (b1 := 0) (b2 := 26) (by decide +kernel) (by decide)
theorem dX7_had_10 : decode cX7_had 10 = .ok (.ldc 141, 2) := dq_18 (b1 := 141) (by decide +kernel) (by decide)
theorem dX7_had_12 : decode cX7_had 12 = .ok (.ireturn, 1) := dq_172 (by decide +kernel)
theorem dX7_had_13 : decode cX7_had 13 = .ok (.iload_n 1, 1) := dq_27 (by decide +kernel)
theorem dX7_had_14 : decode cX7_had 14 = .ok (.ifCond .lt 23, 3) := dq_155 (b1 := 0) (b2 := 23) (by decide +kernel) (by decide)
theorem dX7_had_17 : decode cX7_had 17 = .ok (.iload_n 1, 1) := dq_27 (by decide +kernel)
theorem dX7_had_18 : decode cX7_had 18 = .ok (.iconst 1, 1) := dq_4 (by decide +kernel)
theorem dX7_had_19 : decode cX7_had 19 = .ok (.aload_n 0, 1) := dq_42 (by decide +kernel)
theorem dX7_had_20 : decode cX7_had 20 = .ok (.getfield 26, 3) := dq_180 (b1 := 0) (b2 := 26) (by decide +kernel) (by decide)
theorem dX7_had_23 : decode cX7_had 23 = .ok (.getfield 135, 3) := dq_180 (b1 := 0) (b2 := 135) (by decide +kernel) (by decide)
theorem dX7_had_26 : decode cX7_had 26 = .ok (.ishl, 1) := dq_120 (by decide +kernel)
theorem dX7_had_27 : decode cX7_had 27 = .ok (.if_icmp .ge 10, 3) := dq_162 (b1 := 0) (b2 := 10) (by decide +kernel) (by decide)
theorem dX7_had_30 : decode cX7_had 30 = .ok (.iload_n 2, 1) := dq_28 (by decide +kernel)
theorem dX7_had_31 : decode cX7_had 31 = .ok (.invokestatic 221, 3) := dq_184 (b1 := 0) (b2 := 221) (by decide +kernel) (by decide)
theorem dX7_had_34 : decode cX7_had 34 = .ok (.ifCond .ne 6, 3) := dq_154 (b1 := 0) (b2 := 6) (by decide +kernel) (by decide)
theorem dX7_had_37 : decode cX7_had 37 = .ok (.ldc 72, 2) := dq_18 (b1 := 72) (by decide +kernel) (by decide)
theorem dX7_had_39 : decode cX7_had 39 = .ok (.ireturn, 1) := dq_172 (by decide +kernel)
theorem dX7_had_4 : decode cX7_had 4 = .ok (.invokevirtual 145, 3) := dq_182 (b1 := 0) (b2 := 145) (by decide +kernel) (by decide)
theorem dX7_had_40 : decode cX7_had 40 = .ok (.aload_n 0, 1) := dq_42 (by decide +kernel)
theorem dX7_had_41 : decode cX7_had 41 = .ok (.getfield 54, 3) := dq_180 (b1 := 0) (b2 := 54) (by decide +kernel) (by decide)
theorem dX7_had_44 : decode cX7_had 44 = .ok (.aload_n 0, 1) := dq_42 (by decide +kernel)
theorem dX7_had_45 : decode cX7_had 45 = .ok (.getfield 26, 3) := dq_180 (b1 := 0) (b2 := 26) (by decide +kernel) (by decide)
theorem dX7_had_48 : decode cX7_had 48 = .ok (.iload_n 2, 1) := dq_28 (by decide +kernel)
theorem dX7_had_49 : decode cX7_had 49 = .ok (.iload_n 1, 1) := dq_27 (by decide +kernel)
theorem dX7_had_50 : decode cX7_had 50 = .ok (.invokevirtual 224, 3) := dq_182 (b1 := 0) (b2 := 224) (by decide +kernel) (by decide)
theorem dX7_had_53 : decode cX7_had 53 = .ok (.aload_n 0, 1) := dq_42 (by decide +kernel)
theorem dX7_had_54 : decode cX7_had 54 = .ok (.getfield 54, 3) := dq_180 (b1 := 0) (b2 := 54) (by decide +kernel) (by decide)
theorem dX7_had_57 : decode cX7_had 57 = .ok (.getfield 228, 3) := dq_180 (b1 := 0) (b2 := 228) (by decide +kernel) (by decide)
theorem dX7_had_60 : decode cX7_had 60 = .ok (.ifCond .ne 8, 3) := dq_154 (b1 := 0) (b2 := 8) (by decide +kernel) (by decide)
theorem dX7_had_63 : decode cX7_had 63 = .ok (.ldc 220, 2) := dq_18 (b1 := 220) (by decide +kernel) (by decide)
theorem dX7_had_65 : decode cX7_had 65 = .ok (.goto 10, 3) := dq_167 (b1 := 0) (b2 := 10) (by decide +kernel) (by decide)
theorem dX7_had_68 : decode cX7_had 68 = .ok (.aload_n 0, 1) := dq_42 (by decide +kernel)
theorem dX7_had_69 : decode cX7_had 69 = .ok (.getfield 54, 3) := dq_180 (b1 := 0) (b2 := 54) (by decide +kernel) (by decide)
theorem dX7_had_7 : decode cX7_had 7 = .ok (.ifCond .ne 6, 3) := dq_154 (b1 := 0) (b2 := 6) (by decide +kernel) (by decide)
theorem dX7_had_72 : decode cX7_had 72 = .ok (.getfield 231, 3) := dq_180 (b1 := 0) (b2 := 231) (by decide +kernel) (by decide)
theorem dX7_had_75 : decode cX7_had 75 = .ok (.ireturn, 1) := dq_172 (by decide +kernel)
theorem dX7_level_0 : decode cX7_level 0 = .ok (.aload_n 0, 1) := dq_42 (by decide +kernel)
theorem dX7_level_1 : decode cX7_level 1 = .ok (.getfield 19, 3) := dq_180 (b1 := 0) (b2 := 19) (by decide +kernel) (by decide)
theorem dX7_level_12 : decode cX7_level 12 = .ok (.aload_n 0, 1) := dq_42 (by decide +kernel)
theorem dX7_level_13 : decode cX7_level 13 = .ok (.iload_n 1, 1) := dq_27 (by decide +kernel)
theorem dX7_level_14 : decode cX7_level 14 = .ok (.putfield 117, 3) := dq_181 (b1 := 0) (b2 := 117) (by decide +kernel) (by decide)
theorem dX7_level_17 : decode cX7_level 17 = .ok (.ldc 121, 2) := dq_18 (b1 := 121) (by decide +kernel) (by decide)
theorem dX7_level_19 : decode cX7_level 19 = .ok (.aload_n 0, 1) := dq_42 (by decide +kernel)
theorem dX7_level_20 : decode cX7_level 20 = .ok (.getfield 19, 3) := dq_180 (b1 := 0) (b2 := 19) (by decide +kernel) (by decide)
theorem dX7_level_23 : decode cX7_level 23 = .ok (.getfield 122, 3) := dq_180 (b1 := 0) (b2 := 122) (by decide +kernel) (by decide)
theorem dX7_level_26 : decode cX7_level 26 = .ok (.isub, 1) := dq_100 (by decide +kernel)
theorem dX7_level_27 : decode cX7_level 27 = .ok (.ireturn, 1) := dq_172 (by decide +kernel)
theorem dX7_level_28 : decode cX7_level 28 = .ok (.aload_n 0, 1) := dq_42 (by decide +kernel)
theorem dX7_level_29 : decode cX7_level 29 = .ok (.getfield 26, 3) := dq_180 (b1 := 0) (b2 := 26) (by decide +kernel) (by decide)
theorem dX7_level_32 : decode cX7_level 32 = .ok (.aload_n 0, 1) := dq_42 (by decide +kernel)
theorem dX7_level_33 : decode cX7_level 33 = .ok (.getfield 19, 3) := dq_180 (b1 := 0) (b2 := 19) (by decide +kernel) (by decide)
theorem dX7_level_36 : decode cX7_level 36 = .ok (.getfield 125, 3) := dq_180 (b1 := 0) (b2 := 125) (by decide +kernel) (by decide)
theorem dX7_level_39 : decode cX7_level 39 = .ok (.invokevirtual 128, 3) := dq_182 (b1 := 0) (b2 := 128) (by decide +kernel) (by decide)
theorem dX7_level_4 : decode cX7_level 4 = .ok (.invokevirtual 113, 3) := dq_182 (b1 := 0) (b2 := 113) (by decide +kernel) (by decide)
theorem dX7_level_42 : decode cX7_level 42 = .ok (.aload_n 0, 1) := dq_42 (by decide +kernel)
theorem dX7_level_43 : decode cX7_level 43 = .ok (.getfield 33, 3) := dq_180 (b1 := 0) (b2 := 33) (by decide +kernel) (by decide)
theorem dX7_level_46 : decode cX7_level 46 = .ok (.invokevirtual 132, 3) := dq_182 (b1 := 0) (b2 := 132) (by decide +kernel) (by decide)
theorem dX7_level_49 : decode cX7_level 49 = .ok (.aload_n 0, 1) := dq_42 (by decide +kernel)
theorem dX7_level_50 : decode cX7_level 50 = .ok (.getfield 26, 3) := dq_180 (b1 := 0) (b2 := 26) (by decide +kernel) (by decide)
theorem dX7_level_53 : decode cX7_level 53 = .ok (.getfield 135, 3) := dq_180 (b1 := 0) (b2 := 135) (by decide +kernel) (by decide)
theorem dX7_level_56 : decode cX7_level 56 = .ok (.ireturn, 1) := dq_172 (by decide +kernel)
theorem dX7_level_7 : decode cX7_level 7 = .ok (.istore_n 1, 1) := dq_60 (by decide +kernel)
theorem dX7_level_8 : decode cX7_level 8 = .ok (.iload_n 1, 1) := dq_27 (by decide +kernel)
theorem dX7_level_9 : decode cX7_level 9 = .ok (.ifCond .eq 19, 3) := dq_153 (b1 := 0) (b2 := 19) (by decide +kernel) (by decide)
theorem dX7_row_0 : decode cX7_row 0 = .ok (.iload_n 1, 1) := dq_27 (by decide +kernel)
theorem dX7_row_1 : decode cX7_row 1 = .ok (.invokestatic 65, 3) := dq_184 (b1 := 0) (b2 := 65) (by decide +kernel) (by decide)
theorem dX7_row_11 : decode cX7_row 11 = .ok (.ifCond .eq 9, 3) := dq_153 (b1 := 0) (b2 := 9) (by decide +kernel) (by decide)
theorem dX7_row_14 : decode cX7_row 14 = .ok (.iload_n 3, 1) := dq_29 (by decide +kernel)
theorem dX7_row_15 : decode cX7_row 15 = .ok (.bipush 40, 2) := dq_16 (b1 := 40) (by decide +kernel) (by decide)
theorem dX7_row_17 : decode cX7_row 17 = .ok (.if_icmp .le 6, 3) := dq_164 (b1 := 0) (b2 := 6) (by decide +kernel) (by decide)
theorem dX7_row_20 : decode cX7_row 20 = .ok (.ldc 72, 2) := dq_18 (b1 := 72) (by decide +kernel) (by decide)
theorem dX7_row_22 : decode cX7_row 22 = .ok (.ireturn, 1) := dq_172 (by decide +kernel)
theorem dX7_row_23 : decode cX7_row 23 = .ok (.iload_n 3, 1) := dq_29 (by decide +kernel)
theorem dX7_row_24 : decode cX7_row 24 = .ok (.ifCond .ge 9, 3) := dq_156 (b1 := 0) (b2 := 9) (by decide +kernel) (by decide)
theorem dX7_row_27 : decode cX7_row 27 = .ok (.aload_n 0, 1) := dq_42 (by decide +kernel)
theorem dX7_row_28 : decode cX7_row 28 = .ok (.iconst 4, 1) := dq_7 (by decide +kernel)
theorem dX7_row_29 : decode cX7_row 29 = .ok (.invokevirtual 73, 3) := dq_182 (b1 := 0) (b2 := 73) (by decide +kernel) (by decide)
theorem dX7_row_32 : decode cX7_row 32 = .ok (.ireturn, 1) := dq_172 (by decide +kernel)
theorem dX7_row_33 : decode cX7_row 33 = .ok (.aload_n 0, 1) := dq_42 (by decide +kernel)
theorem dX7_row_34 : decode cX7_row 34 = .ok (.getfield 10, 3) := dq_180 (b1 := 0) (b2 := 10) (by decide +kernel) (by decide)
theorem dX7_row_37 : decode cX7_row 37 = .ok (.iload_n 1, 1) := dq_27 (by decide +kernel)
theorem dX7_row_38 : decode cX7_row 38 = .ok (.iload_n 2, 1) := dq_28 (by decide +kernel)
theorem dX7_row_39 : decode cX7_row 39 = .ok (.iload_n 3, 1) := dq_29 (by decide +kernel)
theorem dX7_row_4 : decode cX7_row 4 = .ok (.ifCond .eq 16, 3) := dq_153 (b1 := 0) (b2 := 16) (by decide +kernel) (by decide)
theorem dX7_row_40 : decode cX7_row 40 = .ok (.invokevirtual 77, 3) := dq_182 (b1 := 0) (b2 := 77) (by decide +kernel) (by decide)
theorem dX7_row_43 : decode cX7_row 43 = .ok (.aload_n 0, 1) := dq_42 (by decide +kernel)
theorem dX7_row_44 : decode cX7_row 44 = .ok (.iload_n 3, 1) := dq_29 (by decide +kernel)
theorem dX7_row_45 : decode cX7_row 45 = .ok (.invokevirtual 81, 3) := dq_182 (b1 := 0) (b2 := 81) (by decide +kernel) (by decide)
theorem dX7_row_48 : decode cX7_row 48 = .ok (.ireturn, 1) := dq_172 (by decide +kernel)
theorem dX7_row_7 : decode cX7_row 7 = .ok (.iload_n 2, 1) := dq_28 (by decide +kernel)
theorem dX7_row_8 : decode cX7_row 8 = .ok (.invokestatic 69, 3) := dq_184 (b1 := 0) (b2 := 69) (by decide +kernel) (by decide)
theorem dX7_set_0 : decode cX7_set 0 = .ok (.iload_n 1, 1) := dq_27 (by decide +kernel)
theorem dX7_set_1 : decode cX7_set 1 = .ok (.invokestatic 65, 3) := dq_184 (b1 := 0) (b2 := 65) (by decide +kernel) (by decide)
theorem dX7_set_10 : decode cX7_set 10 = .ok (.aload_n 0, 1) := dq_42 (by decide +kernel)
theorem dX7_set_11 : decode cX7_set 11 = .ok (.getfield 10, 3) := dq_180 (b1 := 0) (b2 := 10) (by decide +kernel) (by decide)
theorem dX7_set_14 : decode cX7_set 14 = .ok (.iload_n 1, 1) := dq_27 (by decide +kernel)
theorem dX7_set_15 : decode cX7_set 15 = .ok (.iload_n 2, 1) := dq_28 (by decide +kernel)
theorem dX7_set_16 : decode cX7_set 16 = .ok (.iconst 1, 1) := dq_4 (by decide +kernel)
theorem dX7_set_17 : decode cX7_set 17 = .ok (.invokevirtual 84, 3) := dq_182 (b1 := 0) (b2 := 84) (by decide +kernel) (by decide)
theorem dX7_set_20 : decode cX7_set 20 = .ok (.istore 4, 2) := dq_54 (b1 := 4) (by decide +kernel) (by decide)
theorem dX7_set_22 : decode cX7_set 22 = .ok (.iload 4, 2) := dq_21 (b1 := 4) (by decide +kernel) (by decide)
theorem dX7_set_24 : decode cX7_set 24 = .ok (.ifCond .eq 10, 3) := dq_153 (b1 := 0) (b2 := 10) (by decide +kernel) (by decide)
theorem dX7_set_27 : decode cX7_set 27 = .ok (.aload_n 0, 1) := dq_42 (by decide +kernel)
theorem dX7_set_28 : decode cX7_set 28 = .ok (.iload 4, 2) := dq_21 (b1 := 4) (by decide +kernel) (by decide)
theorem dX7_set_30 : decode cX7_set 30 = .ok (.invokevirtual 73, 3) := dq_182 (b1 := 0) (b2 := 73) (by decide +kernel) (by decide)
theorem dX7_set_33 : decode cX7_set 33 = .ok (.ireturn, 1) := dq_172 (by decide +kernel)
theorem dX7_set_34 : decode cX7_set 34 = .ok (.aload_n 0, 1) := dq_42 (by decide +kernel)
theorem dX7_set_35 : decode cX7_set 35 = .ok (.aload_n 0, 1) := dq_42 (by decide +kernel)
theorem dX7_set_36 : decode cX7_set 36 = .ok (.getfield 10, 3) := dq_180 (b1 := 0) (b2 := 10) (by decide +kernel) (by decide)
theorem dX7_set_39 : decode cX7_set 39 = .ok (.iload_n 1, 1) := dq_27 (by decide +kernel)
theorem dX7_set_4 : decode cX7_set 4 = .ok (.ifCond .ne 6, 3) := dq_154 (b1 := 0) (b2 := 6) (by decide +kernel) (by decide)
theorem dX7_set_40 : decode cX7_set 40 = .ok (.iload_n 2, 1) := dq_28 (by decide +kernel)
theorem dX7_set_41 : decode cX7_set 41 = .ok (.iload_n 3, 1) := dq_29 (by decide +kernel)
theorem dX7_set_42 : decode cX7_set 42 = .ok (.invokevirtual 88, 3) := dq_182 (b1 := 0) (b2 := 88) (by decide +kernel) (by decide)
theorem dX7_set_45 : decode cX7_set 45 = .ok (.invokevirtual 81, 3) := dq_182 (b1 := 0) (b2 := 81) (by decide +kernel) (by decide)
theorem dX7_set_48 : decode cX7_set 48 = .ok (.ireturn, 1) := dq_172 (by decide +kernel)
theorem dX7_set_7 : decode cX7_set 7 = .ok (.ldc 72, 2) := dq_18 (b1 := 72) (by decide +kernel) (by decide)
theorem dX7_set_9 : decode cX7_set 9 = .ok (.ireturn, 1) := dq_172 (by decide +kernel)
theorem mb_X4_comesTo_wsX4_comesTo_r1 {w : Cond} (h : w ∈ wsX4_comesTo_r1) : w ∈ wsX4_comesTo := by unfold wsX4_comesTo; exact List.mem_cons_of_mem _ (List.mem_append_left _ (List.mem_append_left _ (List.mem_append_left _ (h))))
theorem mx_X4_comesTo_11 : Cond.code yX3_becomeLike cX3_becomeLike 2 none ∈ wsX4_comesTo := mb_X4_comesTo_wsX4_comesTo_r1 (List.mem_of_getElem? (i := 10) rfl)
theorem mx_X4_comesTo_12 : Cond.fieldLink RX3 27 "MillTalk$Level" "cells" "I" ∈ wsX4_comesTo := mb_X4_comesTo_wsX4_comesTo_r1 (List.mem_of_getElem? (i := 11) rfl)
theorem mx_X4_comesTo_13 : Cond.fieldLink RX3 31 "MillTalk$Level" "mill" "I" ∈ wsX4_comesTo := mb_X4_comesTo_wsX4_comesTo_r1 (List.mem_of_getElem? (i := 12) rfl)
theorem mx_X4_comesTo_14 : Cond.fieldLink RX3 34 "MillTalk$Level" "reach" "I" ∈ wsX4_comesTo := mb_X4_comesTo_wsX4_comesTo_r1 (List.mem_of_getElem? (i := 13) rfl)
theorem mx_X4_comesTo_15 : Cond.fieldLink RX3 37 "MillTalk$Level" "cap" "I" ∈ wsX4_comesTo := mb_X4_comesTo_wsX4_comesTo_r1 (List.mem_of_getElem? (i := 14) rfl)
theorem mx_X4_comesTo_16 : Cond.fieldLink RX3 40 "MillTalk$Level" "hour" "I" ∈ wsX4_comesTo := mb_X4_comesTo_wsX4_comesTo_r1 (List.mem_of_getElem? (i := 15) rfl)
theorem mx_X4_comesTo_17 : Cond.fieldLink RX3 43 "MillTalk$Level" "meal" "I" ∈ wsX4_comesTo := mb_X4_comesTo_wsX4_comesTo_r1 (List.mem_of_getElem? (i := 16) rfl)
theorem mx_X4_comesTo_18 : Cond.fieldLink RX3 46 "MillTalk$Level" "windCount" "I" ∈ wsX4_comesTo := mb_X4_comesTo_wsX4_comesTo_r1 (List.mem_of_getElem? (i := 17) rfl)
theorem mx_X4_comesTo_19 : Cond.fieldLink RX3 49 "MillTalk$Level" "soundCount" "I" ∈ wsX4_comesTo := mb_X4_comesTo_wsX4_comesTo_r1 (List.mem_of_getElem? (i := 18) rfl)
theorem mx_X4_comesTo_20 : Cond.fieldLink RX3 9 "MillTalk$Level" "winds" "[I" ∈ wsX4_comesTo := mb_X4_comesTo_wsX4_comesTo_r1 (List.mem_of_getElem? (i := 19) rfl)
theorem mx_X4_comesTo_21 : Cond.methodLink RX3 52 arraycopyName ∈ wsX4_comesTo := mb_X4_comesTo_wsX4_comesTo_r1 (List.mem_of_getElem? (i := 20) rfl)
theorem mx_X4_comesTo_22 : Cond.native arraycopyName ∈ wsX4_comesTo := mb_X4_comesTo_wsX4_comesTo_r1 (List.mem_of_getElem? (i := 21) rfl)
theorem mx_X4_comesTo_23 : Cond.static arraycopyName ∈ wsX4_comesTo := mb_X4_comesTo_wsX4_comesTo_r1 (List.mem_of_getElem? (i := 22) rfl)
theorem mx_X4_comesTo_24 : Cond.initialized "java/lang/System" ∈ wsX4_comesTo := mb_X4_comesTo_wsX4_comesTo_r1 (List.mem_of_getElem? (i := 23) rfl)
theorem mb_X4_comesTo_wsX4_comesTo_r2 {w : Cond} (h : w ∈ wsX4_comesTo_r2) : w ∈ wsX4_comesTo := by unfold wsX4_comesTo; exact List.mem_cons_of_mem _ (List.mem_append_left _ (List.mem_append_left _ (List.mem_append_right _ (List.mem_append_left _ (h)))))
theorem mx_X4_comesTo_25 : Cond.fieldLink RX3 15 "MillTalk$Level" "kinds" "[I" ∈ wsX4_comesTo := mb_X4_comesTo_wsX4_comesTo_r2 (List.mem_of_getElem? (i := 0) rfl)
theorem mx_X4_comesTo_26 : Cond.fieldLink RX3 18 "MillTalk$Level" "places" "[I" ∈ wsX4_comesTo := mb_X4_comesTo_wsX4_comesTo_r2 (List.mem_of_getElem? (i := 1) rfl)
theorem mx_X4_comesTo_27 : Cond.fieldLink RX3 21 "MillTalk$Level" "louds" "[I" ∈ wsX4_comesTo := mb_X4_comesTo_wsX4_comesTo_r2 (List.mem_of_getElem? (i := 2) rfl)
theorem mx_X4_comesTo_28 : Cond.fieldLink RX3 24 "MillTalk$Level" "hows" "[I" ∈ wsX4_comesTo := mb_X4_comesTo_wsX4_comesTo_r2 (List.mem_of_getElem? (i := 3) rfl)
theorem mb_X4_comesTo_wsX30 {w : Cond} (h : w ∈ wsX30) : w ∈ wsX4_comesTo := by unfold wsX4_comesTo; exact List.mem_cons_of_mem _ (List.mem_append_right _ (h))
theorem ggX4_comesTo_X3_becomeLike : GoodIn wsX4_comesTo wsX3_becomeLike := goodIn_sub (by unfold wsX3_becomeLike; exact List.forall_mem_cons.mpr ⟨mx_X4_comesTo_11, List.forall_mem_append.mpr ⟨List.forall_mem_cons.mpr ⟨mx_X4_comesTo_12, List.forall_mem_cons.mpr ⟨mx_X4_comesTo_13, List.forall_mem_cons.mpr ⟨mx_X4_comesTo_14, List.forall_mem_cons.mpr ⟨mx_X4_comesTo_15, List.forall_mem_cons.mpr ⟨mx_X4_comesTo_16, List.forall_mem_cons.mpr ⟨mx_X4_comesTo_17, List.forall_mem_cons.mpr ⟨mx_X4_comesTo_18, List.forall_mem_cons.mpr ⟨mx_X4_comesTo_19, List.forall_mem_cons.mpr ⟨mx_X4_comesTo_20, List.forall_mem_cons.mpr ⟨mx_X4_comesTo_21, List.forall_mem_cons.mpr ⟨mx_X4_comesTo_22, List.forall_mem_cons.mpr ⟨mx_X4_comesTo_23, List.forall_mem_cons.mpr ⟨mx_X4_comesTo_24, List.forall_mem_cons.mpr ⟨mx_X4_comesTo_25, List.forall_mem_cons.mpr ⟨mx_X4_comesTo_26, List.forall_mem_cons.mpr ⟨mx_X4_comesTo_27, List.forall_mem_cons.mpr ⟨mx_X4_comesTo_28, fun _ h_ => absurd h_ List.not_mem_nil⟩⟩⟩⟩⟩⟩⟩⟩⟩⟩⟩⟩⟩⟩⟩⟩⟩, (fun _ h_ => mb_X4_comesTo_wsX30 h_)⟩⟩) (by decide +kernel)
theorem mx_X4_comesTo_7 : Cond.methodLink RX4 19 yX3_becomeLike ∈ wsX4_comesTo := mb_X4_comesTo_wsX4_comesTo_r1 (List.mem_of_getElem? (i := 6) rfl)
theorem mx_X4_comesTo_8 : Cond.instanceMethod yX3_becomeLike ∈ wsX4_comesTo := mb_X4_comesTo_wsX4_comesTo_r1 (List.mem_of_getElem? (i := 7) rfl)
theorem mx_X4_comesTo_9 : Cond.selects RX3 yX3_becomeLike yX3_becomeLike ∈ wsX4_comesTo := mb_X4_comesTo_wsX4_comesTo_r1 (List.mem_of_getElem? (i := 8) rfl)
theorem mx_X4_comesTo_10 : Cond.initialized RX3 ∈ wsX4_comesTo := mb_X4_comesTo_wsX4_comesTo_r1 (List.mem_of_getElem? (i := 9) rfl)
theorem gX4_comesTo_X3_becomeLike : GoodIn wsX4_comesTo (wsV RX4 19 RX3 yX3_becomeLike wsX3_becomeLike) := goodIn_app (goodIn_sub (List.forall_mem_cons.mpr ⟨mx_X4_comesTo_7, List.forall_mem_cons.mpr ⟨mx_X4_comesTo_8, List.forall_mem_cons.mpr ⟨mx_X4_comesTo_9, List.forall_mem_cons.mpr ⟨mx_X4_comesTo_10, fun _ h_ => absurd h_ List.not_mem_nil⟩⟩⟩⟩) (by decide +kernel)) ggX4_comesTo_X3_becomeLike
theorem mx_X4_comesTo_33 : Cond.code yX4_bestFor cX4_bestFor 5 (some .int) ∈ wsX4_comesTo := mb_X4_comesTo_wsX4_comesTo_r2 (List.mem_of_getElem? (i := 8) rfl)
theorem mx_X4_comesTo_34 : Cond.fieldLink RX4 16 "MillTalk$Play" "outcome" "LMillTalk$Level;" ∈ wsX4_comesTo := mb_X4_comesTo_wsX4_comesTo_r2 (List.mem_of_getElem? (i := 9) rfl)
theorem mx_X4_comesTo_1 : Cond.fieldLink RX4 10 "MillTalk$Play" "board" "LMillTalk$Level;" ∈ wsX4_comesTo := mb_X4_comesTo_wsX4_comesTo_r1 (List.mem_of_getElem? (i := 0) rfl)
theorem mx_X4_comesTo_2 : Cond.fieldLink RX4 23 "MillTalk$Play" "hours" "I" ∈ wsX4_comesTo := mb_X4_comesTo_wsX4_comesTo_r1 (List.mem_of_getElem? (i := 1) rfl)
theorem mx_X4_comesTo_35 : Cond.methodLink RX4 45 Lib.Math.max.name ∈ wsX4_comesTo := mb_X4_comesTo_wsX4_comesTo_r2 (List.mem_of_getElem? (i := 10) rfl)
theorem mx_X4_comesTo_36 : Cond.static Lib.Math.max.name ∈ wsX4_comesTo := mb_X4_comesTo_wsX4_comesTo_r2 (List.mem_of_getElem? (i := 11) rfl)
theorem mx_X4_comesTo_5 : Cond.initialized "java/lang/Math" ∈ wsX4_comesTo := mb_X4_comesTo_wsX4_comesTo_r1 (List.mem_of_getElem? (i := 4) rfl)
theorem mx_X4_comesTo_37 : Cond.code Lib.Math.max.name Lib.Math.max.code 2 (some .int) ∈ wsX4_comesTo := mb_X4_comesTo_wsX4_comesTo_r2 (List.mem_of_getElem? (i := 12) rfl)
theorem mx_X4_comesTo_3 : Cond.methodLink RX4 27 Lib.Math.min.name ∈ wsX4_comesTo := mb_X4_comesTo_wsX4_comesTo_r1 (List.mem_of_getElem? (i := 2) rfl)
theorem mx_X4_comesTo_4 : Cond.static Lib.Math.min.name ∈ wsX4_comesTo := mb_X4_comesTo_wsX4_comesTo_r1 (List.mem_of_getElem? (i := 3) rfl)
theorem mx_X4_comesTo_6 : Cond.code Lib.Math.min.name Lib.Math.min.code 2 (some .int) ∈ wsX4_comesTo := mb_X4_comesTo_wsX4_comesTo_r1 (List.mem_of_getElem? (i := 5) rfl)
theorem mx_X4_comesTo_38 : Cond.methodLink RX4 37 yX3_mealBehind ∈ wsX4_comesTo := mb_X4_comesTo_wsX4_comesTo_r2 (List.mem_of_getElem? (i := 13) rfl)
theorem mx_X4_comesTo_39 : Cond.instanceMethod yX3_mealBehind ∈ wsX4_comesTo := mb_X4_comesTo_wsX4_comesTo_r2 (List.mem_of_getElem? (i := 14) rfl)
theorem mx_X4_comesTo_40 : Cond.selects RX3 yX3_mealBehind yX3_mealBehind ∈ wsX4_comesTo := mb_X4_comesTo_wsX4_comesTo_r2 (List.mem_of_getElem? (i := 15) rfl)
theorem mx_X4_comesTo_41 : Cond.code yX3_mealBehind cX3_mealBehind 3 (some .int) ∈ wsX4_comesTo := mb_X4_comesTo_wsX4_comesTo_r2 (List.mem_of_getElem? (i := 16) rfl)
theorem mx_X4_comesTo_42 : Cond.methodLink RX3 94 yX3_pass ∈ wsX4_comesTo := mb_X4_comesTo_wsX4_comesTo_r2 (List.mem_of_getElem? (i := 17) rfl)
theorem mx_X4_comesTo_43 : Cond.instanceMethod yX3_pass ∈ wsX4_comesTo := mb_X4_comesTo_wsX4_comesTo_r2 (List.mem_of_getElem? (i := 18) rfl)
theorem mx_X4_comesTo_44 : Cond.selects RX3 yX3_pass yX3_pass ∈ wsX4_comesTo := mb_X4_comesTo_wsX4_comesTo_r2 (List.mem_of_getElem? (i := 19) rfl)
theorem mx_X4_comesTo_45 : Cond.code yX3_pass cX3_pass 3 none ∈ wsX4_comesTo := mb_X4_comesTo_wsX4_comesTo_r2 (List.mem_of_getElem? (i := 20) rfl)
theorem mx_X4_comesTo_46 : Cond.methodLink RX3 87 yX3_windOn ∈ wsX4_comesTo := mb_X4_comesTo_wsX4_comesTo_r2 (List.mem_of_getElem? (i := 21) rfl)
theorem mx_X4_comesTo_47 : Cond.instanceMethod yX3_windOn ∈ wsX4_comesTo := mb_X4_comesTo_wsX4_comesTo_r2 (List.mem_of_getElem? (i := 22) rfl)
theorem mx_X4_comesTo_48 : Cond.selects RX3 yX3_windOn yX3_windOn ∈ wsX4_comesTo := mb_X4_comesTo_wsX4_comesTo_r2 (List.mem_of_getElem? (i := 23) rfl)
theorem mb_X4_comesTo_wsX4_comesTo_r3 {w : Cond} (h : w ∈ wsX4_comesTo_r3) : w ∈ wsX4_comesTo := by unfold wsX4_comesTo; exact List.mem_cons_of_mem _ (List.mem_append_left _ (List.mem_append_left _ (List.mem_append_right _ (List.mem_append_right _ (List.mem_append_left _ (h))))))
theorem mx_X4_comesTo_49 : Cond.code yX3_windOn cX3_windOn 2 (some .int) ∈ wsX4_comesTo := mb_X4_comesTo_wsX4_comesTo_r3 (List.mem_of_getElem? (i := 0) rfl)
theorem mx_X4_comesTo_50 : Cond.methodLink RX3 90 yX3_passSound ∈ wsX4_comesTo := mb_X4_comesTo_wsX4_comesTo_r3 (List.mem_of_getElem? (i := 1) rfl)
theorem mx_X4_comesTo_51 : Cond.instanceMethod yX3_passSound ∈ wsX4_comesTo := mb_X4_comesTo_wsX4_comesTo_r3 (List.mem_of_getElem? (i := 2) rfl)
theorem mx_X4_comesTo_52 : Cond.selects RX3 yX3_passSound yX3_passSound ∈ wsX4_comesTo := mb_X4_comesTo_wsX4_comesTo_r3 (List.mem_of_getElem? (i := 3) rfl)
theorem mx_X4_comesTo_53 : Cond.code yX3_passSound cX3_passSound 5 none ∈ wsX4_comesTo := mb_X4_comesTo_wsX4_comesTo_r3 (List.mem_of_getElem? (i := 4) rfl)
theorem mx_X4_comesTo_54 : Cond.methodLink RX3 63 Lib.Math.min.name ∈ wsX4_comesTo := mb_X4_comesTo_wsX4_comesTo_r3 (List.mem_of_getElem? (i := 5) rfl)
theorem mx_X4_comesTo_55 : Cond.methodLink RX3 58 yX3_isLoose ∈ wsX4_comesTo := mb_X4_comesTo_wsX4_comesTo_r3 (List.mem_of_getElem? (i := 6) rfl)
theorem mx_X4_comesTo_56 : Cond.instanceMethod yX3_isLoose ∈ wsX4_comesTo := mb_X4_comesTo_wsX4_comesTo_r3 (List.mem_of_getElem? (i := 7) rfl)
theorem mx_X4_comesTo_57 : Cond.selects RX3 yX3_isLoose yX3_isLoose ∈ wsX4_comesTo := mb_X4_comesTo_wsX4_comesTo_r3 (List.mem_of_getElem? (i := 8) rfl)
theorem mx_X4_comesTo_58 : Cond.code yX3_isLoose cX3_isLoose 2 (some .boolean) ∈ wsX4_comesTo := mb_X4_comesTo_wsX4_comesTo_r3 (List.mem_of_getElem? (i := 9) rfl)
theorem mx_X4_comesTo_59 : Cond.methodLink RX3 69 yX3_driftOf ∈ wsX4_comesTo := mb_X4_comesTo_wsX4_comesTo_r3 (List.mem_of_getElem? (i := 10) rfl)
theorem mx_X4_comesTo_60 : Cond.instanceMethod yX3_driftOf ∈ wsX4_comesTo := mb_X4_comesTo_wsX4_comesTo_r3 (List.mem_of_getElem? (i := 11) rfl)
theorem mx_X4_comesTo_61 : Cond.selects RX3 yX3_driftOf yX3_driftOf ∈ wsX4_comesTo := mb_X4_comesTo_wsX4_comesTo_r3 (List.mem_of_getElem? (i := 12) rfl)
theorem mx_X4_comesTo_62 : Cond.code yX3_driftOf cX3_driftOf 4 (some .int) ∈ wsX4_comesTo := mb_X4_comesTo_wsX4_comesTo_r3 (List.mem_of_getElem? (i := 13) rfl)
theorem mx_X4_comesTo_63 : Cond.methodLink RX3 72 yX3_loudBehindHour ∈ wsX4_comesTo := mb_X4_comesTo_wsX4_comesTo_r3 (List.mem_of_getElem? (i := 14) rfl)
theorem mx_X4_comesTo_64 : Cond.instanceMethod yX3_loudBehindHour ∈ wsX4_comesTo := mb_X4_comesTo_wsX4_comesTo_r3 (List.mem_of_getElem? (i := 15) rfl)
theorem mx_X4_comesTo_65 : Cond.selects RX3 yX3_loudBehindHour yX3_loudBehindHour ∈ wsX4_comesTo := mb_X4_comesTo_wsX4_comesTo_r3 (List.mem_of_getElem? (i := 16) rfl)
theorem mx_X4_comesTo_66 : Cond.code yX3_loudBehindHour cX3_loudBehindHour 2 (some .int) ∈ wsX4_comesTo := mb_X4_comesTo_wsX4_comesTo_r3 (List.mem_of_getElem? (i := 17) rfl)
theorem mx_X4_comesTo_67 : Cond.methodLink RX3 76 yX3_hasCell ∈ wsX4_comesTo := mb_X4_comesTo_wsX4_comesTo_r3 (List.mem_of_getElem? (i := 18) rfl)
theorem mx_X4_comesTo_68 : Cond.instanceMethod yX3_hasCell ∈ wsX4_comesTo := mb_X4_comesTo_wsX4_comesTo_r3 (List.mem_of_getElem? (i := 19) rfl)
theorem mx_X4_comesTo_69 : Cond.selects RX3 yX3_hasCell yX3_hasCell ∈ wsX4_comesTo := mb_X4_comesTo_wsX4_comesTo_r3 (List.mem_of_getElem? (i := 20) rfl)
theorem mx_X4_comesTo_70 : Cond.code yX3_hasCell cX3_hasCell 2 (some .boolean) ∈ wsX4_comesTo := mb_X4_comesTo_wsX4_comesTo_r3 (List.mem_of_getElem? (i := 21) rfl)
theorem mx_X4_comesTo_71 : Cond.methodLink RX3 79 yX3_letLoose ∈ wsX4_comesTo := mb_X4_comesTo_wsX4_comesTo_r3 (List.mem_of_getElem? (i := 22) rfl)
theorem mx_X4_comesTo_72 : Cond.instanceMethod yX3_letLoose ∈ wsX4_comesTo := mb_X4_comesTo_wsX4_comesTo_r3 (List.mem_of_getElem? (i := 23) rfl)
theorem mb_X4_comesTo_wsX4_comesTo_r4 {w : Cond} (h : w ∈ wsX4_comesTo_r4) : w ∈ wsX4_comesTo := by unfold wsX4_comesTo; exact List.mem_cons_of_mem _ (List.mem_append_left _ (List.mem_append_left _ (List.mem_append_right _ (List.mem_append_right _ (List.mem_append_right _ (h))))))
theorem mx_X4_comesTo_73 : Cond.selects RX3 yX3_letLoose yX3_letLoose ∈ wsX4_comesTo := mb_X4_comesTo_wsX4_comesTo_r4 (List.mem_of_getElem? (i := 0) rfl)
theorem mx_X4_comesTo_74 : Cond.code yX3_letLoose cX3_letLoose 4 none ∈ wsX4_comesTo := mb_X4_comesTo_wsX4_comesTo_r4 (List.mem_of_getElem? (i := 1) rfl)
theorem mx_X4_comesTo_75 : Cond.methodLink RX3 83 yX3_grindsAt ∈ wsX4_comesTo := mb_X4_comesTo_wsX4_comesTo_r4 (List.mem_of_getElem? (i := 2) rfl)
theorem mx_X4_comesTo_76 : Cond.instanceMethod yX3_grindsAt ∈ wsX4_comesTo := mb_X4_comesTo_wsX4_comesTo_r4 (List.mem_of_getElem? (i := 3) rfl)
theorem mx_X4_comesTo_77 : Cond.selects RX3 yX3_grindsAt yX3_grindsAt ∈ wsX4_comesTo := mb_X4_comesTo_wsX4_comesTo_r4 (List.mem_of_getElem? (i := 4) rfl)
theorem mx_X4_comesTo_78 : Cond.code yX3_grindsAt cX3_grindsAt 4 (some .boolean) ∈ wsX4_comesTo := mb_X4_comesTo_wsX4_comesTo_r4 (List.mem_of_getElem? (i := 5) rfl)
theorem mx_X4_comesTo_29 : Cond.methodLink RX4 33 yX4_bestFor ∈ wsX4_comesTo := mb_X4_comesTo_wsX4_comesTo_r2 (List.mem_of_getElem? (i := 4) rfl)
theorem mx_X4_comesTo_30 : Cond.instanceMethod yX4_bestFor ∈ wsX4_comesTo := mb_X4_comesTo_wsX4_comesTo_r2 (List.mem_of_getElem? (i := 5) rfl)
theorem mx_X4_comesTo_31 : Cond.selects RX4 yX4_bestFor yX4_bestFor ∈ wsX4_comesTo := mb_X4_comesTo_wsX4_comesTo_r2 (List.mem_of_getElem? (i := 6) rfl)
theorem mx_X4_comesTo_32 : Cond.initialized RX4 ∈ wsX4_comesTo := mb_X4_comesTo_wsX4_comesTo_r2 (List.mem_of_getElem? (i := 7) rfl)
theorem mx_X4_comesTo_79 : Cond.methodLink RX4 41 yX4_turn ∈ wsX4_comesTo := mb_X4_comesTo_wsX4_comesTo_r4 (List.mem_of_getElem? (i := 6) rfl)
theorem mx_X4_comesTo_80 : Cond.instanceMethod yX4_turn ∈ wsX4_comesTo := mb_X4_comesTo_wsX4_comesTo_r4 (List.mem_of_getElem? (i := 7) rfl)
theorem mx_X4_comesTo_81 : Cond.selects RX4 yX4_turn yX4_turn ∈ wsX4_comesTo := mb_X4_comesTo_wsX4_comesTo_r4 (List.mem_of_getElem? (i := 8) rfl)
theorem mx_X4_comesTo_82 : Cond.code yX4_turn cX4_turn 2 none ∈ wsX4_comesTo := mb_X4_comesTo_wsX4_comesTo_r4 (List.mem_of_getElem? (i := 9) rfl)
theorem mx_X4_comesTo_83 : Cond.methodLink RX4 48 yX3_turnCap ∈ wsX4_comesTo := mb_X4_comesTo_wsX4_comesTo_r4 (List.mem_of_getElem? (i := 10) rfl)
theorem mx_X4_comesTo_84 : Cond.instanceMethod yX3_turnCap ∈ wsX4_comesTo := mb_X4_comesTo_wsX4_comesTo_r4 (List.mem_of_getElem? (i := 11) rfl)
theorem mx_X4_comesTo_85 : Cond.selects RX3 yX3_turnCap yX3_turnCap ∈ wsX4_comesTo := mb_X4_comesTo_wsX4_comesTo_r4 (List.mem_of_getElem? (i := 12) rfl)
theorem mx_X4_comesTo_86 : Cond.code yX3_turnCap cX3_turnCap 1 none ∈ wsX4_comesTo := mb_X4_comesTo_wsX4_comesTo_r4 (List.mem_of_getElem? (i := 13) rfl)
theorem mx_X4_comesTo_87 : Cond.methodLink RX4 51 yX3_turnWind ∈ wsX4_comesTo := mb_X4_comesTo_wsX4_comesTo_r4 (List.mem_of_getElem? (i := 14) rfl)
theorem mx_X4_comesTo_88 : Cond.instanceMethod yX3_turnWind ∈ wsX4_comesTo := mb_X4_comesTo_wsX4_comesTo_r4 (List.mem_of_getElem? (i := 15) rfl)
theorem mx_X4_comesTo_89 : Cond.selects RX3 yX3_turnWind yX3_turnWind ∈ wsX4_comesTo := mb_X4_comesTo_wsX4_comesTo_r4 (List.mem_of_getElem? (i := 16) rfl)
theorem mx_X4_comesTo_90 : Cond.code yX3_turnWind cX3_turnWind 2 none ∈ wsX4_comesTo := mb_X4_comesTo_wsX4_comesTo_r4 (List.mem_of_getElem? (i := 17) rfl)
theorem mb_X4_comesTo_wsX40 {w : Cond} (h : w ∈ wsX40) : w ∈ wsX4_comesTo := by unfold wsX4_comesTo; exact List.mem_cons_of_mem _ (List.mem_append_left _ (List.mem_append_right _ (h)))
theorem ggX4_comesTo_X4_bestFor : GoodIn wsX4_comesTo wsX4_bestFor := goodIn_sub (by unfold wsX4_bestFor; exact List.forall_mem_cons.mpr ⟨mx_X4_comesTo_33, List.forall_mem_append.mpr ⟨List.forall_mem_append.mpr ⟨List.forall_mem_append.mpr ⟨(by unfold wsX4_bestFor_r1; exact List.forall_mem_cons.mpr ⟨mx_X4_comesTo_34, List.forall_mem_cons.mpr ⟨mx_X4_comesTo_1, List.forall_mem_cons.mpr ⟨mx_X4_comesTo_2, List.forall_mem_cons.mpr ⟨mx_X4_comesTo_35, List.forall_mem_cons.mpr ⟨mx_X4_comesTo_36, List.forall_mem_cons.mpr ⟨mx_X4_comesTo_5, List.forall_mem_cons.mpr ⟨mx_X4_comesTo_37, List.forall_mem_cons.mpr ⟨mx_X4_comesTo_3, List.forall_mem_cons.mpr ⟨mx_X4_comesTo_4, List.forall_mem_cons.mpr ⟨mx_X4_comesTo_6, List.forall_mem_cons.mpr ⟨mx_X4_comesTo_7, List.forall_mem_cons.mpr ⟨mx_X4_comesTo_8, List.forall_mem_cons.mpr ⟨mx_X4_comesTo_9, List.forall_mem_cons.mpr ⟨mx_X4_comesTo_10, List.forall_mem_cons.mpr ⟨mx_X4_comesTo_11, List.forall_mem_cons.mpr ⟨mx_X4_comesTo_12, List.forall_mem_cons.mpr ⟨mx_X4_comesTo_13, List.forall_mem_cons.mpr ⟨mx_X4_comesTo_14, List.forall_mem_cons.mpr ⟨mx_X4_comesTo_15, List.forall_mem_cons.mpr ⟨mx_X4_comesTo_16, List.forall_mem_cons.mpr ⟨mx_X4_comesTo_17, List.forall_mem_cons.mpr ⟨mx_X4_comesTo_18, List.forall_mem_cons.mpr ⟨mx_X4_comesTo_19, List.forall_mem_cons.mpr ⟨mx_X4_comesTo_20, fun _ h_ => absurd h_ List.not_mem_nil⟩⟩⟩⟩⟩⟩⟩⟩⟩⟩⟩⟩⟩⟩⟩⟩⟩⟩⟩⟩⟩⟩⟩⟩), List.forall_mem_append.mpr ⟨(by unfold wsX4_bestFor_r2; exact List.forall_mem_cons.mpr ⟨mx_X4_comesTo_21, List.forall_mem_cons.mpr ⟨mx_X4_comesTo_22, List.forall_mem_cons.mpr ⟨mx_X4_comesTo_23, List.forall_mem_cons.mpr ⟨mx_X4_comesTo_24, List.forall_mem_cons.mpr ⟨mx_X4_comesTo_25, List.forall_mem_cons.mpr ⟨mx_X4_comesTo_26, List.forall_mem_cons.mpr ⟨mx_X4_comesTo_27, List.forall_mem_cons.mpr ⟨mx_X4_comesTo_28, List.forall_mem_cons.mpr ⟨mx_X4_comesTo_38, List.forall_mem_cons.mpr ⟨mx_X4_comesTo_39, List.forall_mem_cons.mpr ⟨mx_X4_comesTo_40, List.forall_mem_cons.mpr ⟨mx_X4_comesTo_41, List.forall_mem_cons.mpr ⟨mx_X4_comesTo_42, List.forall_mem_cons.mpr ⟨mx_X4_comesTo_43, List.forall_mem_cons.mpr ⟨mx_X4_comesTo_44, List.forall_mem_cons.mpr ⟨mx_X4_comesTo_45, List.forall_mem_cons.mpr ⟨mx_X4_comesTo_46, List.forall_mem_cons.mpr ⟨mx_X4_comesTo_47, List.forall_mem_cons.mpr ⟨mx_X4_comesTo_48, List.forall_mem_cons.mpr ⟨mx_X4_comesTo_49, List.forall_mem_cons.mpr ⟨mx_X4_comesTo_50, List.forall_mem_cons.mpr ⟨mx_X4_comesTo_51, List.forall_mem_cons.mpr ⟨mx_X4_comesTo_52, List.forall_mem_cons.mpr ⟨mx_X4_comesTo_53, fun _ h_ => absurd h_ List.not_mem_nil⟩⟩⟩⟩⟩⟩⟩⟩⟩⟩⟩⟩⟩⟩⟩⟩⟩⟩⟩⟩⟩⟩⟩⟩), List.forall_mem_append.mpr ⟨(by unfold wsX4_bestFor_r3; exact List.forall_mem_cons.mpr ⟨mx_X4_comesTo_54, List.forall_mem_cons.mpr ⟨mx_X4_comesTo_55, List.forall_mem_cons.mpr ⟨mx_X4_comesTo_56, List.forall_mem_cons.mpr ⟨mx_X4_comesTo_57, List.forall_mem_cons.mpr ⟨mx_X4_comesTo_58, List.forall_mem_cons.mpr ⟨mx_X4_comesTo_59, List.forall_mem_cons.mpr ⟨mx_X4_comesTo_60, List.forall_mem_cons.mpr ⟨mx_X4_comesTo_61, List.forall_mem_cons.mpr ⟨mx_X4_comesTo_62, List.forall_mem_cons.mpr ⟨mx_X4_comesTo_63, List.forall_mem_cons.mpr ⟨mx_X4_comesTo_64, List.forall_mem_cons.mpr ⟨mx_X4_comesTo_65, List.forall_mem_cons.mpr ⟨mx_X4_comesTo_66, List.forall_mem_cons.mpr ⟨mx_X4_comesTo_67, List.forall_mem_cons.mpr ⟨mx_X4_comesTo_68, List.forall_mem_cons.mpr ⟨mx_X4_comesTo_69, List.forall_mem_cons.mpr ⟨mx_X4_comesTo_70, List.forall_mem_cons.mpr ⟨mx_X4_comesTo_71, List.forall_mem_cons.mpr ⟨mx_X4_comesTo_72, List.forall_mem_cons.mpr ⟨mx_X4_comesTo_73, List.forall_mem_cons.mpr ⟨mx_X4_comesTo_74, List.forall_mem_cons.mpr ⟨mx_X4_comesTo_75, List.forall_mem_cons.mpr ⟨mx_X4_comesTo_76, List.forall_mem_cons.mpr ⟨mx_X4_comesTo_77, fun _ h_ => absurd h_ List.not_mem_nil⟩⟩⟩⟩⟩⟩⟩⟩⟩⟩⟩⟩⟩⟩⟩⟩⟩⟩⟩⟩⟩⟩⟩⟩), (by unfold wsX4_bestFor_r4; exact List.forall_mem_cons.mpr ⟨mx_X4_comesTo_78, List.forall_mem_cons.mpr ⟨mx_X4_comesTo_29, List.forall_mem_cons.mpr ⟨mx_X4_comesTo_30, List.forall_mem_cons.mpr ⟨mx_X4_comesTo_31, List.forall_mem_cons.mpr ⟨mx_X4_comesTo_32, List.forall_mem_cons.mpr ⟨mx_X4_comesTo_79, List.forall_mem_cons.mpr ⟨mx_X4_comesTo_80, List.forall_mem_cons.mpr ⟨mx_X4_comesTo_81, List.forall_mem_cons.mpr ⟨mx_X4_comesTo_82, List.forall_mem_cons.mpr ⟨mx_X4_comesTo_83, List.forall_mem_cons.mpr ⟨mx_X4_comesTo_84, List.forall_mem_cons.mpr ⟨mx_X4_comesTo_85, List.forall_mem_cons.mpr ⟨mx_X4_comesTo_86, List.forall_mem_cons.mpr ⟨mx_X4_comesTo_87, List.forall_mem_cons.mpr ⟨mx_X4_comesTo_88, List.forall_mem_cons.mpr ⟨mx_X4_comesTo_89, List.forall_mem_cons.mpr ⟨mx_X4_comesTo_90, fun _ h_ => absurd h_ List.not_mem_nil⟩⟩⟩⟩⟩⟩⟩⟩⟩⟩⟩⟩⟩⟩⟩⟩⟩)⟩⟩⟩, (fun _ h_ => mb_X4_comesTo_wsX40 h_)⟩, (fun _ h_ => mb_X4_comesTo_wsX30 h_)⟩⟩) (by decide +kernel)
theorem gX4_comesTo_X4_bestFor : GoodIn wsX4_comesTo (wsV RX4 33 RX4 yX4_bestFor wsX4_bestFor) := goodIn_app (goodIn_sub (List.forall_mem_cons.mpr ⟨mx_X4_comesTo_29, List.forall_mem_cons.mpr ⟨mx_X4_comesTo_30, List.forall_mem_cons.mpr ⟨mx_X4_comesTo_31, List.forall_mem_cons.mpr ⟨mx_X4_comesTo_32, fun _ h_ => absurd h_ List.not_mem_nil⟩⟩⟩⟩) (by decide +kernel)) ggX4_comesTo_X4_bestFor
theorem mx_X7_as_8 : Cond.code yX3_hasSound cX3_hasSound 2 (some .boolean) ∈ wsX7_as := by unfold wsX7_as; exact List.mem_cons_of_mem _ (List.mem_append_left _ (List.mem_append_left _ (List.mem_of_getElem? (i := 7) rfl)))
theorem mx_X7_as_9 : Cond.fieldLink RX3 49 "MillTalk$Level" "soundCount" "I" ∈ wsX7_as := by unfold wsX7_as; exact List.mem_cons_of_mem _ (List.mem_append_left _ (List.mem_append_left _ (List.mem_of_getElem? (i := 8) rfl)))
theorem mb_X7_as_wsX30 {w : Cond} (h : w ∈ wsX30) : w ∈ wsX7_as := by unfold wsX7_as; exact List.mem_cons_of_mem _ (List.mem_append_right _ (h))
theorem ggX7_as_X3_hasSound : GoodIn wsX7_as wsX3_hasSound := goodIn_sub (by unfold wsX3_hasSound; exact List.forall_mem_cons.mpr ⟨mx_X7_as_8, List.forall_mem_append.mpr ⟨List.forall_mem_cons.mpr ⟨mx_X7_as_9, fun _ h_ => absurd h_ List.not_mem_nil⟩, (fun _ h_ => mb_X7_as_wsX30 h_)⟩⟩) (by decide +kernel)
theorem mx_X7_as_4 : Cond.methodLink RX7 173 yX3_hasSound ∈ wsX7_as := by unfold wsX7_as; exact List.mem_cons_of_mem _ (List.mem_append_left _ (List.mem_append_left _ (List.mem_of_getElem? (i := 3) rfl)))
theorem mx_X7_as_5 : Cond.instanceMethod yX3_hasSound ∈ wsX7_as := by unfold wsX7_as; exact List.mem_cons_of_mem _ (List.mem_append_left _ (List.mem_append_left _ (List.mem_of_getElem? (i := 4) rfl)))
theorem mx_X7_as_6 : Cond.selects RX3 yX3_hasSound yX3_hasSound ∈ wsX7_as := by unfold wsX7_as; exact List.mem_cons_of_mem _ (List.mem_append_left _ (List.mem_append_left _ (List.mem_of_getElem? (i := 5) rfl)))
theorem mx_X7_as_7 : Cond.initialized RX3 ∈ wsX7_as := by unfold wsX7_as; exact List.mem_cons_of_mem _ (List.mem_append_left _ (List.mem_append_left _ (List.mem_of_getElem? (i := 6) rfl)))
theorem gX7_as_X3_hasSound : GoodIn wsX7_as (wsV RX7 173 RX3 yX3_hasSound wsX3_hasSound) := goodIn_app (goodIn_sub (List.forall_mem_cons.mpr ⟨mx_X7_as_4, List.forall_mem_cons.mpr ⟨mx_X7_as_5, List.forall_mem_cons.mpr ⟨mx_X7_as_6, List.forall_mem_cons.mpr ⟨mx_X7_as_7, fun _ h_ => absurd h_ List.not_mem_nil⟩⟩⟩⟩) (by decide +kernel)) ggX7_as_X3_hasSound
theorem mx_X7_as_23 : Cond.code yX7_found cX7_found 2 (some .int) ∈ wsX7_as := by unfold wsX7_as; exact List.mem_cons_of_mem _ (List.mem_append_left _ (List.mem_append_left _ (List.mem_of_getElem? (i := 22) rfl)))
theorem mx_X7_as_19 : Cond.fieldLink RX7 323 "MillTalk" "latestFinding" "I" ∈ wsX7_as := by unfold wsX7_as; exact List.mem_cons_of_mem _ (List.mem_append_left _ (List.mem_append_left _ (List.mem_of_getElem? (i := 18) rfl)))
theorem mx_X7_as_24 : Cond.constant RX7 326 (-1000010) ∈ wsX7_as := by unfold wsX7_as; exact List.mem_cons_of_mem _ (List.mem_append_left _ (List.mem_append_left _ (List.mem_of_getElem? (i := 23) rfl)))
theorem mb_X7_as_wsX70 {w : Cond} (h : w ∈ wsX70) : w ∈ wsX7_as := by unfold wsX7_as; exact List.mem_cons_of_mem _ (List.mem_append_left _ (List.mem_append_right _ (h)))
theorem ggX7_as_X7_found : GoodIn wsX7_as wsX7_found := goodIn_sub (by unfold wsX7_found; exact List.forall_mem_cons.mpr ⟨mx_X7_as_23, List.forall_mem_append.mpr ⟨List.forall_mem_cons.mpr ⟨mx_X7_as_19, List.forall_mem_cons.mpr ⟨mx_X7_as_24, fun _ h_ => absurd h_ List.not_mem_nil⟩⟩, (fun _ h_ => mb_X7_as_wsX70 h_)⟩⟩) (by decide +kernel)
theorem mx_X7_as_20 : Cond.methodLink RX7 73 yX7_found ∈ wsX7_as := by unfold wsX7_as; exact List.mem_cons_of_mem _ (List.mem_append_left _ (List.mem_append_left _ (List.mem_of_getElem? (i := 19) rfl)))
theorem mx_X7_as_21 : Cond.instanceMethod yX7_found ∈ wsX7_as := by unfold wsX7_as; exact List.mem_cons_of_mem _ (List.mem_append_left _ (List.mem_append_left _ (List.mem_of_getElem? (i := 20) rfl)))
theorem mx_X7_as_22 : Cond.selects RX7 yX7_found yX7_found ∈ wsX7_as := by unfold wsX7_as; exact List.mem_cons_of_mem _ (List.mem_append_left _ (List.mem_append_left _ (List.mem_of_getElem? (i := 21) rfl)))
theorem mx_X7_as_12 : Cond.initialized RX7 ∈ wsX7_as := by unfold wsX7_as; exact List.mem_cons_of_mem _ (List.mem_append_left _ (List.mem_append_left _ (List.mem_of_getElem? (i := 11) rfl)))
theorem gX7_as_X7_found : GoodIn wsX7_as (wsV RX7 73 RX7 yX7_found wsX7_found) := goodIn_app (goodIn_sub (List.forall_mem_cons.mpr ⟨mx_X7_as_20, List.forall_mem_cons.mpr ⟨mx_X7_as_21, List.forall_mem_cons.mpr ⟨mx_X7_as_22, List.forall_mem_cons.mpr ⟨mx_X7_as_12, fun _ h_ => absurd h_ List.not_mem_nil⟩⟩⟩⟩) (by decide +kernel)) ggX7_as_X7_found
theorem mx_X7_as_18 : Cond.code yX7_foundNothing cX7_foundNothing 2 (some .int) ∈ wsX7_as := by unfold wsX7_as; exact List.mem_cons_of_mem _ (List.mem_append_left _ (List.mem_append_left _ (List.mem_of_getElem? (i := 17) rfl)))
theorem ggX7_as_X7_foundNothing : GoodIn wsX7_as wsX7_foundNothing := goodIn_sub (by unfold wsX7_foundNothing; exact List.forall_mem_cons.mpr ⟨mx_X7_as_18, List.forall_mem_append.mpr ⟨List.forall_mem_cons.mpr ⟨mx_X7_as_19, fun _ h_ => absurd h_ List.not_mem_nil⟩, (fun _ h_ => mb_X7_as_wsX70 h_)⟩⟩) (by decide +kernel)
theorem mx_X7_as_15 : Cond.methodLink RX7 81 yX7_foundNothing ∈ wsX7_as := by unfold wsX7_as; exact List.mem_cons_of_mem _ (List.mem_append_left _ (List.mem_append_left _ (List.mem_of_getElem? (i := 14) rfl)))
theorem mx_X7_as_16 : Cond.instanceMethod yX7_foundNothing ∈ wsX7_as := by unfold wsX7_as; exact List.mem_cons_of_mem _ (List.mem_append_left _ (List.mem_append_left _ (List.mem_of_getElem? (i := 15) rfl)))
theorem mx_X7_as_17 : Cond.selects RX7 yX7_foundNothing yX7_foundNothing ∈ wsX7_as := by unfold wsX7_as; exact List.mem_cons_of_mem _ (List.mem_append_left _ (List.mem_append_left _ (List.mem_of_getElem? (i := 16) rfl)))
theorem gX7_as_X7_foundNothing : GoodIn wsX7_as (wsV RX7 81 RX7 yX7_foundNothing wsX7_foundNothing) := goodIn_app (goodIn_sub (List.forall_mem_cons.mpr ⟨mx_X7_as_15, List.forall_mem_cons.mpr ⟨mx_X7_as_16, List.forall_mem_cons.mpr ⟨mx_X7_as_17, List.forall_mem_cons.mpr ⟨mx_X7_as_12, fun _ h_ => absurd h_ List.not_mem_nil⟩⟩⟩⟩) (by decide +kernel)) ggX7_as_X7_foundNothing
theorem mx_X7_as_13 : Cond.code yX7_isOfKind cX7_isOfKind 4 (some .boolean) ∈ wsX7_as := by unfold wsX7_as; exact List.mem_cons_of_mem _ (List.mem_append_left _ (List.mem_append_left _ (List.mem_of_getElem? (i := 12) rfl)))
theorem mx_X7_as_14 : Cond.fieldLink RX7 327 "MillTalk" "NEXT_KIND" "[I" ∈ wsX7_as := by unfold wsX7_as; exact List.mem_cons_of_mem _ (List.mem_append_left _ (List.mem_append_left _ (List.mem_of_getElem? (i := 13) rfl)))
theorem ggX7_as_X7_isOfKind : GoodIn wsX7_as wsX7_isOfKind := goodIn_sub (by unfold wsX7_isOfKind; exact List.forall_mem_cons.mpr ⟨mx_X7_as_13, List.forall_mem_cons.mpr ⟨mx_X7_as_14, fun _ h_ => absurd h_ List.not_mem_nil⟩⟩) (by decide +kernel)
set_option maxRecDepth 20000 in
theorem gX7_as_X7_isOfKind : GoodIn wsX7_as (va_wsS RX7 304 yX7_isOfKind wsX7_isOfKind) := goodIn_app (goodIn_of _ (by decide +kernel)) ggX7_as_X7_isOfKind
theorem mb_X7_ask_wsX7_ask_r1 {w : Cond} (h : w ∈ wsX7_ask_r1) : w ∈ wsX7_ask := by unfold wsX7_ask; exact List.mem_cons_of_mem _ (List.mem_append_left _ (List.mem_append_left _ (List.mem_append_left _ (List.mem_append_left _ (h)))))
theorem mx_X7_ask_17 : Cond.code yX1_answer cX1_answer 4 (some .int) ∈ wsX7_ask := mb_X7_ask_wsX7_ask_r1 (List.mem_of_getElem? (i := 16) rfl)
theorem mx_X7_ask_18 : Cond.fieldLink RX1 15 "MillTalk$Asks" "traced" "I" ∈ wsX7_ask := mb_X7_ask_wsX7_ask_r1 (List.mem_of_getElem? (i := 17) rfl)
theorem mx_X7_ask_19 : Cond.fieldLink RX1 19 "MillTalk$Asks" "number" "I" ∈ wsX7_ask := mb_X7_ask_wsX7_ask_r1 (List.mem_of_getElem? (i := 18) rfl)
theorem mx_X7_ask_20 : Cond.fieldLink RX1 22 "MillTalk$Level" "kinds" "[I" ∈ wsX7_ask := mb_X7_ask_wsX7_ask_r1 (List.mem_of_getElem? (i := 19) rfl)
theorem mx_X7_ask_21 : Cond.fieldLink RX1 27 "MillTalk$Asks" "kind" "I" ∈ wsX7_ask := mb_X7_ask_wsX7_ask_r1 (List.mem_of_getElem? (i := 20) rfl)
theorem mx_X7_ask_22 : Cond.fieldLink RX1 30 "MillTalk$Level" "places" "[I" ∈ wsX7_ask := mb_X7_ask_wsX7_ask_r1 (List.mem_of_getElem? (i := 21) rfl)
theorem mx_X7_ask_23 : Cond.fieldLink RX1 33 "MillTalk$Asks" "cell" "I" ∈ wsX7_ask := mb_X7_ask_wsX7_ask_r1 (List.mem_of_getElem? (i := 22) rfl)
theorem mx_X7_ask_24 : Cond.fieldLink RX1 36 "MillTalk$Level" "louds" "[I" ∈ wsX7_ask := mb_X7_ask_wsX7_ask_r1 (List.mem_of_getElem? (i := 23) rfl)
theorem mb_X7_ask_wsX7_ask_r2 {w : Cond} (h : w ∈ wsX7_ask_r2) : w ∈ wsX7_ask := by unfold wsX7_ask; exact List.mem_cons_of_mem _ (List.mem_append_left _ (List.mem_append_left _ (List.mem_append_left _ (List.mem_append_right _ (h)))))
theorem mx_X7_ask_25 : Cond.fieldLink RX1 39 "MillTalk$Asks" "loud" "I" ∈ wsX7_ask := mb_X7_ask_wsX7_ask_r2 (List.mem_of_getElem? (i := 0) rfl)
theorem mx_X7_ask_26 : Cond.methodLink RX1 42 yX1_askAnew ∈ wsX7_ask := mb_X7_ask_wsX7_ask_r2 (List.mem_of_getElem? (i := 1) rfl)
theorem mx_X7_ask_27 : Cond.instanceMethod yX1_askAnew ∈ wsX7_ask := mb_X7_ask_wsX7_ask_r2 (List.mem_of_getElem? (i := 2) rfl)
theorem mx_X7_ask_28 : Cond.selects RX1 yX1_askAnew yX1_askAnew ∈ wsX7_ask := mb_X7_ask_wsX7_ask_r2 (List.mem_of_getElem? (i := 3) rfl)
theorem mx_X7_ask_12 : Cond.initialized RX1 ∈ wsX7_ask := mb_X7_ask_wsX7_ask_r1 (List.mem_of_getElem? (i := 11) rfl)
theorem mx_X7_ask_29 : Cond.code yX1_askAnew cX1_askAnew 3 (some .int) ∈ wsX7_ask := mb_X7_ask_wsX7_ask_r2 (List.mem_of_getElem? (i := 4) rfl)
theorem mx_X7_ask_30 : Cond.methodLink RX1 46 yX1_bodyFor ∈ wsX7_ask := mb_X7_ask_wsX7_ask_r2 (List.mem_of_getElem? (i := 5) rfl)
theorem mx_X7_ask_31 : Cond.instanceMethod yX1_bodyFor ∈ wsX7_ask := mb_X7_ask_wsX7_ask_r2 (List.mem_of_getElem? (i := 6) rfl)
theorem mx_X7_ask_32 : Cond.selects RX1 yX1_bodyFor yX1_bodyFor ∈ wsX7_ask := mb_X7_ask_wsX7_ask_r2 (List.mem_of_getElem? (i := 7) rfl)
theorem mx_X7_ask_33 : Cond.code yX1_bodyFor cX1_bodyFor 5 (some .int) ∈ wsX7_ask := mb_X7_ask_wsX7_ask_r2 (List.mem_of_getElem? (i := 8) rfl)
theorem mx_X7_ask_34 : Cond.fieldLink RX1 56 "MillTalk$Asks" "SIZE_BODIES" "[I" ∈ wsX7_ask := mb_X7_ask_wsX7_ask_r2 (List.mem_of_getElem? (i := 9) rfl)
theorem mx_X7_ask_35 : Cond.fieldLink RX1 59 "MillTalk$Asks" "MARK_BODIES" "[I" ∈ wsX7_ask := mb_X7_ask_wsX7_ask_r2 (List.mem_of_getElem? (i := 10) rfl)
theorem mx_X7_ask_36 : Cond.methodLink RX1 50 yX1_begin ∈ wsX7_ask := mb_X7_ask_wsX7_ask_r2 (List.mem_of_getElem? (i := 11) rfl)
theorem mx_X7_ask_37 : Cond.instanceMethod yX1_begin ∈ wsX7_ask := mb_X7_ask_wsX7_ask_r2 (List.mem_of_getElem? (i := 12) rfl)
theorem mx_X7_ask_38 : Cond.selects RX1 yX1_begin yX1_begin ∈ wsX7_ask := mb_X7_ask_wsX7_ask_r2 (List.mem_of_getElem? (i := 13) rfl)
theorem mx_X7_ask_39 : Cond.code yX1_begin cX1_begin 4 (some .int) ∈ wsX7_ask := mb_X7_ask_wsX7_ask_r2 (List.mem_of_getElem? (i := 14) rfl)
theorem mx_X7_ask_40 : Cond.methodLink RX1 62 yX1_leave ∈ wsX7_ask := mb_X7_ask_wsX7_ask_r2 (List.mem_of_getElem? (i := 15) rfl)
theorem mx_X7_ask_41 : Cond.instanceMethod yX1_leave ∈ wsX7_ask := mb_X7_ask_wsX7_ask_r2 (List.mem_of_getElem? (i := 16) rfl)
theorem mx_X7_ask_42 : Cond.selects RX1 yX1_leave yX1_leave ∈ wsX7_ask := mb_X7_ask_wsX7_ask_r2 (List.mem_of_getElem? (i := 17) rfl)
theorem mx_X7_ask_43 : Cond.code yX1_leave cX1_leave 2 none ∈ wsX7_ask := mb_X7_ask_wsX7_ask_r2 (List.mem_of_getElem? (i := 18) rfl)
theorem mx_X7_ask_44 : Cond.fieldLink RX1 11 "MillTalk$Asks" "trace" "[I" ∈ wsX7_ask := mb_X7_ask_wsX7_ask_r2 (List.mem_of_getElem? (i := 19) rfl)
theorem mb_X7_ask_wsX10 {w : Cond} (h : w ∈ wsX10) : w ∈ wsX7_ask := by unfold wsX7_ask; exact List.mem_cons_of_mem _ (List.mem_append_right _ (h))
theorem mb_X7_ask_wsX30 {w : Cond} (h : w ∈ wsX30) : w ∈ wsX7_ask := by unfold wsX7_ask; exact List.mem_cons_of_mem _ (List.mem_append_left _ (List.mem_append_right _ (h)))
theorem ggX7_ask_X1_answer : GoodIn wsX7_ask wsX1_answer := goodIn_sub (by unfold wsX1_answer; exact List.forall_mem_cons.mpr ⟨mx_X7_ask_17, List.forall_mem_append.mpr ⟨List.forall_mem_append.mpr ⟨List.forall_mem_append.mpr ⟨(by unfold wsX1_answer_r1; exact List.forall_mem_cons.mpr ⟨mx_X7_ask_18, List.forall_mem_cons.mpr ⟨mx_X7_ask_19, List.forall_mem_cons.mpr ⟨mx_X7_ask_20, List.forall_mem_cons.mpr ⟨mx_X7_ask_21, List.forall_mem_cons.mpr ⟨mx_X7_ask_22, List.forall_mem_cons.mpr ⟨mx_X7_ask_23, List.forall_mem_cons.mpr ⟨mx_X7_ask_24, List.forall_mem_cons.mpr ⟨mx_X7_ask_25, List.forall_mem_cons.mpr ⟨mx_X7_ask_26, List.forall_mem_cons.mpr ⟨mx_X7_ask_27, List.forall_mem_cons.mpr ⟨mx_X7_ask_28, List.forall_mem_cons.mpr ⟨mx_X7_ask_12, List.forall_mem_cons.mpr ⟨mx_X7_ask_29, List.forall_mem_cons.mpr ⟨mx_X7_ask_30, List.forall_mem_cons.mpr ⟨mx_X7_ask_31, List.forall_mem_cons.mpr ⟨mx_X7_ask_32, List.forall_mem_cons.mpr ⟨mx_X7_ask_33, List.forall_mem_cons.mpr ⟨mx_X7_ask_34, List.forall_mem_cons.mpr ⟨mx_X7_ask_35, List.forall_mem_cons.mpr ⟨mx_X7_ask_36, List.forall_mem_cons.mpr ⟨mx_X7_ask_37, List.forall_mem_cons.mpr ⟨mx_X7_ask_38, List.forall_mem_cons.mpr ⟨mx_X7_ask_39, List.forall_mem_cons.mpr ⟨mx_X7_ask_40, fun _ h_ => absurd h_ List.not_mem_nil⟩⟩⟩⟩⟩⟩⟩⟩⟩⟩⟩⟩⟩⟩⟩⟩⟩⟩⟩⟩⟩⟩⟩⟩), (by unfold wsX1_answer_r2; exact List.forall_mem_cons.mpr ⟨mx_X7_ask_41, List.forall_mem_cons.mpr ⟨mx_X7_ask_42, List.forall_mem_cons.mpr ⟨mx_X7_ask_43, List.forall_mem_cons.mpr ⟨mx_X7_ask_44, fun _ h_ => absurd h_ List.not_mem_nil⟩⟩⟩⟩)⟩, (fun _ h_ => mb_X7_ask_wsX10 h_)⟩, (fun _ h_ => mb_X7_ask_wsX30 h_)⟩⟩) (by decide +kernel)
theorem mx_X7_ask_14 : Cond.methodLink RX7 310 yX1_answer ∈ wsX7_ask := mb_X7_ask_wsX7_ask_r1 (List.mem_of_getElem? (i := 13) rfl)
theorem mx_X7_ask_15 : Cond.instanceMethod yX1_answer ∈ wsX7_ask := mb_X7_ask_wsX7_ask_r1 (List.mem_of_getElem? (i := 14) rfl)
theorem mx_X7_ask_16 : Cond.selects RX1 yX1_answer yX1_answer ∈ wsX7_ask := mb_X7_ask_wsX7_ask_r1 (List.mem_of_getElem? (i := 15) rfl)
theorem gX7_ask_X1_answer : GoodIn wsX7_ask (wsV RX7 310 RX1 yX1_answer wsX1_answer) := goodIn_app (goodIn_sub (List.forall_mem_cons.mpr ⟨mx_X7_ask_14, List.forall_mem_cons.mpr ⟨mx_X7_ask_15, List.forall_mem_cons.mpr ⟨mx_X7_ask_16, List.forall_mem_cons.mpr ⟨mx_X7_ask_12, fun _ h_ => absurd h_ List.not_mem_nil⟩⟩⟩⟩) (by decide +kernel)) ggX7_ask_X1_answer
theorem mx_X7_ask_13 : Cond.code yX1_isAsk cX1_isAsk 1 (some .boolean) ∈ wsX7_ask := mb_X7_ask_wsX7_ask_r1 (List.mem_of_getElem? (i := 12) rfl)
theorem ggX7_ask_X1_isAsk : GoodIn wsX7_ask wsX1_isAsk := goodIn_sub (by unfold wsX1_isAsk; exact List.forall_mem_cons.mpr ⟨mx_X7_ask_13, fun _ h_ => absurd h_ List.not_mem_nil⟩) (by decide +kernel)
set_option maxRecDepth 20000 in
theorem gX7_ask_X1_isAsk : GoodIn wsX7_ask (va_wsS RX7 307 yX1_isAsk wsX1_isAsk) := goodIn_app (goodIn_of _ (by decide +kernel)) ggX7_ask_X1_isAsk
theorem mx_X7_ask_8 : Cond.code yX3_hasSound cX3_hasSound 2 (some .boolean) ∈ wsX7_ask := mb_X7_ask_wsX7_ask_r1 (List.mem_of_getElem? (i := 7) rfl)
theorem mx_X7_ask_9 : Cond.fieldLink RX3 49 "MillTalk$Level" "soundCount" "I" ∈ wsX7_ask := mb_X7_ask_wsX7_ask_r1 (List.mem_of_getElem? (i := 8) rfl)
theorem ggX7_ask_X3_hasSound : GoodIn wsX7_ask wsX3_hasSound := goodIn_sub (by unfold wsX3_hasSound; exact List.forall_mem_cons.mpr ⟨mx_X7_ask_8, List.forall_mem_append.mpr ⟨List.forall_mem_cons.mpr ⟨mx_X7_ask_9, fun _ h_ => absurd h_ List.not_mem_nil⟩, (fun _ h_ => mb_X7_ask_wsX30 h_)⟩⟩) (by decide +kernel)
theorem mx_X7_ask_4 : Cond.methodLink RX7 173 yX3_hasSound ∈ wsX7_ask := mb_X7_ask_wsX7_ask_r1 (List.mem_of_getElem? (i := 3) rfl)
theorem mx_X7_ask_5 : Cond.instanceMethod yX3_hasSound ∈ wsX7_ask := mb_X7_ask_wsX7_ask_r1 (List.mem_of_getElem? (i := 4) rfl)
theorem mx_X7_ask_6 : Cond.selects RX3 yX3_hasSound yX3_hasSound ∈ wsX7_ask := mb_X7_ask_wsX7_ask_r1 (List.mem_of_getElem? (i := 5) rfl)
theorem mx_X7_ask_7 : Cond.initialized RX3 ∈ wsX7_ask := mb_X7_ask_wsX7_ask_r1 (List.mem_of_getElem? (i := 6) rfl)
theorem gX7_ask_X3_hasSound : GoodIn wsX7_ask (wsV RX7 173 RX3 yX3_hasSound wsX3_hasSound) := goodIn_app (goodIn_sub (List.forall_mem_cons.mpr ⟨mx_X7_ask_4, List.forall_mem_cons.mpr ⟨mx_X7_ask_5, List.forall_mem_cons.mpr ⟨mx_X7_ask_6, List.forall_mem_cons.mpr ⟨mx_X7_ask_7, fun _ h_ => absurd h_ List.not_mem_nil⟩⟩⟩⟩) (by decide +kernel)) ggX7_ask_X3_hasSound
theorem mb_X7_byTurns_wsX7_byTurns_r1 {w : Cond} (h : w ∈ wsX7_byTurns_r1) : w ∈ wsX7_byTurns := by unfold wsX7_byTurns; exact List.mem_cons_of_mem _ (List.mem_append_left _ (List.mem_append_left _ (List.mem_append_left _ (List.mem_append_left _ (h)))))
theorem mx_X7_byTurns_9 : Cond.code yX3_isTold cX3_isTold 1 (some .boolean) ∈ wsX7_byTurns := mb_X7_byTurns_wsX7_byTurns_r1 (List.mem_of_getElem? (i := 8) rfl)
theorem mx_X7_byTurns_10 : Cond.fieldLink RX3 27 "MillTalk$Level" "cells" "I" ∈ wsX7_byTurns := mb_X7_byTurns_wsX7_byTurns_r1 (List.mem_of_getElem? (i := 9) rfl)
theorem mb_X7_byTurns_wsX30 {w : Cond} (h : w ∈ wsX30) : w ∈ wsX7_byTurns := by unfold wsX7_byTurns; exact List.mem_cons_of_mem _ (List.mem_append_left _ (List.mem_append_right _ (h)))
theorem ggX7_byTurns_X3_isTold : GoodIn wsX7_byTurns wsX3_isTold := goodIn_sub (by unfold wsX3_isTold; exact List.forall_mem_cons.mpr ⟨mx_X7_byTurns_9, List.forall_mem_append.mpr ⟨List.forall_mem_cons.mpr ⟨mx_X7_byTurns_10, fun _ h_ => absurd h_ List.not_mem_nil⟩, (fun _ h_ => mb_X7_byTurns_wsX30 h_)⟩⟩) (by decide +kernel)
theorem mx_X7_byTurns_5 : Cond.methodLink RX7 145 yX3_isTold ∈ wsX7_byTurns := mb_X7_byTurns_wsX7_byTurns_r1 (List.mem_of_getElem? (i := 4) rfl)
theorem mx_X7_byTurns_6 : Cond.instanceMethod yX3_isTold ∈ wsX7_byTurns := mb_X7_byTurns_wsX7_byTurns_r1 (List.mem_of_getElem? (i := 5) rfl)
theorem mx_X7_byTurns_7 : Cond.selects RX3 yX3_isTold yX3_isTold ∈ wsX7_byTurns := mb_X7_byTurns_wsX7_byTurns_r1 (List.mem_of_getElem? (i := 6) rfl)
theorem mx_X7_byTurns_8 : Cond.initialized RX3 ∈ wsX7_byTurns := mb_X7_byTurns_wsX7_byTurns_r1 (List.mem_of_getElem? (i := 7) rfl)
theorem gX7_byTurns_X3_isTold : GoodIn wsX7_byTurns (wsV RX7 145 RX3 yX3_isTold wsX3_isTold) := goodIn_app (goodIn_sub (List.forall_mem_cons.mpr ⟨mx_X7_byTurns_5, List.forall_mem_cons.mpr ⟨mx_X7_byTurns_6, List.forall_mem_cons.mpr ⟨mx_X7_byTurns_7, List.forall_mem_cons.mpr ⟨mx_X7_byTurns_8, fun _ h_ => absurd h_ List.not_mem_nil⟩⟩⟩⟩) (by decide +kernel)) ggX7_byTurns_X3_isTold
theorem mx_X7_byTurns_15 : Cond.code yX4_comesTo cX4_comesTo 4 (some .int) ∈ wsX7_byTurns := mb_X7_byTurns_wsX7_byTurns_r1 (List.mem_of_getElem? (i := 14) rfl)
theorem mx_X7_byTurns_16 : Cond.fieldLink RX4 10 "MillTalk$Play" "board" "LMillTalk$Level;" ∈ wsX7_byTurns := mb_X7_byTurns_wsX7_byTurns_r1 (List.mem_of_getElem? (i := 15) rfl)
theorem mx_X7_byTurns_17 : Cond.fieldLink RX4 23 "MillTalk$Play" "hours" "I" ∈ wsX7_byTurns := mb_X7_byTurns_wsX7_byTurns_r1 (List.mem_of_getElem? (i := 16) rfl)
theorem mx_X7_byTurns_18 : Cond.methodLink RX4 27 Lib.Math.min.name ∈ wsX7_byTurns := mb_X7_byTurns_wsX7_byTurns_r1 (List.mem_of_getElem? (i := 17) rfl)
theorem mx_X7_byTurns_19 : Cond.static Lib.Math.min.name ∈ wsX7_byTurns := mb_X7_byTurns_wsX7_byTurns_r1 (List.mem_of_getElem? (i := 18) rfl)
theorem mx_X7_byTurns_20 : Cond.initialized "java/lang/Math" ∈ wsX7_byTurns := mb_X7_byTurns_wsX7_byTurns_r1 (List.mem_of_getElem? (i := 19) rfl)
theorem mx_X7_byTurns_21 : Cond.code Lib.Math.min.name Lib.Math.min.code 2 (some .int) ∈ wsX7_byTurns := mb_X7_byTurns_wsX7_byTurns_r1 (List.mem_of_getElem? (i := 20) rfl)
theorem mx_X7_byTurns_22 : Cond.methodLink RX4 19 yX3_becomeLike ∈ wsX7_byTurns := mb_X7_byTurns_wsX7_byTurns_r1 (List.mem_of_getElem? (i := 21) rfl)
theorem mx_X7_byTurns_23 : Cond.instanceMethod yX3_becomeLike ∈ wsX7_byTurns := mb_X7_byTurns_wsX7_byTurns_r1 (List.mem_of_getElem? (i := 22) rfl)
theorem mx_X7_byTurns_24 : Cond.selects RX3 yX3_becomeLike yX3_becomeLike ∈ wsX7_byTurns := mb_X7_byTurns_wsX7_byTurns_r1 (List.mem_of_getElem? (i := 23) rfl)
theorem mb_X7_byTurns_wsX7_byTurns_r2 {w : Cond} (h : w ∈ wsX7_byTurns_r2) : w ∈ wsX7_byTurns := by unfold wsX7_byTurns; exact List.mem_cons_of_mem _ (List.mem_append_left _ (List.mem_append_left _ (List.mem_append_left _ (List.mem_append_right _ (List.mem_append_left _ (h))))))
theorem mx_X7_byTurns_25 : Cond.code yX3_becomeLike cX3_becomeLike 2 none ∈ wsX7_byTurns := mb_X7_byTurns_wsX7_byTurns_r2 (List.mem_of_getElem? (i := 0) rfl)
theorem mx_X7_byTurns_26 : Cond.fieldLink RX3 31 "MillTalk$Level" "mill" "I" ∈ wsX7_byTurns := mb_X7_byTurns_wsX7_byTurns_r2 (List.mem_of_getElem? (i := 1) rfl)
theorem mx_X7_byTurns_27 : Cond.fieldLink RX3 34 "MillTalk$Level" "reach" "I" ∈ wsX7_byTurns := mb_X7_byTurns_wsX7_byTurns_r2 (List.mem_of_getElem? (i := 2) rfl)
theorem mx_X7_byTurns_28 : Cond.fieldLink RX3 37 "MillTalk$Level" "cap" "I" ∈ wsX7_byTurns := mb_X7_byTurns_wsX7_byTurns_r2 (List.mem_of_getElem? (i := 3) rfl)
theorem mx_X7_byTurns_29 : Cond.fieldLink RX3 40 "MillTalk$Level" "hour" "I" ∈ wsX7_byTurns := mb_X7_byTurns_wsX7_byTurns_r2 (List.mem_of_getElem? (i := 4) rfl)
theorem mx_X7_byTurns_30 : Cond.fieldLink RX3 43 "MillTalk$Level" "meal" "I" ∈ wsX7_byTurns := mb_X7_byTurns_wsX7_byTurns_r2 (List.mem_of_getElem? (i := 5) rfl)
theorem mx_X7_byTurns_31 : Cond.fieldLink RX3 46 "MillTalk$Level" "windCount" "I" ∈ wsX7_byTurns := mb_X7_byTurns_wsX7_byTurns_r2 (List.mem_of_getElem? (i := 6) rfl)
theorem mx_X7_byTurns_32 : Cond.fieldLink RX3 49 "MillTalk$Level" "soundCount" "I" ∈ wsX7_byTurns := mb_X7_byTurns_wsX7_byTurns_r2 (List.mem_of_getElem? (i := 7) rfl)
theorem mx_X7_byTurns_33 : Cond.fieldLink RX3 9 "MillTalk$Level" "winds" "[I" ∈ wsX7_byTurns := mb_X7_byTurns_wsX7_byTurns_r2 (List.mem_of_getElem? (i := 8) rfl)
theorem mx_X7_byTurns_34 : Cond.methodLink RX3 52 arraycopyName ∈ wsX7_byTurns := mb_X7_byTurns_wsX7_byTurns_r2 (List.mem_of_getElem? (i := 9) rfl)
theorem mx_X7_byTurns_35 : Cond.native arraycopyName ∈ wsX7_byTurns := mb_X7_byTurns_wsX7_byTurns_r2 (List.mem_of_getElem? (i := 10) rfl)
theorem mx_X7_byTurns_36 : Cond.static arraycopyName ∈ wsX7_byTurns := mb_X7_byTurns_wsX7_byTurns_r2 (List.mem_of_getElem? (i := 11) rfl)
theorem mx_X7_byTurns_37 : Cond.initialized "java/lang/System" ∈ wsX7_byTurns := mb_X7_byTurns_wsX7_byTurns_r2 (List.mem_of_getElem? (i := 12) rfl)
theorem mx_X7_byTurns_38 : Cond.fieldLink RX3 15 "MillTalk$Level" "kinds" "[I" ∈ wsX7_byTurns := mb_X7_byTurns_wsX7_byTurns_r2 (List.mem_of_getElem? (i := 13) rfl)
theorem mx_X7_byTurns_39 : Cond.fieldLink RX3 18 "MillTalk$Level" "places" "[I" ∈ wsX7_byTurns := mb_X7_byTurns_wsX7_byTurns_r2 (List.mem_of_getElem? (i := 14) rfl)
theorem mx_X7_byTurns_40 : Cond.fieldLink RX3 21 "MillTalk$Level" "louds" "[I" ∈ wsX7_byTurns := mb_X7_byTurns_wsX7_byTurns_r2 (List.mem_of_getElem? (i := 15) rfl)
theorem mx_X7_byTurns_41 : Cond.fieldLink RX3 24 "MillTalk$Level" "hows" "[I" ∈ wsX7_byTurns := mb_X7_byTurns_wsX7_byTurns_r2 (List.mem_of_getElem? (i := 16) rfl)
theorem mx_X7_byTurns_42 : Cond.methodLink RX4 33 yX4_bestFor ∈ wsX7_byTurns := mb_X7_byTurns_wsX7_byTurns_r2 (List.mem_of_getElem? (i := 17) rfl)
theorem mx_X7_byTurns_43 : Cond.instanceMethod yX4_bestFor ∈ wsX7_byTurns := mb_X7_byTurns_wsX7_byTurns_r2 (List.mem_of_getElem? (i := 18) rfl)
theorem mx_X7_byTurns_44 : Cond.selects RX4 yX4_bestFor yX4_bestFor ∈ wsX7_byTurns := mb_X7_byTurns_wsX7_byTurns_r2 (List.mem_of_getElem? (i := 19) rfl)
theorem mx_X7_byTurns_14 : Cond.initialized RX4 ∈ wsX7_byTurns := mb_X7_byTurns_wsX7_byTurns_r1 (List.mem_of_getElem? (i := 13) rfl)
theorem mx_X7_byTurns_45 : Cond.code yX4_bestFor cX4_bestFor 5 (some .int) ∈ wsX7_byTurns := mb_X7_byTurns_wsX7_byTurns_r2 (List.mem_of_getElem? (i := 20) rfl)
theorem mx_X7_byTurns_46 : Cond.fieldLink RX4 16 "MillTalk$Play" "outcome" "LMillTalk$Level;" ∈ wsX7_byTurns := mb_X7_byTurns_wsX7_byTurns_r2 (List.mem_of_getElem? (i := 21) rfl)
theorem mx_X7_byTurns_47 : Cond.methodLink RX4 45 Lib.Math.max.name ∈ wsX7_byTurns := mb_X7_byTurns_wsX7_byTurns_r2 (List.mem_of_getElem? (i := 22) rfl)
theorem mx_X7_byTurns_48 : Cond.static Lib.Math.max.name ∈ wsX7_byTurns := mb_X7_byTurns_wsX7_byTurns_r2 (List.mem_of_getElem? (i := 23) rfl)
theorem mb_X7_byTurns_wsX7_byTurns_r3 {w : Cond} (h : w ∈ wsX7_byTurns_r3) : w ∈ wsX7_byTurns := by unfold wsX7_byTurns; exact List.mem_cons_of_mem _ (List.mem_append_left _ (List.mem_append_left _ (List.mem_append_left _ (List.mem_append_right _ (List.mem_append_right _ (List.mem_append_left _ (h)))))))
theorem mx_X7_byTurns_49 : Cond.code Lib.Math.max.name Lib.Math.max.code 2 (some .int) ∈ wsX7_byTurns := mb_X7_byTurns_wsX7_byTurns_r3 (List.mem_of_getElem? (i := 0) rfl)
theorem mx_X7_byTurns_50 : Cond.methodLink RX4 37 yX3_mealBehind ∈ wsX7_byTurns := mb_X7_byTurns_wsX7_byTurns_r3 (List.mem_of_getElem? (i := 1) rfl)
theorem mx_X7_byTurns_51 : Cond.instanceMethod yX3_mealBehind ∈ wsX7_byTurns := mb_X7_byTurns_wsX7_byTurns_r3 (List.mem_of_getElem? (i := 2) rfl)
theorem mx_X7_byTurns_52 : Cond.selects RX3 yX3_mealBehind yX3_mealBehind ∈ wsX7_byTurns := mb_X7_byTurns_wsX7_byTurns_r3 (List.mem_of_getElem? (i := 3) rfl)
theorem mx_X7_byTurns_53 : Cond.code yX3_mealBehind cX3_mealBehind 3 (some .int) ∈ wsX7_byTurns := mb_X7_byTurns_wsX7_byTurns_r3 (List.mem_of_getElem? (i := 4) rfl)
theorem mx_X7_byTurns_54 : Cond.methodLink RX3 94 yX3_pass ∈ wsX7_byTurns := mb_X7_byTurns_wsX7_byTurns_r3 (List.mem_of_getElem? (i := 5) rfl)
theorem mx_X7_byTurns_55 : Cond.instanceMethod yX3_pass ∈ wsX7_byTurns := mb_X7_byTurns_wsX7_byTurns_r3 (List.mem_of_getElem? (i := 6) rfl)
theorem mx_X7_byTurns_56 : Cond.selects RX3 yX3_pass yX3_pass ∈ wsX7_byTurns := mb_X7_byTurns_wsX7_byTurns_r3 (List.mem_of_getElem? (i := 7) rfl)
theorem mx_X7_byTurns_57 : Cond.code yX3_pass cX3_pass 3 none ∈ wsX7_byTurns := mb_X7_byTurns_wsX7_byTurns_r3 (List.mem_of_getElem? (i := 8) rfl)
theorem mx_X7_byTurns_58 : Cond.methodLink RX3 87 yX3_windOn ∈ wsX7_byTurns := mb_X7_byTurns_wsX7_byTurns_r3 (List.mem_of_getElem? (i := 9) rfl)
theorem mx_X7_byTurns_59 : Cond.instanceMethod yX3_windOn ∈ wsX7_byTurns := mb_X7_byTurns_wsX7_byTurns_r3 (List.mem_of_getElem? (i := 10) rfl)
theorem mx_X7_byTurns_60 : Cond.selects RX3 yX3_windOn yX3_windOn ∈ wsX7_byTurns := mb_X7_byTurns_wsX7_byTurns_r3 (List.mem_of_getElem? (i := 11) rfl)
theorem mx_X7_byTurns_61 : Cond.code yX3_windOn cX3_windOn 2 (some .int) ∈ wsX7_byTurns := mb_X7_byTurns_wsX7_byTurns_r3 (List.mem_of_getElem? (i := 12) rfl)
theorem mx_X7_byTurns_62 : Cond.methodLink RX3 90 yX3_passSound ∈ wsX7_byTurns := mb_X7_byTurns_wsX7_byTurns_r3 (List.mem_of_getElem? (i := 13) rfl)
theorem mx_X7_byTurns_63 : Cond.instanceMethod yX3_passSound ∈ wsX7_byTurns := mb_X7_byTurns_wsX7_byTurns_r3 (List.mem_of_getElem? (i := 14) rfl)
theorem mx_X7_byTurns_64 : Cond.selects RX3 yX3_passSound yX3_passSound ∈ wsX7_byTurns := mb_X7_byTurns_wsX7_byTurns_r3 (List.mem_of_getElem? (i := 15) rfl)
theorem mx_X7_byTurns_65 : Cond.code yX3_passSound cX3_passSound 5 none ∈ wsX7_byTurns := mb_X7_byTurns_wsX7_byTurns_r3 (List.mem_of_getElem? (i := 16) rfl)
theorem mx_X7_byTurns_66 : Cond.methodLink RX3 63 Lib.Math.min.name ∈ wsX7_byTurns := mb_X7_byTurns_wsX7_byTurns_r3 (List.mem_of_getElem? (i := 17) rfl)
theorem mx_X7_byTurns_67 : Cond.methodLink RX3 58 yX3_isLoose ∈ wsX7_byTurns := mb_X7_byTurns_wsX7_byTurns_r3 (List.mem_of_getElem? (i := 18) rfl)
theorem mx_X7_byTurns_68 : Cond.instanceMethod yX3_isLoose ∈ wsX7_byTurns := mb_X7_byTurns_wsX7_byTurns_r3 (List.mem_of_getElem? (i := 19) rfl)
theorem mx_X7_byTurns_69 : Cond.selects RX3 yX3_isLoose yX3_isLoose ∈ wsX7_byTurns := mb_X7_byTurns_wsX7_byTurns_r3 (List.mem_of_getElem? (i := 20) rfl)
theorem mx_X7_byTurns_70 : Cond.code yX3_isLoose cX3_isLoose 2 (some .boolean) ∈ wsX7_byTurns := mb_X7_byTurns_wsX7_byTurns_r3 (List.mem_of_getElem? (i := 21) rfl)
theorem mx_X7_byTurns_71 : Cond.methodLink RX3 69 yX3_driftOf ∈ wsX7_byTurns := mb_X7_byTurns_wsX7_byTurns_r3 (List.mem_of_getElem? (i := 22) rfl)
theorem mx_X7_byTurns_72 : Cond.instanceMethod yX3_driftOf ∈ wsX7_byTurns := mb_X7_byTurns_wsX7_byTurns_r3 (List.mem_of_getElem? (i := 23) rfl)
theorem mb_X7_byTurns_wsX7_byTurns_r4 {w : Cond} (h : w ∈ wsX7_byTurns_r4) : w ∈ wsX7_byTurns := by unfold wsX7_byTurns; exact List.mem_cons_of_mem _ (List.mem_append_left _ (List.mem_append_left _ (List.mem_append_left _ (List.mem_append_right _ (List.mem_append_right _ (List.mem_append_right _ (List.mem_append_left _ (h))))))))
theorem mx_X7_byTurns_73 : Cond.selects RX3 yX3_driftOf yX3_driftOf ∈ wsX7_byTurns := mb_X7_byTurns_wsX7_byTurns_r4 (List.mem_of_getElem? (i := 0) rfl)
theorem mx_X7_byTurns_74 : Cond.code yX3_driftOf cX3_driftOf 4 (some .int) ∈ wsX7_byTurns := mb_X7_byTurns_wsX7_byTurns_r4 (List.mem_of_getElem? (i := 1) rfl)
theorem mx_X7_byTurns_75 : Cond.methodLink RX3 72 yX3_loudBehindHour ∈ wsX7_byTurns := mb_X7_byTurns_wsX7_byTurns_r4 (List.mem_of_getElem? (i := 2) rfl)
theorem mx_X7_byTurns_76 : Cond.instanceMethod yX3_loudBehindHour ∈ wsX7_byTurns := mb_X7_byTurns_wsX7_byTurns_r4 (List.mem_of_getElem? (i := 3) rfl)
theorem mx_X7_byTurns_77 : Cond.selects RX3 yX3_loudBehindHour yX3_loudBehindHour ∈ wsX7_byTurns := mb_X7_byTurns_wsX7_byTurns_r4 (List.mem_of_getElem? (i := 4) rfl)
theorem mx_X7_byTurns_78 : Cond.code yX3_loudBehindHour cX3_loudBehindHour 2 (some .int) ∈ wsX7_byTurns := mb_X7_byTurns_wsX7_byTurns_r4 (List.mem_of_getElem? (i := 5) rfl)
theorem mx_X7_byTurns_79 : Cond.methodLink RX3 76 yX3_hasCell ∈ wsX7_byTurns := mb_X7_byTurns_wsX7_byTurns_r4 (List.mem_of_getElem? (i := 6) rfl)
theorem mx_X7_byTurns_80 : Cond.instanceMethod yX3_hasCell ∈ wsX7_byTurns := mb_X7_byTurns_wsX7_byTurns_r4 (List.mem_of_getElem? (i := 7) rfl)
theorem mx_X7_byTurns_81 : Cond.selects RX3 yX3_hasCell yX3_hasCell ∈ wsX7_byTurns := mb_X7_byTurns_wsX7_byTurns_r4 (List.mem_of_getElem? (i := 8) rfl)
theorem mx_X7_byTurns_82 : Cond.code yX3_hasCell cX3_hasCell 2 (some .boolean) ∈ wsX7_byTurns := mb_X7_byTurns_wsX7_byTurns_r4 (List.mem_of_getElem? (i := 9) rfl)
theorem mx_X7_byTurns_83 : Cond.methodLink RX3 79 yX3_letLoose ∈ wsX7_byTurns := mb_X7_byTurns_wsX7_byTurns_r4 (List.mem_of_getElem? (i := 10) rfl)
theorem mx_X7_byTurns_84 : Cond.instanceMethod yX3_letLoose ∈ wsX7_byTurns := mb_X7_byTurns_wsX7_byTurns_r4 (List.mem_of_getElem? (i := 11) rfl)
theorem mx_X7_byTurns_85 : Cond.selects RX3 yX3_letLoose yX3_letLoose ∈ wsX7_byTurns := mb_X7_byTurns_wsX7_byTurns_r4 (List.mem_of_getElem? (i := 12) rfl)
theorem mx_X7_byTurns_86 : Cond.code yX3_letLoose cX3_letLoose 4 none ∈ wsX7_byTurns := mb_X7_byTurns_wsX7_byTurns_r4 (List.mem_of_getElem? (i := 13) rfl)
theorem mx_X7_byTurns_87 : Cond.methodLink RX3 83 yX3_grindsAt ∈ wsX7_byTurns := mb_X7_byTurns_wsX7_byTurns_r4 (List.mem_of_getElem? (i := 14) rfl)
theorem mx_X7_byTurns_88 : Cond.instanceMethod yX3_grindsAt ∈ wsX7_byTurns := mb_X7_byTurns_wsX7_byTurns_r4 (List.mem_of_getElem? (i := 15) rfl)
theorem mx_X7_byTurns_89 : Cond.selects RX3 yX3_grindsAt yX3_grindsAt ∈ wsX7_byTurns := mb_X7_byTurns_wsX7_byTurns_r4 (List.mem_of_getElem? (i := 16) rfl)
theorem mx_X7_byTurns_90 : Cond.code yX3_grindsAt cX3_grindsAt 4 (some .boolean) ∈ wsX7_byTurns := mb_X7_byTurns_wsX7_byTurns_r4 (List.mem_of_getElem? (i := 17) rfl)
theorem mx_X7_byTurns_91 : Cond.methodLink RX4 41 yX4_turn ∈ wsX7_byTurns := mb_X7_byTurns_wsX7_byTurns_r4 (List.mem_of_getElem? (i := 18) rfl)
theorem mx_X7_byTurns_92 : Cond.instanceMethod yX4_turn ∈ wsX7_byTurns := mb_X7_byTurns_wsX7_byTurns_r4 (List.mem_of_getElem? (i := 19) rfl)
theorem mx_X7_byTurns_93 : Cond.selects RX4 yX4_turn yX4_turn ∈ wsX7_byTurns := mb_X7_byTurns_wsX7_byTurns_r4 (List.mem_of_getElem? (i := 20) rfl)
theorem mx_X7_byTurns_94 : Cond.code yX4_turn cX4_turn 2 none ∈ wsX7_byTurns := mb_X7_byTurns_wsX7_byTurns_r4 (List.mem_of_getElem? (i := 21) rfl)
theorem mx_X7_byTurns_95 : Cond.methodLink RX4 48 yX3_turnCap ∈ wsX7_byTurns := mb_X7_byTurns_wsX7_byTurns_r4 (List.mem_of_getElem? (i := 22) rfl)
theorem mx_X7_byTurns_96 : Cond.instanceMethod yX3_turnCap ∈ wsX7_byTurns := mb_X7_byTurns_wsX7_byTurns_r4 (List.mem_of_getElem? (i := 23) rfl)
theorem mb_X7_byTurns_wsX7_byTurns_r5 {w : Cond} (h : w ∈ wsX7_byTurns_r5) : w ∈ wsX7_byTurns := by unfold wsX7_byTurns; exact List.mem_cons_of_mem _ (List.mem_append_left _ (List.mem_append_left _ (List.mem_append_left _ (List.mem_append_right _ (List.mem_append_right _ (List.mem_append_right _ (List.mem_append_right _ (h))))))))
theorem mx_X7_byTurns_97 : Cond.selects RX3 yX3_turnCap yX3_turnCap ∈ wsX7_byTurns := mb_X7_byTurns_wsX7_byTurns_r5 (List.mem_of_getElem? (i := 0) rfl)
theorem mx_X7_byTurns_98 : Cond.code yX3_turnCap cX3_turnCap 1 none ∈ wsX7_byTurns := mb_X7_byTurns_wsX7_byTurns_r5 (List.mem_of_getElem? (i := 1) rfl)
theorem mx_X7_byTurns_99 : Cond.methodLink RX4 51 yX3_turnWind ∈ wsX7_byTurns := mb_X7_byTurns_wsX7_byTurns_r5 (List.mem_of_getElem? (i := 2) rfl)
theorem mx_X7_byTurns_100 : Cond.instanceMethod yX3_turnWind ∈ wsX7_byTurns := mb_X7_byTurns_wsX7_byTurns_r5 (List.mem_of_getElem? (i := 3) rfl)
theorem mx_X7_byTurns_101 : Cond.selects RX3 yX3_turnWind yX3_turnWind ∈ wsX7_byTurns := mb_X7_byTurns_wsX7_byTurns_r5 (List.mem_of_getElem? (i := 4) rfl)
theorem mx_X7_byTurns_102 : Cond.code yX3_turnWind cX3_turnWind 2 none ∈ wsX7_byTurns := mb_X7_byTurns_wsX7_byTurns_r5 (List.mem_of_getElem? (i := 5) rfl)
theorem mb_X7_byTurns_wsX40 {w : Cond} (h : w ∈ wsX40) : w ∈ wsX7_byTurns := by unfold wsX7_byTurns; exact List.mem_cons_of_mem _ (List.mem_append_right _ (h))
theorem ggX7_byTurns_X4_comesTo : GoodIn wsX7_byTurns wsX4_comesTo := goodIn_sub (by unfold wsX4_comesTo; exact List.forall_mem_cons.mpr ⟨mx_X7_byTurns_15, List.forall_mem_append.mpr ⟨List.forall_mem_append.mpr ⟨List.forall_mem_append.mpr ⟨(by unfold wsX4_comesTo_r1; exact List.forall_mem_cons.mpr ⟨mx_X7_byTurns_16, List.forall_mem_cons.mpr ⟨mx_X7_byTurns_17, List.forall_mem_cons.mpr ⟨mx_X7_byTurns_18, List.forall_mem_cons.mpr ⟨mx_X7_byTurns_19, List.forall_mem_cons.mpr ⟨mx_X7_byTurns_20, List.forall_mem_cons.mpr ⟨mx_X7_byTurns_21, List.forall_mem_cons.mpr ⟨mx_X7_byTurns_22, List.forall_mem_cons.mpr ⟨mx_X7_byTurns_23, List.forall_mem_cons.mpr ⟨mx_X7_byTurns_24, List.forall_mem_cons.mpr ⟨mx_X7_byTurns_8, List.forall_mem_cons.mpr ⟨mx_X7_byTurns_25, List.forall_mem_cons.mpr ⟨mx_X7_byTurns_10, List.forall_mem_cons.mpr ⟨mx_X7_byTurns_26, List.forall_mem_cons.mpr ⟨mx_X7_byTurns_27, List.forall_mem_cons.mpr ⟨mx_X7_byTurns_28, List.forall_mem_cons.mpr ⟨mx_X7_byTurns_29, List.forall_mem_cons.mpr ⟨mx_X7_byTurns_30, List.forall_mem_cons.mpr ⟨mx_X7_byTurns_31, List.forall_mem_cons.mpr ⟨mx_X7_byTurns_32, List.forall_mem_cons.mpr ⟨mx_X7_byTurns_33, List.forall_mem_cons.mpr ⟨mx_X7_byTurns_34, List.forall_mem_cons.mpr ⟨mx_X7_byTurns_35, List.forall_mem_cons.mpr ⟨mx_X7_byTurns_36, List.forall_mem_cons.mpr ⟨mx_X7_byTurns_37, fun _ h_ => absurd h_ List.not_mem_nil⟩⟩⟩⟩⟩⟩⟩⟩⟩⟩⟩⟩⟩⟩⟩⟩⟩⟩⟩⟩⟩⟩⟩⟩), List.forall_mem_append.mpr ⟨(by unfold wsX4_comesTo_r2; exact List.forall_mem_cons.mpr ⟨mx_X7_byTurns_38, List.forall_mem_cons.mpr ⟨mx_X7_byTurns_39, List.forall_mem_cons.mpr ⟨mx_X7_byTurns_40, List.forall_mem_cons.mpr ⟨mx_X7_byTurns_41, List.forall_mem_cons.mpr ⟨mx_X7_byTurns_42, List.forall_mem_cons.mpr ⟨mx_X7_byTurns_43, List.forall_mem_cons.mpr ⟨mx_X7_byTurns_44, List.forall_mem_cons.mpr ⟨mx_X7_byTurns_14, List.forall_mem_cons.mpr ⟨mx_X7_byTurns_45, List.forall_mem_cons.mpr ⟨mx_X7_byTurns_46, List.forall_mem_cons.mpr ⟨mx_X7_byTurns_47, List.forall_mem_cons.mpr ⟨mx_X7_byTurns_48, List.forall_mem_cons.mpr ⟨mx_X7_byTurns_49, List.forall_mem_cons.mpr ⟨mx_X7_byTurns_50, List.forall_mem_cons.mpr ⟨mx_X7_byTurns_51, List.forall_mem_cons.mpr ⟨mx_X7_byTurns_52, List.forall_mem_cons.mpr ⟨mx_X7_byTurns_53, List.forall_mem_cons.mpr ⟨mx_X7_byTurns_54, List.forall_mem_cons.mpr ⟨mx_X7_byTurns_55, List.forall_mem_cons.mpr ⟨mx_X7_byTurns_56, List.forall_mem_cons.mpr ⟨mx_X7_byTurns_57, List.forall_mem_cons.mpr ⟨mx_X7_byTurns_58, List.forall_mem_cons.mpr ⟨mx_X7_byTurns_59, List.forall_mem_cons.mpr ⟨mx_X7_byTurns_60, fun _ h_ => absurd h_ List.not_mem_nil⟩⟩⟩⟩⟩⟩⟩⟩⟩⟩⟩⟩⟩⟩⟩⟩⟩⟩⟩⟩⟩⟩⟩⟩), List.forall_mem_append.mpr ⟨(by unfold wsX4_comesTo_r3; exact List.forall_mem_cons.mpr ⟨mx_X7_byTurns_61, List.forall_mem_cons.mpr ⟨mx_X7_byTurns_62, List.forall_mem_cons.mpr ⟨mx_X7_byTurns_63, List.forall_mem_cons.mpr ⟨mx_X7_byTurns_64, List.forall_mem_cons.mpr ⟨mx_X7_byTurns_65, List.forall_mem_cons.mpr ⟨mx_X7_byTurns_66, List.forall_mem_cons.mpr ⟨mx_X7_byTurns_67, List.forall_mem_cons.mpr ⟨mx_X7_byTurns_68, List.forall_mem_cons.mpr ⟨mx_X7_byTurns_69, List.forall_mem_cons.mpr ⟨mx_X7_byTurns_70, List.forall_mem_cons.mpr ⟨mx_X7_byTurns_71, List.forall_mem_cons.mpr ⟨mx_X7_byTurns_72, List.forall_mem_cons.mpr ⟨mx_X7_byTurns_73, List.forall_mem_cons.mpr ⟨mx_X7_byTurns_74, List.forall_mem_cons.mpr ⟨mx_X7_byTurns_75, List.forall_mem_cons.mpr ⟨mx_X7_byTurns_76, List.forall_mem_cons.mpr ⟨mx_X7_byTurns_77, List.forall_mem_cons.mpr ⟨mx_X7_byTurns_78, List.forall_mem_cons.mpr ⟨mx_X7_byTurns_79, List.forall_mem_cons.mpr ⟨mx_X7_byTurns_80, List.forall_mem_cons.mpr ⟨mx_X7_byTurns_81, List.forall_mem_cons.mpr ⟨mx_X7_byTurns_82, List.forall_mem_cons.mpr ⟨mx_X7_byTurns_83, List.forall_mem_cons.mpr ⟨mx_X7_byTurns_84, fun _ h_ => absurd h_ List.not_mem_nil⟩⟩⟩⟩⟩⟩⟩⟩⟩⟩⟩⟩⟩⟩⟩⟩⟩⟩⟩⟩⟩⟩⟩⟩), (by unfold wsX4_comesTo_r4; exact List.forall_mem_cons.mpr ⟨mx_X7_byTurns_85, List.forall_mem_cons.mpr ⟨mx_X7_byTurns_86, List.forall_mem_cons.mpr ⟨mx_X7_byTurns_87, List.forall_mem_cons.mpr ⟨mx_X7_byTurns_88, List.forall_mem_cons.mpr ⟨mx_X7_byTurns_89, List.forall_mem_cons.mpr ⟨mx_X7_byTurns_90, List.forall_mem_cons.mpr ⟨mx_X7_byTurns_91, List.forall_mem_cons.mpr ⟨mx_X7_byTurns_92, List.forall_mem_cons.mpr ⟨mx_X7_byTurns_93, List.forall_mem_cons.mpr ⟨mx_X7_byTurns_94, List.forall_mem_cons.mpr ⟨mx_X7_byTurns_95, List.forall_mem_cons.mpr ⟨mx_X7_byTurns_96, List.forall_mem_cons.mpr ⟨mx_X7_byTurns_97, List.forall_mem_cons.mpr ⟨mx_X7_byTurns_98, List.forall_mem_cons.mpr ⟨mx_X7_byTurns_99, List.forall_mem_cons.mpr ⟨mx_X7_byTurns_100, List.forall_mem_cons.mpr ⟨mx_X7_byTurns_101, List.forall_mem_cons.mpr ⟨mx_X7_byTurns_102, fun _ h_ => absurd h_ List.not_mem_nil⟩⟩⟩⟩⟩⟩⟩⟩⟩⟩⟩⟩⟩⟩⟩⟩⟩⟩)⟩⟩⟩, (fun _ h_ => mb_X7_byTurns_wsX40 h_)⟩, (fun _ h_ => mb_X7_byTurns_wsX30 h_)⟩⟩) (by decide +kernel)
theorem mx_X7_byTurns_11 : Cond.methodLink RX7 243 yX4_comesTo ∈ wsX7_byTurns := mb_X7_byTurns_wsX7_byTurns_r1 (List.mem_of_getElem? (i := 10) rfl)
theorem mx_X7_byTurns_12 : Cond.instanceMethod yX4_comesTo ∈ wsX7_byTurns := mb_X7_byTurns_wsX7_byTurns_r1 (List.mem_of_getElem? (i := 11) rfl)
theorem mx_X7_byTurns_13 : Cond.selects RX4 yX4_comesTo yX4_comesTo ∈ wsX7_byTurns := mb_X7_byTurns_wsX7_byTurns_r1 (List.mem_of_getElem? (i := 12) rfl)
theorem gX7_byTurns_X4_comesTo : GoodIn wsX7_byTurns (wsV RX7 243 RX4 yX4_comesTo wsX4_comesTo) := goodIn_app (goodIn_sub (List.forall_mem_cons.mpr ⟨mx_X7_byTurns_11, List.forall_mem_cons.mpr ⟨mx_X7_byTurns_12, List.forall_mem_cons.mpr ⟨mx_X7_byTurns_13, List.forall_mem_cons.mpr ⟨mx_X7_byTurns_14, fun _ h_ => absurd h_ List.not_mem_nil⟩⟩⟩⟩) (by decide +kernel)) ggX7_byTurns_X4_comesTo
theorem mb_X7_caps_wsX7_caps_r5 {w : Cond} (h : w ∈ wsX7_caps_r5) : w ∈ wsX7_caps := by unfold wsX7_caps; exact List.mem_cons_of_mem _ (List.mem_append_left _ (List.mem_append_left _ (List.mem_append_left _ (List.mem_append_right _ (List.mem_append_right _ (List.mem_append_right _ (List.mem_append_right _ (h))))))))
theorem mx_X7_caps_109 : Cond.code yX2_bestCap cX2_bestCap 2 (some .int) ∈ wsX7_caps := mb_X7_caps_wsX7_caps_r5 (List.mem_of_getElem? (i := 12) rfl)
theorem mb_X7_caps_wsX7_caps_r1 {w : Cond} (h : w ∈ wsX7_caps_r1) : w ∈ wsX7_caps := by unfold wsX7_caps; exact List.mem_cons_of_mem _ (List.mem_append_left _ (List.mem_append_left _ (List.mem_append_left _ (List.mem_append_left _ (h)))))
theorem mx_X7_caps_24 : Cond.fieldLink RX2 25 "MillTalk$CapSearch" "bestRow" "I" ∈ wsX7_caps := mb_X7_caps_wsX7_caps_r1 (List.mem_of_getElem? (i := 23) rfl)
theorem mx_X7_caps_22 : Cond.fieldLink RX2 18 "MillTalk$CapSearch" "hours" "I" ∈ wsX7_caps := mb_X7_caps_wsX7_caps_r1 (List.mem_of_getElem? (i := 21) rfl)
theorem mb_X7_caps_wsX20 {w : Cond} (h : w ∈ wsX20) : w ∈ wsX7_caps := by unfold wsX7_caps; exact List.mem_cons_of_mem _ (List.mem_append_left _ (List.mem_append_right _ (h)))
theorem ggX7_caps_X2_bestCap : GoodIn wsX7_caps wsX2_bestCap := goodIn_sub (by unfold wsX2_bestCap; exact List.forall_mem_cons.mpr ⟨mx_X7_caps_109, List.forall_mem_append.mpr ⟨List.forall_mem_cons.mpr ⟨mx_X7_caps_24, List.forall_mem_cons.mpr ⟨mx_X7_caps_22, fun _ h_ => absurd h_ List.not_mem_nil⟩⟩, (fun _ h_ => mb_X7_caps_wsX20 h_)⟩⟩) (by decide +kernel)
theorem mx_X7_caps_106 : Cond.methodLink RX7 234 yX2_bestCap ∈ wsX7_caps := mb_X7_caps_wsX7_caps_r5 (List.mem_of_getElem? (i := 9) rfl)
theorem mx_X7_caps_107 : Cond.instanceMethod yX2_bestCap ∈ wsX7_caps := mb_X7_caps_wsX7_caps_r5 (List.mem_of_getElem? (i := 10) rfl)
theorem mx_X7_caps_108 : Cond.selects RX2 yX2_bestCap yX2_bestCap ∈ wsX7_caps := mb_X7_caps_wsX7_caps_r5 (List.mem_of_getElem? (i := 11) rfl)
theorem mx_X7_caps_16 : Cond.initialized RX2 ∈ wsX7_caps := mb_X7_caps_wsX7_caps_r1 (List.mem_of_getElem? (i := 15) rfl)
theorem gX7_caps_X2_bestCap : GoodIn wsX7_caps (wsV RX7 234 RX2 yX2_bestCap wsX2_bestCap) := goodIn_app (goodIn_sub (List.forall_mem_cons.mpr ⟨mx_X7_caps_106, List.forall_mem_cons.mpr ⟨mx_X7_caps_107, List.forall_mem_cons.mpr ⟨mx_X7_caps_108, List.forall_mem_cons.mpr ⟨mx_X7_caps_16, fun _ h_ => absurd h_ List.not_mem_nil⟩⟩⟩⟩) (by decide +kernel)) ggX7_caps_X2_bestCap
theorem mx_X7_caps_17 : Cond.code yX2_isLength cX2_isLength 1 (some .boolean) ∈ wsX7_caps := mb_X7_caps_wsX7_caps_r1 (List.mem_of_getElem? (i := 16) rfl)
theorem ggX7_caps_X2_isLength : GoodIn wsX7_caps wsX2_isLength := goodIn_sub (by unfold wsX2_isLength; exact List.forall_mem_cons.mpr ⟨mx_X7_caps_17, fun _ h_ => absurd h_ List.not_mem_nil⟩) (by decide +kernel)
set_option maxRecDepth 20000 in
theorem gX7_caps_X2_isLength : GoodIn wsX7_caps (va_wsS RX7 221 yX2_isLength wsX2_isLength) := goodIn_app (goodIn_of _ (by decide +kernel)) ggX7_caps_X2_isLength
theorem mx_X7_caps_21 : Cond.code yX2_search cX2_search 4 none ∈ wsX7_caps := mb_X7_caps_wsX7_caps_r1 (List.mem_of_getElem? (i := 20) rfl)
theorem mx_X7_caps_23 : Cond.fieldLink RX2 22 "MillTalk$CapSearch" "wanted" "I" ∈ wsX7_caps := mb_X7_caps_wsX7_caps_r1 (List.mem_of_getElem? (i := 22) rfl)
theorem mb_X7_caps_wsX7_caps_r2 {w : Cond} (h : w ∈ wsX7_caps_r2) : w ∈ wsX7_caps := by unfold wsX7_caps; exact List.mem_cons_of_mem _ (List.mem_append_left _ (List.mem_append_left _ (List.mem_append_left _ (List.mem_append_right _ (List.mem_append_left _ (h))))))
theorem mx_X7_caps_25 : Cond.fieldLink RX2 28 "MillTalk$CapSearch" "bestWorth" "I" ∈ wsX7_caps := mb_X7_caps_wsX7_caps_r2 (List.mem_of_getElem? (i := 0) rfl)
theorem mx_X7_caps_26 : Cond.fieldLink RX2 31 "MillTalk$CapSearch" "bestTurns" "I" ∈ wsX7_caps := mb_X7_caps_wsX7_caps_r2 (List.mem_of_getElem? (i := 1) rfl)
theorem mx_X7_caps_27 : Cond.fieldLink RX2 13 "MillTalk$CapSearch" "behind" "[LMillTalk$Level;" ∈ wsX7_caps := mb_X7_caps_wsX7_caps_r2 (List.mem_of_getElem? (i := 2) rfl)
theorem mx_X7_caps_28 : Cond.methodLink RX2 34 yX3_becomeLike ∈ wsX7_caps := mb_X7_caps_wsX7_caps_r2 (List.mem_of_getElem? (i := 3) rfl)
theorem mx_X7_caps_29 : Cond.instanceMethod yX3_becomeLike ∈ wsX7_caps := mb_X7_caps_wsX7_caps_r2 (List.mem_of_getElem? (i := 4) rfl)
theorem mx_X7_caps_30 : Cond.selects RX3 yX3_becomeLike yX3_becomeLike ∈ wsX7_caps := mb_X7_caps_wsX7_caps_r2 (List.mem_of_getElem? (i := 5) rfl)
theorem mx_X7_caps_11 : Cond.initialized RX3 ∈ wsX7_caps := mb_X7_caps_wsX7_caps_r1 (List.mem_of_getElem? (i := 10) rfl)
theorem mx_X7_caps_31 : Cond.code yX3_becomeLike cX3_becomeLike 2 none ∈ wsX7_caps := mb_X7_caps_wsX7_caps_r2 (List.mem_of_getElem? (i := 6) rfl)
theorem mx_X7_caps_13 : Cond.fieldLink RX3 27 "MillTalk$Level" "cells" "I" ∈ wsX7_caps := mb_X7_caps_wsX7_caps_r1 (List.mem_of_getElem? (i := 12) rfl)
theorem mx_X7_caps_32 : Cond.fieldLink RX3 31 "MillTalk$Level" "mill" "I" ∈ wsX7_caps := mb_X7_caps_wsX7_caps_r2 (List.mem_of_getElem? (i := 7) rfl)
theorem mx_X7_caps_33 : Cond.fieldLink RX3 34 "MillTalk$Level" "reach" "I" ∈ wsX7_caps := mb_X7_caps_wsX7_caps_r2 (List.mem_of_getElem? (i := 8) rfl)
theorem mx_X7_caps_34 : Cond.fieldLink RX3 37 "MillTalk$Level" "cap" "I" ∈ wsX7_caps := mb_X7_caps_wsX7_caps_r2 (List.mem_of_getElem? (i := 9) rfl)
theorem mx_X7_caps_35 : Cond.fieldLink RX3 40 "MillTalk$Level" "hour" "I" ∈ wsX7_caps := mb_X7_caps_wsX7_caps_r2 (List.mem_of_getElem? (i := 10) rfl)
theorem mx_X7_caps_36 : Cond.fieldLink RX3 43 "MillTalk$Level" "meal" "I" ∈ wsX7_caps := mb_X7_caps_wsX7_caps_r2 (List.mem_of_getElem? (i := 11) rfl)
theorem mx_X7_caps_37 : Cond.fieldLink RX3 46 "MillTalk$Level" "windCount" "I" ∈ wsX7_caps := mb_X7_caps_wsX7_caps_r2 (List.mem_of_getElem? (i := 12) rfl)
theorem mx_X7_caps_38 : Cond.fieldLink RX3 49 "MillTalk$Level" "soundCount" "I" ∈ wsX7_caps := mb_X7_caps_wsX7_caps_r2 (List.mem_of_getElem? (i := 13) rfl)
theorem mx_X7_caps_39 : Cond.fieldLink RX3 9 "MillTalk$Level" "winds" "[I" ∈ wsX7_caps := mb_X7_caps_wsX7_caps_r2 (List.mem_of_getElem? (i := 14) rfl)
theorem mx_X7_caps_40 : Cond.methodLink RX3 52 arraycopyName ∈ wsX7_caps := mb_X7_caps_wsX7_caps_r2 (List.mem_of_getElem? (i := 15) rfl)
theorem mx_X7_caps_41 : Cond.native arraycopyName ∈ wsX7_caps := mb_X7_caps_wsX7_caps_r2 (List.mem_of_getElem? (i := 16) rfl)
theorem mx_X7_caps_42 : Cond.static arraycopyName ∈ wsX7_caps := mb_X7_caps_wsX7_caps_r2 (List.mem_of_getElem? (i := 17) rfl)
theorem mx_X7_caps_43 : Cond.initialized "java/lang/System" ∈ wsX7_caps := mb_X7_caps_wsX7_caps_r2 (List.mem_of_getElem? (i := 18) rfl)
theorem mx_X7_caps_44 : Cond.fieldLink RX3 15 "MillTalk$Level" "kinds" "[I" ∈ wsX7_caps := mb_X7_caps_wsX7_caps_r2 (List.mem_of_getElem? (i := 19) rfl)
theorem mx_X7_caps_45 : Cond.fieldLink RX3 18 "MillTalk$Level" "places" "[I" ∈ wsX7_caps := mb_X7_caps_wsX7_caps_r2 (List.mem_of_getElem? (i := 20) rfl)
theorem mx_X7_caps_46 : Cond.fieldLink RX3 21 "MillTalk$Level" "louds" "[I" ∈ wsX7_caps := mb_X7_caps_wsX7_caps_r2 (List.mem_of_getElem? (i := 21) rfl)
theorem mx_X7_caps_47 : Cond.fieldLink RX3 24 "MillTalk$Level" "hows" "[I" ∈ wsX7_caps := mb_X7_caps_wsX7_caps_r2 (List.mem_of_getElem? (i := 22) rfl)
theorem mx_X7_caps_48 : Cond.methodLink RX2 38 yX2_tryRows ∈ wsX7_caps := mb_X7_caps_wsX7_caps_r2 (List.mem_of_getElem? (i := 23) rfl)
theorem mb_X7_caps_wsX7_caps_r3 {w : Cond} (h : w ∈ wsX7_caps_r3) : w ∈ wsX7_caps := by unfold wsX7_caps; exact List.mem_cons_of_mem _ (List.mem_append_left _ (List.mem_append_left _ (List.mem_append_left _ (List.mem_append_right _ (List.mem_append_right _ (List.mem_append_left _ (h)))))))
theorem mx_X7_caps_49 : Cond.instanceMethod yX2_tryRows ∈ wsX7_caps := mb_X7_caps_wsX7_caps_r3 (List.mem_of_getElem? (i := 0) rfl)
theorem mx_X7_caps_50 : Cond.selects RX2 yX2_tryRows yX2_tryRows ∈ wsX7_caps := mb_X7_caps_wsX7_caps_r3 (List.mem_of_getElem? (i := 1) rfl)
theorem mx_X7_caps_51 : Cond.code yX2_tryRows cX2_tryRows 7 none ∈ wsX7_caps := mb_X7_caps_wsX7_caps_r3 (List.mem_of_getElem? (i := 2) rfl)
theorem mx_X7_caps_52 : Cond.fieldLink RX2 46 "MillTalk$Level" "cap" "I" ∈ wsX7_caps := mb_X7_caps_wsX7_caps_r3 (List.mem_of_getElem? (i := 3) rfl)
theorem mx_X7_caps_53 : Cond.methodLink RX2 42 yX2_judge ∈ wsX7_caps := mb_X7_caps_wsX7_caps_r3 (List.mem_of_getElem? (i := 4) rfl)
theorem mx_X7_caps_54 : Cond.instanceMethod yX2_judge ∈ wsX7_caps := mb_X7_caps_wsX7_caps_r3 (List.mem_of_getElem? (i := 5) rfl)
theorem mx_X7_caps_55 : Cond.selects RX2 yX2_judge yX2_judge ∈ wsX7_caps := mb_X7_caps_wsX7_caps_r3 (List.mem_of_getElem? (i := 6) rfl)
theorem mx_X7_caps_56 : Cond.code yX2_judge cX2_judge 5 none ∈ wsX7_caps := mb_X7_caps_wsX7_caps_r3 (List.mem_of_getElem? (i := 7) rfl)
theorem mx_X7_caps_57 : Cond.methodLink RX2 52 yX2_worthOf ∈ wsX7_caps := mb_X7_caps_wsX7_caps_r3 (List.mem_of_getElem? (i := 8) rfl)
theorem mx_X7_caps_58 : Cond.instanceMethod yX2_worthOf ∈ wsX7_caps := mb_X7_caps_wsX7_caps_r3 (List.mem_of_getElem? (i := 9) rfl)
theorem mx_X7_caps_59 : Cond.selects RX2 yX2_worthOf yX2_worthOf ∈ wsX7_caps := mb_X7_caps_wsX7_caps_r3 (List.mem_of_getElem? (i := 10) rfl)
theorem mx_X7_caps_60 : Cond.code yX2_worthOf cX2_worthOf 2 (some .int) ∈ wsX7_caps := mb_X7_caps_wsX7_caps_r3 (List.mem_of_getElem? (i := 11) rfl)
theorem mx_X7_caps_61 : Cond.fieldLink RX2 56 "MillTalk$Level" "meal" "I" ∈ wsX7_caps := mb_X7_caps_wsX7_caps_r3 (List.mem_of_getElem? (i := 12) rfl)
theorem mx_X7_caps_62 : Cond.methodLink RX2 59 yX3_soundsThatAre ∈ wsX7_caps := mb_X7_caps_wsX7_caps_r3 (List.mem_of_getElem? (i := 13) rfl)
theorem mx_X7_caps_63 : Cond.instanceMethod yX3_soundsThatAre ∈ wsX7_caps := mb_X7_caps_wsX7_caps_r3 (List.mem_of_getElem? (i := 14) rfl)
theorem mx_X7_caps_64 : Cond.selects RX3 yX3_soundsThatAre yX3_soundsThatAre ∈ wsX7_caps := mb_X7_caps_wsX7_caps_r3 (List.mem_of_getElem? (i := 15) rfl)
theorem mx_X7_caps_65 : Cond.code yX3_soundsThatAre cX3_soundsThatAre 4 (some .int) ∈ wsX7_caps := mb_X7_caps_wsX7_caps_r3 (List.mem_of_getElem? (i := 16) rfl)
theorem mx_X7_caps_66 : Cond.methodLink RX2 49 yX3_pass ∈ wsX7_caps := mb_X7_caps_wsX7_caps_r3 (List.mem_of_getElem? (i := 17) rfl)
theorem mx_X7_caps_67 : Cond.instanceMethod yX3_pass ∈ wsX7_caps := mb_X7_caps_wsX7_caps_r3 (List.mem_of_getElem? (i := 18) rfl)
theorem mx_X7_caps_68 : Cond.selects RX3 yX3_pass yX3_pass ∈ wsX7_caps := mb_X7_caps_wsX7_caps_r3 (List.mem_of_getElem? (i := 19) rfl)
theorem mx_X7_caps_69 : Cond.code yX3_pass cX3_pass 3 none ∈ wsX7_caps := mb_X7_caps_wsX7_caps_r3 (List.mem_of_getElem? (i := 20) rfl)
theorem mx_X7_caps_70 : Cond.methodLink RX3 87 yX3_windOn ∈ wsX7_caps := mb_X7_caps_wsX7_caps_r3 (List.mem_of_getElem? (i := 21) rfl)
theorem mx_X7_caps_71 : Cond.instanceMethod yX3_windOn ∈ wsX7_caps := mb_X7_caps_wsX7_caps_r3 (List.mem_of_getElem? (i := 22) rfl)
theorem mx_X7_caps_72 : Cond.selects RX3 yX3_windOn yX3_windOn ∈ wsX7_caps := mb_X7_caps_wsX7_caps_r3 (List.mem_of_getElem? (i := 23) rfl)
theorem mb_X7_caps_wsX7_caps_r4 {w : Cond} (h : w ∈ wsX7_caps_r4) : w ∈ wsX7_caps := by unfold wsX7_caps; exact List.mem_cons_of_mem _ (List.mem_append_left _ (List.mem_append_left _ (List.mem_append_left _ (List.mem_append_right _ (List.mem_append_right _ (List.mem_append_right _ (List.mem_append_left _ (h))))))))
theorem mx_X7_caps_73 : Cond.code yX3_windOn cX3_windOn 2 (some .int) ∈ wsX7_caps := mb_X7_caps_wsX7_caps_r4 (List.mem_of_getElem? (i := 0) rfl)
theorem mx_X7_caps_74 : Cond.methodLink RX3 90 yX3_passSound ∈ wsX7_caps := mb_X7_caps_wsX7_caps_r4 (List.mem_of_getElem? (i := 1) rfl)
theorem mx_X7_caps_75 : Cond.instanceMethod yX3_passSound ∈ wsX7_caps := mb_X7_caps_wsX7_caps_r4 (List.mem_of_getElem? (i := 2) rfl)
theorem mx_X7_caps_76 : Cond.selects RX3 yX3_passSound yX3_passSound ∈ wsX7_caps := mb_X7_caps_wsX7_caps_r4 (List.mem_of_getElem? (i := 3) rfl)
theorem mx_X7_caps_77 : Cond.code yX3_passSound cX3_passSound 5 none ∈ wsX7_caps := mb_X7_caps_wsX7_caps_r4 (List.mem_of_getElem? (i := 4) rfl)
theorem mx_X7_caps_78 : Cond.methodLink RX3 63 Lib.Math.min.name ∈ wsX7_caps := mb_X7_caps_wsX7_caps_r4 (List.mem_of_getElem? (i := 5) rfl)
theorem mx_X7_caps_79 : Cond.static Lib.Math.min.name ∈ wsX7_caps := mb_X7_caps_wsX7_caps_r4 (List.mem_of_getElem? (i := 6) rfl)
theorem mx_X7_caps_80 : Cond.initialized "java/lang/Math" ∈ wsX7_caps := mb_X7_caps_wsX7_caps_r4 (List.mem_of_getElem? (i := 7) rfl)
theorem mx_X7_caps_81 : Cond.code Lib.Math.min.name Lib.Math.min.code 2 (some .int) ∈ wsX7_caps := mb_X7_caps_wsX7_caps_r4 (List.mem_of_getElem? (i := 8) rfl)
theorem mx_X7_caps_82 : Cond.methodLink RX3 58 yX3_isLoose ∈ wsX7_caps := mb_X7_caps_wsX7_caps_r4 (List.mem_of_getElem? (i := 9) rfl)
theorem mx_X7_caps_83 : Cond.instanceMethod yX3_isLoose ∈ wsX7_caps := mb_X7_caps_wsX7_caps_r4 (List.mem_of_getElem? (i := 10) rfl)
theorem mx_X7_caps_84 : Cond.selects RX3 yX3_isLoose yX3_isLoose ∈ wsX7_caps := mb_X7_caps_wsX7_caps_r4 (List.mem_of_getElem? (i := 11) rfl)
theorem mx_X7_caps_85 : Cond.code yX3_isLoose cX3_isLoose 2 (some .boolean) ∈ wsX7_caps := mb_X7_caps_wsX7_caps_r4 (List.mem_of_getElem? (i := 12) rfl)
theorem mx_X7_caps_86 : Cond.methodLink RX3 69 yX3_driftOf ∈ wsX7_caps := mb_X7_caps_wsX7_caps_r4 (List.mem_of_getElem? (i := 13) rfl)
theorem mx_X7_caps_87 : Cond.instanceMethod yX3_driftOf ∈ wsX7_caps := mb_X7_caps_wsX7_caps_r4 (List.mem_of_getElem? (i := 14) rfl)
theorem mx_X7_caps_88 : Cond.selects RX3 yX3_driftOf yX3_driftOf ∈ wsX7_caps := mb_X7_caps_wsX7_caps_r4 (List.mem_of_getElem? (i := 15) rfl)
theorem mx_X7_caps_89 : Cond.code yX3_driftOf cX3_driftOf 4 (some .int) ∈ wsX7_caps := mb_X7_caps_wsX7_caps_r4 (List.mem_of_getElem? (i := 16) rfl)
theorem mx_X7_caps_90 : Cond.methodLink RX3 72 yX3_loudBehindHour ∈ wsX7_caps := mb_X7_caps_wsX7_caps_r4 (List.mem_of_getElem? (i := 17) rfl)
theorem mx_X7_caps_91 : Cond.instanceMethod yX3_loudBehindHour ∈ wsX7_caps := mb_X7_caps_wsX7_caps_r4 (List.mem_of_getElem? (i := 18) rfl)
theorem mx_X7_caps_92 : Cond.selects RX3 yX3_loudBehindHour yX3_loudBehindHour ∈ wsX7_caps := mb_X7_caps_wsX7_caps_r4 (List.mem_of_getElem? (i := 19) rfl)
theorem mx_X7_caps_93 : Cond.code yX3_loudBehindHour cX3_loudBehindHour 2 (some .int) ∈ wsX7_caps := mb_X7_caps_wsX7_caps_r4 (List.mem_of_getElem? (i := 20) rfl)
theorem mx_X7_caps_94 : Cond.methodLink RX3 76 yX3_hasCell ∈ wsX7_caps := mb_X7_caps_wsX7_caps_r4 (List.mem_of_getElem? (i := 21) rfl)
theorem mx_X7_caps_95 : Cond.instanceMethod yX3_hasCell ∈ wsX7_caps := mb_X7_caps_wsX7_caps_r4 (List.mem_of_getElem? (i := 22) rfl)
theorem mx_X7_caps_96 : Cond.selects RX3 yX3_hasCell yX3_hasCell ∈ wsX7_caps := mb_X7_caps_wsX7_caps_r4 (List.mem_of_getElem? (i := 23) rfl)
theorem mx_X7_caps_97 : Cond.code yX3_hasCell cX3_hasCell 2 (some .boolean) ∈ wsX7_caps := mb_X7_caps_wsX7_caps_r5 (List.mem_of_getElem? (i := 0) rfl)
theorem mx_X7_caps_98 : Cond.methodLink RX3 79 yX3_letLoose ∈ wsX7_caps := mb_X7_caps_wsX7_caps_r5 (List.mem_of_getElem? (i := 1) rfl)
theorem mx_X7_caps_99 : Cond.instanceMethod yX3_letLoose ∈ wsX7_caps := mb_X7_caps_wsX7_caps_r5 (List.mem_of_getElem? (i := 2) rfl)
theorem mx_X7_caps_100 : Cond.selects RX3 yX3_letLoose yX3_letLoose ∈ wsX7_caps := mb_X7_caps_wsX7_caps_r5 (List.mem_of_getElem? (i := 3) rfl)
theorem mx_X7_caps_101 : Cond.code yX3_letLoose cX3_letLoose 4 none ∈ wsX7_caps := mb_X7_caps_wsX7_caps_r5 (List.mem_of_getElem? (i := 4) rfl)
theorem mx_X7_caps_102 : Cond.methodLink RX3 83 yX3_grindsAt ∈ wsX7_caps := mb_X7_caps_wsX7_caps_r5 (List.mem_of_getElem? (i := 5) rfl)
theorem mx_X7_caps_103 : Cond.instanceMethod yX3_grindsAt ∈ wsX7_caps := mb_X7_caps_wsX7_caps_r5 (List.mem_of_getElem? (i := 6) rfl)
theorem mx_X7_caps_104 : Cond.selects RX3 yX3_grindsAt yX3_grindsAt ∈ wsX7_caps := mb_X7_caps_wsX7_caps_r5 (List.mem_of_getElem? (i := 7) rfl)
theorem mx_X7_caps_105 : Cond.code yX3_grindsAt cX3_grindsAt 4 (some .boolean) ∈ wsX7_caps := mb_X7_caps_wsX7_caps_r5 (List.mem_of_getElem? (i := 8) rfl)
theorem mb_X7_caps_wsX30 {w : Cond} (h : w ∈ wsX30) : w ∈ wsX7_caps := by unfold wsX7_caps; exact List.mem_cons_of_mem _ (List.mem_append_right _ (h))
theorem ggX7_caps_X2_search : GoodIn wsX7_caps wsX2_search := goodIn_sub (by unfold wsX2_search; exact List.forall_mem_cons.mpr ⟨mx_X7_caps_21, List.forall_mem_append.mpr ⟨List.forall_mem_append.mpr ⟨List.forall_mem_append.mpr ⟨(by unfold wsX2_search_r1; exact List.forall_mem_cons.mpr ⟨mx_X7_caps_22, List.forall_mem_cons.mpr ⟨mx_X7_caps_23, List.forall_mem_cons.mpr ⟨mx_X7_caps_24, List.forall_mem_cons.mpr ⟨mx_X7_caps_25, List.forall_mem_cons.mpr ⟨mx_X7_caps_26, List.forall_mem_cons.mpr ⟨mx_X7_caps_27, List.forall_mem_cons.mpr ⟨mx_X7_caps_28, List.forall_mem_cons.mpr ⟨mx_X7_caps_29, List.forall_mem_cons.mpr ⟨mx_X7_caps_30, List.forall_mem_cons.mpr ⟨mx_X7_caps_11, List.forall_mem_cons.mpr ⟨mx_X7_caps_31, List.forall_mem_cons.mpr ⟨mx_X7_caps_13, List.forall_mem_cons.mpr ⟨mx_X7_caps_32, List.forall_mem_cons.mpr ⟨mx_X7_caps_33, List.forall_mem_cons.mpr ⟨mx_X7_caps_34, List.forall_mem_cons.mpr ⟨mx_X7_caps_35, List.forall_mem_cons.mpr ⟨mx_X7_caps_36, List.forall_mem_cons.mpr ⟨mx_X7_caps_37, List.forall_mem_cons.mpr ⟨mx_X7_caps_38, List.forall_mem_cons.mpr ⟨mx_X7_caps_39, List.forall_mem_cons.mpr ⟨mx_X7_caps_40, List.forall_mem_cons.mpr ⟨mx_X7_caps_41, List.forall_mem_cons.mpr ⟨mx_X7_caps_42, List.forall_mem_cons.mpr ⟨mx_X7_caps_43, fun _ h_ => absurd h_ List.not_mem_nil⟩⟩⟩⟩⟩⟩⟩⟩⟩⟩⟩⟩⟩⟩⟩⟩⟩⟩⟩⟩⟩⟩⟩⟩), List.forall_mem_append.mpr ⟨(by unfold wsX2_search_r2; exact List.forall_mem_cons.mpr ⟨mx_X7_caps_44, List.forall_mem_cons.mpr ⟨mx_X7_caps_45, List.forall_mem_cons.mpr ⟨mx_X7_caps_46, List.forall_mem_cons.mpr ⟨mx_X7_caps_47, List.forall_mem_cons.mpr ⟨mx_X7_caps_48, List.forall_mem_cons.mpr ⟨mx_X7_caps_49, List.forall_mem_cons.mpr ⟨mx_X7_caps_50, List.forall_mem_cons.mpr ⟨mx_X7_caps_16, List.forall_mem_cons.mpr ⟨mx_X7_caps_51, List.forall_mem_cons.mpr ⟨mx_X7_caps_52, List.forall_mem_cons.mpr ⟨mx_X7_caps_53, List.forall_mem_cons.mpr ⟨mx_X7_caps_54, List.forall_mem_cons.mpr ⟨mx_X7_caps_55, List.forall_mem_cons.mpr ⟨mx_X7_caps_56, List.forall_mem_cons.mpr ⟨mx_X7_caps_57, List.forall_mem_cons.mpr ⟨mx_X7_caps_58, List.forall_mem_cons.mpr ⟨mx_X7_caps_59, List.forall_mem_cons.mpr ⟨mx_X7_caps_60, List.forall_mem_cons.mpr ⟨mx_X7_caps_61, List.forall_mem_cons.mpr ⟨mx_X7_caps_62, List.forall_mem_cons.mpr ⟨mx_X7_caps_63, List.forall_mem_cons.mpr ⟨mx_X7_caps_64, List.forall_mem_cons.mpr ⟨mx_X7_caps_65, List.forall_mem_cons.mpr ⟨mx_X7_caps_66, fun _ h_ => absurd h_ List.not_mem_nil⟩⟩⟩⟩⟩⟩⟩⟩⟩⟩⟩⟩⟩⟩⟩⟩⟩⟩⟩⟩⟩⟩⟩⟩), List.forall_mem_append.mpr ⟨(by unfold wsX2_search_r3; exact List.forall_mem_cons.mpr ⟨mx_X7_caps_67, List.forall_mem_cons.mpr ⟨mx_X7_caps_68, List.forall_mem_cons.mpr ⟨mx_X7_caps_69, List.forall_mem_cons.mpr ⟨mx_X7_caps_70, List.forall_mem_cons.mpr ⟨mx_X7_caps_71, List.forall_mem_cons.mpr ⟨mx_X7_caps_72, List.forall_mem_cons.mpr ⟨mx_X7_caps_73, List.forall_mem_cons.mpr ⟨mx_X7_caps_74, List.forall_mem_cons.mpr ⟨mx_X7_caps_75, List.forall_mem_cons.mpr ⟨mx_X7_caps_76, List.forall_mem_cons.mpr ⟨mx_X7_caps_77, List.forall_mem_cons.mpr ⟨mx_X7_caps_78, List.forall_mem_cons.mpr ⟨mx_X7_caps_79, List.forall_mem_cons.mpr ⟨mx_X7_caps_80, List.forall_mem_cons.mpr ⟨mx_X7_caps_81, List.forall_mem_cons.mpr ⟨mx_X7_caps_82, List.forall_mem_cons.mpr ⟨mx_X7_caps_83, List.forall_mem_cons.mpr ⟨mx_X7_caps_84, List.forall_mem_cons.mpr ⟨mx_X7_caps_85, List.forall_mem_cons.mpr ⟨mx_X7_caps_86, List.forall_mem_cons.mpr ⟨mx_X7_caps_87, List.forall_mem_cons.mpr ⟨mx_X7_caps_88, List.forall_mem_cons.mpr ⟨mx_X7_caps_89, List.forall_mem_cons.mpr ⟨mx_X7_caps_90, fun _ h_ => absurd h_ List.not_mem_nil⟩⟩⟩⟩⟩⟩⟩⟩⟩⟩⟩⟩⟩⟩⟩⟩⟩⟩⟩⟩⟩⟩⟩⟩), (by unfold wsX2_search_r4; exact List.forall_mem_cons.mpr ⟨mx_X7_caps_91, List.forall_mem_cons.mpr ⟨mx_X7_caps_92, List.forall_mem_cons.mpr ⟨mx_X7_caps_93, List.forall_mem_cons.mpr ⟨mx_X7_caps_94, List.forall_mem_cons.mpr ⟨mx_X7_caps_95, List.forall_mem_cons.mpr ⟨mx_X7_caps_96, List.forall_mem_cons.mpr ⟨mx_X7_caps_97, List.forall_mem_cons.mpr ⟨mx_X7_caps_98, List.forall_mem_cons.mpr ⟨mx_X7_caps_99, List.forall_mem_cons.mpr ⟨mx_X7_caps_100, List.forall_mem_cons.mpr ⟨mx_X7_caps_101, List.forall_mem_cons.mpr ⟨mx_X7_caps_102, List.forall_mem_cons.mpr ⟨mx_X7_caps_103, List.forall_mem_cons.mpr ⟨mx_X7_caps_104, List.forall_mem_cons.mpr ⟨mx_X7_caps_105, fun _ h_ => absurd h_ List.not_mem_nil⟩⟩⟩⟩⟩⟩⟩⟩⟩⟩⟩⟩⟩⟩⟩)⟩⟩⟩, (fun _ h_ => mb_X7_caps_wsX20 h_)⟩, (fun _ h_ => mb_X7_caps_wsX30 h_)⟩⟩) (by decide +kernel)
theorem mx_X7_caps_18 : Cond.methodLink RX7 224 yX2_search ∈ wsX7_caps := mb_X7_caps_wsX7_caps_r1 (List.mem_of_getElem? (i := 17) rfl)
theorem mx_X7_caps_19 : Cond.instanceMethod yX2_search ∈ wsX7_caps := mb_X7_caps_wsX7_caps_r1 (List.mem_of_getElem? (i := 18) rfl)
theorem mx_X7_caps_20 : Cond.selects RX2 yX2_search yX2_search ∈ wsX7_caps := mb_X7_caps_wsX7_caps_r1 (List.mem_of_getElem? (i := 19) rfl)
theorem gX7_caps_X2_search : GoodIn wsX7_caps (wsV RX7 224 RX2 yX2_search wsX2_search) := goodIn_app (goodIn_sub (List.forall_mem_cons.mpr ⟨mx_X7_caps_18, List.forall_mem_cons.mpr ⟨mx_X7_caps_19, List.forall_mem_cons.mpr ⟨mx_X7_caps_20, List.forall_mem_cons.mpr ⟨mx_X7_caps_16, fun _ h_ => absurd h_ List.not_mem_nil⟩⟩⟩⟩) (by decide +kernel)) ggX7_caps_X2_search
theorem mx_X7_caps_12 : Cond.code yX3_isTold cX3_isTold 1 (some .boolean) ∈ wsX7_caps := mb_X7_caps_wsX7_caps_r1 (List.mem_of_getElem? (i := 11) rfl)
theorem ggX7_caps_X3_isTold : GoodIn wsX7_caps wsX3_isTold := goodIn_sub (by unfold wsX3_isTold; exact List.forall_mem_cons.mpr ⟨mx_X7_caps_12, List.forall_mem_append.mpr ⟨List.forall_mem_cons.mpr ⟨mx_X7_caps_13, fun _ h_ => absurd h_ List.not_mem_nil⟩, (fun _ h_ => mb_X7_caps_wsX30 h_)⟩⟩) (by decide +kernel)
theorem mx_X7_caps_8 : Cond.methodLink RX7 145 yX3_isTold ∈ wsX7_caps := mb_X7_caps_wsX7_caps_r1 (List.mem_of_getElem? (i := 7) rfl)
theorem mx_X7_caps_9 : Cond.instanceMethod yX3_isTold ∈ wsX7_caps := mb_X7_caps_wsX7_caps_r1 (List.mem_of_getElem? (i := 8) rfl)
theorem mx_X7_caps_10 : Cond.selects RX3 yX3_isTold yX3_isTold ∈ wsX7_caps := mb_X7_caps_wsX7_caps_r1 (List.mem_of_getElem? (i := 9) rfl)
theorem gX7_caps_X3_isTold : GoodIn wsX7_caps (wsV RX7 145 RX3 yX3_isTold wsX3_isTold) := goodIn_app (goodIn_sub (List.forall_mem_cons.mpr ⟨mx_X7_caps_8, List.forall_mem_cons.mpr ⟨mx_X7_caps_9, List.forall_mem_cons.mpr ⟨mx_X7_caps_10, List.forall_mem_cons.mpr ⟨mx_X7_caps_11, fun _ h_ => absurd h_ List.not_mem_nil⟩⟩⟩⟩) (by decide +kernel)) ggX7_caps_X3_isTold
theorem mb_X7_copy_wsX7_copy_r1 {w : Cond} (h : w ∈ wsX7_copy_r1) : w ∈ wsX7_copy := by unfold wsX7_copy; exact List.mem_cons_of_mem _ (List.mem_append_left _ (List.mem_append_left _ (List.mem_append_left _ (h))))
theorem mx_X7_copy_10 : Cond.code yX5_findingOfMove cX5_findingOfMove 6 (some .int) ∈ wsX7_copy := mb_X7_copy_wsX7_copy_r1 (List.mem_of_getElem? (i := 9) rfl)
theorem mx_X7_copy_11 : Cond.fieldLink RX5 16 "MillTalk$Rows" "lanes" "[I" ∈ wsX7_copy := mb_X7_copy_wsX7_copy_r1 (List.mem_of_getElem? (i := 10) rfl)
theorem mx_X7_copy_12 : Cond.methodLink RX5 29 yX5_isMissing ∈ wsX7_copy := mb_X7_copy_wsX7_copy_r1 (List.mem_of_getElem? (i := 11) rfl)
theorem mx_X7_copy_13 : Cond.instanceMethod yX5_isMissing ∈ wsX7_copy := mb_X7_copy_wsX7_copy_r1 (List.mem_of_getElem? (i := 12) rfl)
theorem mx_X7_copy_14 : Cond.selects RX5 yX5_isMissing yX5_isMissing ∈ wsX7_copy := mb_X7_copy_wsX7_copy_r1 (List.mem_of_getElem? (i := 13) rfl)
theorem mx_X7_copy_5 : Cond.initialized RX5 ∈ wsX7_copy := mb_X7_copy_wsX7_copy_r1 (List.mem_of_getElem? (i := 4) rfl)
theorem mx_X7_copy_15 : Cond.code yX5_isMissing cX5_isMissing 2 (some .boolean) ∈ wsX7_copy := mb_X7_copy_wsX7_copy_r1 (List.mem_of_getElem? (i := 14) rfl)
theorem mx_X7_copy_16 : Cond.methodLink RX5 33 yX5_hasPlaces ∈ wsX7_copy := mb_X7_copy_wsX7_copy_r1 (List.mem_of_getElem? (i := 15) rfl)
theorem mx_X7_copy_17 : Cond.instanceMethod yX5_hasPlaces ∈ wsX7_copy := mb_X7_copy_wsX7_copy_r1 (List.mem_of_getElem? (i := 16) rfl)
theorem mx_X7_copy_18 : Cond.selects RX5 yX5_hasPlaces yX5_hasPlaces ∈ wsX7_copy := mb_X7_copy_wsX7_copy_r1 (List.mem_of_getElem? (i := 17) rfl)
theorem mx_X7_copy_19 : Cond.code yX5_hasPlaces cX5_hasPlaces 4 (some .boolean) ∈ wsX7_copy := mb_X7_copy_wsX7_copy_r1 (List.mem_of_getElem? (i := 18) rfl)
theorem mx_X7_copy_20 : Cond.fieldLink RX5 20 "MillTalk$Rows" "lengths" "[I" ∈ wsX7_copy := mb_X7_copy_wsX7_copy_r1 (List.mem_of_getElem? (i := 19) rfl)
theorem mb_X7_copy_wsX50 {w : Cond} (h : w ∈ wsX50) : w ∈ wsX7_copy := by unfold wsX7_copy; exact List.mem_cons_of_mem _ (List.mem_append_right _ (h))
theorem ggX7_copy_X5_findingOfMove : GoodIn wsX7_copy wsX5_findingOfMove := goodIn_sub (by unfold wsX5_findingOfMove; exact List.forall_mem_cons.mpr ⟨mx_X7_copy_10, List.forall_mem_append.mpr ⟨List.forall_mem_cons.mpr ⟨mx_X7_copy_11, List.forall_mem_cons.mpr ⟨mx_X7_copy_12, List.forall_mem_cons.mpr ⟨mx_X7_copy_13, List.forall_mem_cons.mpr ⟨mx_X7_copy_14, List.forall_mem_cons.mpr ⟨mx_X7_copy_5, List.forall_mem_cons.mpr ⟨mx_X7_copy_15, List.forall_mem_cons.mpr ⟨mx_X7_copy_16, List.forall_mem_cons.mpr ⟨mx_X7_copy_17, List.forall_mem_cons.mpr ⟨mx_X7_copy_18, List.forall_mem_cons.mpr ⟨mx_X7_copy_19, List.forall_mem_cons.mpr ⟨mx_X7_copy_20, fun _ h_ => absurd h_ List.not_mem_nil⟩⟩⟩⟩⟩⟩⟩⟩⟩⟩⟩, (fun _ h_ => mb_X7_copy_wsX50 h_)⟩⟩) (by decide +kernel)
theorem mx_X7_copy_7 : Cond.methodLink RX7 91 yX5_findingOfMove ∈ wsX7_copy := mb_X7_copy_wsX7_copy_r1 (List.mem_of_getElem? (i := 6) rfl)
theorem mx_X7_copy_8 : Cond.instanceMethod yX5_findingOfMove ∈ wsX7_copy := mb_X7_copy_wsX7_copy_r1 (List.mem_of_getElem? (i := 7) rfl)
theorem mx_X7_copy_9 : Cond.selects RX5 yX5_findingOfMove yX5_findingOfMove ∈ wsX7_copy := mb_X7_copy_wsX7_copy_r1 (List.mem_of_getElem? (i := 8) rfl)
theorem gX7_copy_X5_findingOfMove : GoodIn wsX7_copy (wsV RX7 91 RX5 yX5_findingOfMove wsX5_findingOfMove) := goodIn_app (goodIn_sub (List.forall_mem_cons.mpr ⟨mx_X7_copy_7, List.forall_mem_cons.mpr ⟨mx_X7_copy_8, List.forall_mem_cons.mpr ⟨mx_X7_copy_9, List.forall_mem_cons.mpr ⟨mx_X7_copy_5, fun _ h_ => absurd h_ List.not_mem_nil⟩⟩⟩⟩) (by decide +kernel)) ggX7_copy_X5_findingOfMove
theorem mx_X7_copy_6 : Cond.code yX5_isRow cX5_isRow 1 (some .boolean) ∈ wsX7_copy := mb_X7_copy_wsX7_copy_r1 (List.mem_of_getElem? (i := 5) rfl)
theorem ggX7_copy_X5_isRow : GoodIn wsX7_copy wsX5_isRow := goodIn_sub (by unfold wsX5_isRow; exact List.forall_mem_cons.mpr ⟨mx_X7_copy_6, fun _ h_ => absurd h_ List.not_mem_nil⟩) (by decide +kernel)
set_option maxRecDepth 20000 in
theorem gX7_copy_X5_isRow : GoodIn wsX7_copy (va_wsS RX7 65 yX5_isRow wsX5_isRow) := goodIn_app (goodIn_of _ (by decide +kernel)) ggX7_copy_X5_isRow
theorem mb_X7_copy_wsX7_copy_r2 {w : Cond} (h : w ∈ wsX7_copy_r2) : w ∈ wsX7_copy := by unfold wsX7_copy; exact List.mem_cons_of_mem _ (List.mem_append_left _ (List.mem_append_left _ (List.mem_append_right _ (h))))
theorem mx_X7_copy_31 : Cond.code yX5_move cX5_move 6 none ∈ wsX7_copy := mb_X7_copy_wsX7_copy_r2 (List.mem_of_getElem? (i := 6) rfl)
theorem mx_X7_copy_32 : Cond.fieldLink RX5 13 "MillTalk$Rows" "items" "[[I" ∈ wsX7_copy := mb_X7_copy_wsX7_copy_r2 (List.mem_of_getElem? (i := 7) rfl)
theorem mx_X7_copy_33 : Cond.methodLink RX5 37 arraycopyName ∈ wsX7_copy := mb_X7_copy_wsX7_copy_r2 (List.mem_of_getElem? (i := 8) rfl)
theorem mx_X7_copy_34 : Cond.native arraycopyName ∈ wsX7_copy := mb_X7_copy_wsX7_copy_r2 (List.mem_of_getElem? (i := 9) rfl)
theorem mx_X7_copy_35 : Cond.static arraycopyName ∈ wsX7_copy := mb_X7_copy_wsX7_copy_r2 (List.mem_of_getElem? (i := 10) rfl)
theorem mx_X7_copy_36 : Cond.initialized "java/lang/System" ∈ wsX7_copy := mb_X7_copy_wsX7_copy_r2 (List.mem_of_getElem? (i := 11) rfl)
theorem ggX7_copy_X5_move : GoodIn wsX7_copy wsX5_move := goodIn_sub (by unfold wsX5_move; exact List.forall_mem_cons.mpr ⟨mx_X7_copy_31, List.forall_mem_append.mpr ⟨List.forall_mem_cons.mpr ⟨mx_X7_copy_32, List.forall_mem_cons.mpr ⟨mx_X7_copy_33, List.forall_mem_cons.mpr ⟨mx_X7_copy_34, List.forall_mem_cons.mpr ⟨mx_X7_copy_35, List.forall_mem_cons.mpr ⟨mx_X7_copy_36, fun _ h_ => absurd h_ List.not_mem_nil⟩⟩⟩⟩⟩, (fun _ h_ => mb_X7_copy_wsX50 h_)⟩⟩) (by decide +kernel)
theorem mx_X7_copy_28 : Cond.methodLink RX7 95 yX5_move ∈ wsX7_copy := mb_X7_copy_wsX7_copy_r2 (List.mem_of_getElem? (i := 3) rfl)
theorem mx_X7_copy_29 : Cond.instanceMethod yX5_move ∈ wsX7_copy := mb_X7_copy_wsX7_copy_r2 (List.mem_of_getElem? (i := 4) rfl)
theorem mx_X7_copy_30 : Cond.selects RX5 yX5_move yX5_move ∈ wsX7_copy := mb_X7_copy_wsX7_copy_r2 (List.mem_of_getElem? (i := 5) rfl)
theorem gX7_copy_X5_move : GoodIn wsX7_copy (wsV RX7 95 RX5 yX5_move wsX5_move) := goodIn_app (goodIn_sub (List.forall_mem_cons.mpr ⟨mx_X7_copy_28, List.forall_mem_cons.mpr ⟨mx_X7_copy_29, List.forall_mem_cons.mpr ⟨mx_X7_copy_30, List.forall_mem_cons.mpr ⟨mx_X7_copy_5, fun _ h_ => absurd h_ List.not_mem_nil⟩⟩⟩⟩) (by decide +kernel)) ggX7_copy_X5_move
theorem mx_X7_copy_25 : Cond.code yX7_found cX7_found 2 (some .int) ∈ wsX7_copy := mb_X7_copy_wsX7_copy_r2 (List.mem_of_getElem? (i := 0) rfl)
theorem mx_X7_copy_26 : Cond.fieldLink RX7 323 "MillTalk" "latestFinding" "I" ∈ wsX7_copy := mb_X7_copy_wsX7_copy_r2 (List.mem_of_getElem? (i := 1) rfl)
theorem mx_X7_copy_27 : Cond.constant RX7 326 (-1000010) ∈ wsX7_copy := mb_X7_copy_wsX7_copy_r2 (List.mem_of_getElem? (i := 2) rfl)
theorem mb_X7_copy_wsX70 {w : Cond} (h : w ∈ wsX70) : w ∈ wsX7_copy := by unfold wsX7_copy; exact List.mem_cons_of_mem _ (List.mem_append_left _ (List.mem_append_right _ (h)))
theorem ggX7_copy_X7_found : GoodIn wsX7_copy wsX7_found := goodIn_sub (by unfold wsX7_found; exact List.forall_mem_cons.mpr ⟨mx_X7_copy_25, List.forall_mem_append.mpr ⟨List.forall_mem_cons.mpr ⟨mx_X7_copy_26, List.forall_mem_cons.mpr ⟨mx_X7_copy_27, fun _ h_ => absurd h_ List.not_mem_nil⟩⟩, (fun _ h_ => mb_X7_copy_wsX70 h_)⟩⟩) (by decide +kernel)
theorem mx_X7_copy_21 : Cond.methodLink RX7 73 yX7_found ∈ wsX7_copy := mb_X7_copy_wsX7_copy_r1 (List.mem_of_getElem? (i := 20) rfl)
theorem mx_X7_copy_22 : Cond.instanceMethod yX7_found ∈ wsX7_copy := mb_X7_copy_wsX7_copy_r1 (List.mem_of_getElem? (i := 21) rfl)
theorem mx_X7_copy_23 : Cond.selects RX7 yX7_found yX7_found ∈ wsX7_copy := mb_X7_copy_wsX7_copy_r1 (List.mem_of_getElem? (i := 22) rfl)
theorem mx_X7_copy_24 : Cond.initialized RX7 ∈ wsX7_copy := mb_X7_copy_wsX7_copy_r1 (List.mem_of_getElem? (i := 23) rfl)
theorem gX7_copy_X7_found : GoodIn wsX7_copy (wsV RX7 73 RX7 yX7_found wsX7_found) := goodIn_app (goodIn_sub (List.forall_mem_cons.mpr ⟨mx_X7_copy_21, List.forall_mem_cons.mpr ⟨mx_X7_copy_22, List.forall_mem_cons.mpr ⟨mx_X7_copy_23, List.forall_mem_cons.mpr ⟨mx_X7_copy_24, fun _ h_ => absurd h_ List.not_mem_nil⟩⟩⟩⟩) (by decide +kernel)) ggX7_copy_X7_found
theorem mx_X7_copy_40 : Cond.code yX7_foundNothing cX7_foundNothing 2 (some .int) ∈ wsX7_copy := mb_X7_copy_wsX7_copy_r2 (List.mem_of_getElem? (i := 15) rfl)
theorem ggX7_copy_X7_foundNothing : GoodIn wsX7_copy wsX7_foundNothing := goodIn_sub (by unfold wsX7_foundNothing; exact List.forall_mem_cons.mpr ⟨mx_X7_copy_40, List.forall_mem_append.mpr ⟨List.forall_mem_cons.mpr ⟨mx_X7_copy_26, fun _ h_ => absurd h_ List.not_mem_nil⟩, (fun _ h_ => mb_X7_copy_wsX70 h_)⟩⟩) (by decide +kernel)
theorem mx_X7_copy_37 : Cond.methodLink RX7 81 yX7_foundNothing ∈ wsX7_copy := mb_X7_copy_wsX7_copy_r2 (List.mem_of_getElem? (i := 12) rfl)
theorem mx_X7_copy_38 : Cond.instanceMethod yX7_foundNothing ∈ wsX7_copy := mb_X7_copy_wsX7_copy_r2 (List.mem_of_getElem? (i := 13) rfl)
theorem mx_X7_copy_39 : Cond.selects RX7 yX7_foundNothing yX7_foundNothing ∈ wsX7_copy := mb_X7_copy_wsX7_copy_r2 (List.mem_of_getElem? (i := 14) rfl)
theorem gX7_copy_X7_foundNothing : GoodIn wsX7_copy (wsV RX7 81 RX7 yX7_foundNothing wsX7_foundNothing) := goodIn_app (goodIn_sub (List.forall_mem_cons.mpr ⟨mx_X7_copy_37, List.forall_mem_cons.mpr ⟨mx_X7_copy_38, List.forall_mem_cons.mpr ⟨mx_X7_copy_39, List.forall_mem_cons.mpr ⟨mx_X7_copy_24, fun _ h_ => absurd h_ List.not_mem_nil⟩⟩⟩⟩) (by decide +kernel)) ggX7_copy_X7_foundNothing
theorem mb_X7_drop_wsX7_drop_r1 {w : Cond} (h : w ∈ wsX7_drop_r1) : w ∈ wsX7_drop := by unfold wsX7_drop; exact List.mem_cons_of_mem _ (List.mem_append_left _ (List.mem_append_left _ (List.mem_append_left _ (h))))
theorem mx_X7_drop_10 : Cond.code yX5_isMissing cX5_isMissing 2 (some .boolean) ∈ wsX7_drop := mb_X7_drop_wsX7_drop_r1 (List.mem_of_getElem? (i := 9) rfl)
theorem mx_X7_drop_11 : Cond.fieldLink RX5 16 "MillTalk$Rows" "lanes" "[I" ∈ wsX7_drop := mb_X7_drop_wsX7_drop_r1 (List.mem_of_getElem? (i := 10) rfl)
theorem mb_X7_drop_wsX50 {w : Cond} (h : w ∈ wsX50) : w ∈ wsX7_drop := by unfold wsX7_drop; exact List.mem_cons_of_mem _ (List.mem_append_right _ (h))
theorem ggX7_drop_X5_isMissing : GoodIn wsX7_drop wsX5_isMissing := goodIn_sub (by unfold wsX5_isMissing; exact List.forall_mem_cons.mpr ⟨mx_X7_drop_10, List.forall_mem_append.mpr ⟨List.forall_mem_cons.mpr ⟨mx_X7_drop_11, fun _ h_ => absurd h_ List.not_mem_nil⟩, (fun _ h_ => mb_X7_drop_wsX50 h_)⟩⟩) (by decide +kernel)
theorem mx_X7_drop_7 : Cond.methodLink RX7 99 yX5_isMissing ∈ wsX7_drop := mb_X7_drop_wsX7_drop_r1 (List.mem_of_getElem? (i := 6) rfl)
theorem mx_X7_drop_8 : Cond.instanceMethod yX5_isMissing ∈ wsX7_drop := mb_X7_drop_wsX7_drop_r1 (List.mem_of_getElem? (i := 7) rfl)
theorem mx_X7_drop_9 : Cond.selects RX5 yX5_isMissing yX5_isMissing ∈ wsX7_drop := mb_X7_drop_wsX7_drop_r1 (List.mem_of_getElem? (i := 8) rfl)
theorem mx_X7_drop_5 : Cond.initialized RX5 ∈ wsX7_drop := mb_X7_drop_wsX7_drop_r1 (List.mem_of_getElem? (i := 4) rfl)
theorem gX7_drop_X5_isMissing : GoodIn wsX7_drop (wsV RX7 99 RX5 yX5_isMissing wsX5_isMissing) := goodIn_app (goodIn_sub (List.forall_mem_cons.mpr ⟨mx_X7_drop_7, List.forall_mem_cons.mpr ⟨mx_X7_drop_8, List.forall_mem_cons.mpr ⟨mx_X7_drop_9, List.forall_mem_cons.mpr ⟨mx_X7_drop_5, fun _ h_ => absurd h_ List.not_mem_nil⟩⟩⟩⟩) (by decide +kernel)) ggX7_drop_X5_isMissing
theorem mx_X7_drop_6 : Cond.code yX5_isRow cX5_isRow 1 (some .boolean) ∈ wsX7_drop := mb_X7_drop_wsX7_drop_r1 (List.mem_of_getElem? (i := 5) rfl)
theorem ggX7_drop_X5_isRow : GoodIn wsX7_drop wsX5_isRow := goodIn_sub (by unfold wsX5_isRow; exact List.forall_mem_cons.mpr ⟨mx_X7_drop_6, fun _ h_ => absurd h_ List.not_mem_nil⟩) (by decide +kernel)
set_option maxRecDepth 20000 in
theorem gX7_drop_X5_isRow : GoodIn wsX7_drop (va_wsS RX7 65 yX5_isRow wsX5_isRow) := goodIn_app (goodIn_of _ (by decide +kernel)) ggX7_drop_X5_isRow
theorem mx_X7_drop_22 : Cond.code yX5_remove cX5_remove 2 (some .int) ∈ wsX7_drop := mb_X7_drop_wsX7_drop_r1 (List.mem_of_getElem? (i := 21) rfl)
theorem mx_X7_drop_23 : Cond.fieldLink RX5 20 "MillTalk$Rows" "lengths" "[I" ∈ wsX7_drop := mb_X7_drop_wsX7_drop_r1 (List.mem_of_getElem? (i := 22) rfl)
theorem ggX7_drop_X5_remove : GoodIn wsX7_drop wsX5_remove := goodIn_sub (by unfold wsX5_remove; exact List.forall_mem_cons.mpr ⟨mx_X7_drop_22, List.forall_mem_append.mpr ⟨List.forall_mem_cons.mpr ⟨mx_X7_drop_11, List.forall_mem_cons.mpr ⟨mx_X7_drop_23, fun _ h_ => absurd h_ List.not_mem_nil⟩⟩, (fun _ h_ => mb_X7_drop_wsX50 h_)⟩⟩) (by decide +kernel)
theorem mx_X7_drop_19 : Cond.methodLink RX7 102 yX5_remove ∈ wsX7_drop := mb_X7_drop_wsX7_drop_r1 (List.mem_of_getElem? (i := 18) rfl)
theorem mx_X7_drop_20 : Cond.instanceMethod yX5_remove ∈ wsX7_drop := mb_X7_drop_wsX7_drop_r1 (List.mem_of_getElem? (i := 19) rfl)
theorem mx_X7_drop_21 : Cond.selects RX5 yX5_remove yX5_remove ∈ wsX7_drop := mb_X7_drop_wsX7_drop_r1 (List.mem_of_getElem? (i := 20) rfl)
theorem gX7_drop_X5_remove : GoodIn wsX7_drop (wsV RX7 102 RX5 yX5_remove wsX5_remove) := goodIn_app (goodIn_sub (List.forall_mem_cons.mpr ⟨mx_X7_drop_19, List.forall_mem_cons.mpr ⟨mx_X7_drop_20, List.forall_mem_cons.mpr ⟨mx_X7_drop_21, List.forall_mem_cons.mpr ⟨mx_X7_drop_5, fun _ h_ => absurd h_ List.not_mem_nil⟩⟩⟩⟩) (by decide +kernel)) ggX7_drop_X5_remove
theorem mx_X7_drop_16 : Cond.code yX7_found cX7_found 2 (some .int) ∈ wsX7_drop := mb_X7_drop_wsX7_drop_r1 (List.mem_of_getElem? (i := 15) rfl)
theorem mx_X7_drop_17 : Cond.fieldLink RX7 323 "MillTalk" "latestFinding" "I" ∈ wsX7_drop := mb_X7_drop_wsX7_drop_r1 (List.mem_of_getElem? (i := 16) rfl)
theorem mx_X7_drop_18 : Cond.constant RX7 326 (-1000010) ∈ wsX7_drop := mb_X7_drop_wsX7_drop_r1 (List.mem_of_getElem? (i := 17) rfl)
theorem mb_X7_drop_wsX70 {w : Cond} (h : w ∈ wsX70) : w ∈ wsX7_drop := by unfold wsX7_drop; exact List.mem_cons_of_mem _ (List.mem_append_left _ (List.mem_append_right _ (h)))
theorem ggX7_drop_X7_found : GoodIn wsX7_drop wsX7_found := goodIn_sub (by unfold wsX7_found; exact List.forall_mem_cons.mpr ⟨mx_X7_drop_16, List.forall_mem_append.mpr ⟨List.forall_mem_cons.mpr ⟨mx_X7_drop_17, List.forall_mem_cons.mpr ⟨mx_X7_drop_18, fun _ h_ => absurd h_ List.not_mem_nil⟩⟩, (fun _ h_ => mb_X7_drop_wsX70 h_)⟩⟩) (by decide +kernel)
theorem mx_X7_drop_12 : Cond.methodLink RX7 73 yX7_found ∈ wsX7_drop := mb_X7_drop_wsX7_drop_r1 (List.mem_of_getElem? (i := 11) rfl)
theorem mx_X7_drop_13 : Cond.instanceMethod yX7_found ∈ wsX7_drop := mb_X7_drop_wsX7_drop_r1 (List.mem_of_getElem? (i := 12) rfl)
theorem mx_X7_drop_14 : Cond.selects RX7 yX7_found yX7_found ∈ wsX7_drop := mb_X7_drop_wsX7_drop_r1 (List.mem_of_getElem? (i := 13) rfl)
theorem mx_X7_drop_15 : Cond.initialized RX7 ∈ wsX7_drop := mb_X7_drop_wsX7_drop_r1 (List.mem_of_getElem? (i := 14) rfl)
theorem gX7_drop_X7_found : GoodIn wsX7_drop (wsV RX7 73 RX7 yX7_found wsX7_found) := goodIn_app (goodIn_sub (List.forall_mem_cons.mpr ⟨mx_X7_drop_12, List.forall_mem_cons.mpr ⟨mx_X7_drop_13, List.forall_mem_cons.mpr ⟨mx_X7_drop_14, List.forall_mem_cons.mpr ⟨mx_X7_drop_15, fun _ h_ => absurd h_ List.not_mem_nil⟩⟩⟩⟩) (by decide +kernel)) ggX7_drop_X7_found
theorem mb_X7_drop_wsX7_drop_r2 {w : Cond} (h : w ∈ wsX7_drop_r2) : w ∈ wsX7_drop := by unfold wsX7_drop; exact List.mem_cons_of_mem _ (List.mem_append_left _ (List.mem_append_left _ (List.mem_append_right _ (h))))
theorem mx_X7_drop_27 : Cond.code yX7_foundNothing cX7_foundNothing 2 (some .int) ∈ wsX7_drop := mb_X7_drop_wsX7_drop_r2 (List.mem_of_getElem? (i := 2) rfl)
theorem ggX7_drop_X7_foundNothing : GoodIn wsX7_drop wsX7_foundNothing := goodIn_sub (by unfold wsX7_foundNothing; exact List.forall_mem_cons.mpr ⟨mx_X7_drop_27, List.forall_mem_append.mpr ⟨List.forall_mem_cons.mpr ⟨mx_X7_drop_17, fun _ h_ => absurd h_ List.not_mem_nil⟩, (fun _ h_ => mb_X7_drop_wsX70 h_)⟩⟩) (by decide +kernel)
theorem mx_X7_drop_24 : Cond.methodLink RX7 81 yX7_foundNothing ∈ wsX7_drop := mb_X7_drop_wsX7_drop_r1 (List.mem_of_getElem? (i := 23) rfl)
theorem mx_X7_drop_25 : Cond.instanceMethod yX7_foundNothing ∈ wsX7_drop := mb_X7_drop_wsX7_drop_r2 (List.mem_of_getElem? (i := 0) rfl)
theorem mx_X7_drop_26 : Cond.selects RX7 yX7_foundNothing yX7_foundNothing ∈ wsX7_drop := mb_X7_drop_wsX7_drop_r2 (List.mem_of_getElem? (i := 1) rfl)
theorem gX7_drop_X7_foundNothing : GoodIn wsX7_drop (wsV RX7 81 RX7 yX7_foundNothing wsX7_foundNothing) := goodIn_app (goodIn_sub (List.forall_mem_cons.mpr ⟨mx_X7_drop_24, List.forall_mem_cons.mpr ⟨mx_X7_drop_25, List.forall_mem_cons.mpr ⟨mx_X7_drop_26, List.forall_mem_cons.mpr ⟨mx_X7_drop_15, fun _ h_ => absurd h_ List.not_mem_nil⟩⟩⟩⟩) (by decide +kernel)) ggX7_drop_X7_foundNothing
theorem mx_X7_feed_13 : Cond.code yX6_append cX6_append 2 (some .int) ∈ wsX7_feed := by unfold wsX7_feed; exact List.mem_cons_of_mem _ (List.mem_append_left _ (List.mem_append_left _ (List.mem_of_getElem? (i := 12) rfl)))
theorem mx_X7_feed_14 : Cond.fieldLink RX6 11 "MillTalk$Tape" "bytes" "[I" ∈ wsX7_feed := by unfold wsX7_feed; exact List.mem_cons_of_mem _ (List.mem_append_left _ (List.mem_append_left _ (List.mem_of_getElem? (i := 13) rfl)))
theorem mx_X7_feed_9 : Cond.fieldLink RX6 22 "MillTalk$Tape" "size" "I" ∈ wsX7_feed := by unfold wsX7_feed; exact List.mem_cons_of_mem _ (List.mem_append_left _ (List.mem_append_left _ (List.mem_of_getElem? (i := 8) rfl)))
theorem mx_X7_feed_15 : Cond.methodLink RX6 26 yX6_isFull ∈ wsX7_feed := by unfold wsX7_feed; exact List.mem_cons_of_mem _ (List.mem_append_left _ (List.mem_append_left _ (List.mem_of_getElem? (i := 14) rfl)))
theorem mx_X7_feed_5 : Cond.instanceMethod yX6_isFull ∈ wsX7_feed := by unfold wsX7_feed; exact List.mem_cons_of_mem _ (List.mem_append_left _ (List.mem_append_left _ (List.mem_of_getElem? (i := 4) rfl)))
theorem mx_X7_feed_6 : Cond.selects RX6 yX6_isFull yX6_isFull ∈ wsX7_feed := by unfold wsX7_feed; exact List.mem_cons_of_mem _ (List.mem_append_left _ (List.mem_append_left _ (List.mem_of_getElem? (i := 5) rfl)))
theorem mx_X7_feed_7 : Cond.initialized RX6 ∈ wsX7_feed := by unfold wsX7_feed; exact List.mem_cons_of_mem _ (List.mem_append_left _ (List.mem_append_left _ (List.mem_of_getElem? (i := 6) rfl)))
theorem mx_X7_feed_8 : Cond.code yX6_isFull cX6_isFull 1 (some .boolean) ∈ wsX7_feed := by unfold wsX7_feed; exact List.mem_cons_of_mem _ (List.mem_append_left _ (List.mem_append_left _ (List.mem_of_getElem? (i := 7) rfl)))
theorem mb_X7_feed_wsX60 {w : Cond} (h : w ∈ wsX60) : w ∈ wsX7_feed := by unfold wsX7_feed; exact List.mem_cons_of_mem _ (List.mem_append_right _ (h))
theorem ggX7_feed_X6_append : GoodIn wsX7_feed wsX6_append := goodIn_sub (by unfold wsX6_append; exact List.forall_mem_cons.mpr ⟨mx_X7_feed_13, List.forall_mem_append.mpr ⟨List.forall_mem_cons.mpr ⟨mx_X7_feed_14, List.forall_mem_cons.mpr ⟨mx_X7_feed_9, List.forall_mem_cons.mpr ⟨mx_X7_feed_15, List.forall_mem_cons.mpr ⟨mx_X7_feed_5, List.forall_mem_cons.mpr ⟨mx_X7_feed_6, List.forall_mem_cons.mpr ⟨mx_X7_feed_7, List.forall_mem_cons.mpr ⟨mx_X7_feed_8, fun _ h_ => absurd h_ List.not_mem_nil⟩⟩⟩⟩⟩⟩⟩, (fun _ h_ => mb_X7_feed_wsX60 h_)⟩⟩) (by decide +kernel)
theorem mx_X7_feed_10 : Cond.methodLink RX7 110 yX6_append ∈ wsX7_feed := by unfold wsX7_feed; exact List.mem_cons_of_mem _ (List.mem_append_left _ (List.mem_append_left _ (List.mem_of_getElem? (i := 9) rfl)))
theorem mx_X7_feed_11 : Cond.instanceMethod yX6_append ∈ wsX7_feed := by unfold wsX7_feed; exact List.mem_cons_of_mem _ (List.mem_append_left _ (List.mem_append_left _ (List.mem_of_getElem? (i := 10) rfl)))
theorem mx_X7_feed_12 : Cond.selects RX6 yX6_append yX6_append ∈ wsX7_feed := by unfold wsX7_feed; exact List.mem_cons_of_mem _ (List.mem_append_left _ (List.mem_append_left _ (List.mem_of_getElem? (i := 11) rfl)))
theorem gX7_feed_X6_append : GoodIn wsX7_feed (wsV RX7 110 RX6 yX6_append wsX6_append) := goodIn_app (goodIn_sub (List.forall_mem_cons.mpr ⟨mx_X7_feed_10, List.forall_mem_cons.mpr ⟨mx_X7_feed_11, List.forall_mem_cons.mpr ⟨mx_X7_feed_12, List.forall_mem_cons.mpr ⟨mx_X7_feed_7, fun _ h_ => absurd h_ List.not_mem_nil⟩⟩⟩⟩) (by decide +kernel)) ggX7_feed_X6_append
theorem ggX7_feed_X6_isFull : GoodIn wsX7_feed wsX6_isFull := goodIn_sub (by unfold wsX6_isFull; exact List.forall_mem_cons.mpr ⟨mx_X7_feed_8, List.forall_mem_append.mpr ⟨List.forall_mem_cons.mpr ⟨mx_X7_feed_9, fun _ h_ => absurd h_ List.not_mem_nil⟩, (fun _ h_ => mb_X7_feed_wsX60 h_)⟩⟩) (by decide +kernel)
theorem mx_X7_feed_4 : Cond.methodLink RX7 105 yX6_isFull ∈ wsX7_feed := by unfold wsX7_feed; exact List.mem_cons_of_mem _ (List.mem_append_left _ (List.mem_append_left _ (List.mem_of_getElem? (i := 3) rfl)))
theorem gX7_feed_X6_isFull : GoodIn wsX7_feed (wsV RX7 105 RX6 yX6_isFull wsX6_isFull) := goodIn_app (goodIn_sub (List.forall_mem_cons.mpr ⟨mx_X7_feed_4, List.forall_mem_cons.mpr ⟨mx_X7_feed_5, List.forall_mem_cons.mpr ⟨mx_X7_feed_6, List.forall_mem_cons.mpr ⟨mx_X7_feed_7, fun _ h_ => absurd h_ List.not_mem_nil⟩⟩⟩⟩) (by decide +kernel)) ggX7_feed_X6_isFull
theorem mb_X7_had_wsX7_had_r1 {w : Cond} (h : w ∈ wsX7_had_r1) : w ∈ wsX7_had := by unfold wsX7_had; exact List.mem_cons_of_mem _ (List.mem_append_left _ (List.mem_append_left _ (List.mem_append_left _ (List.mem_append_left _ (h)))))
theorem mx_X7_had_18 : Cond.code yX2_isLength cX2_isLength 1 (some .boolean) ∈ wsX7_had := mb_X7_had_wsX7_had_r1 (List.mem_of_getElem? (i := 17) rfl)
theorem ggX7_had_X2_isLength : GoodIn wsX7_had wsX2_isLength := goodIn_sub (by unfold wsX2_isLength; exact List.forall_mem_cons.mpr ⟨mx_X7_had_18, fun _ h_ => absurd h_ List.not_mem_nil⟩) (by decide +kernel)
set_option maxRecDepth 20000 in
theorem gX7_had_X2_isLength : GoodIn wsX7_had (va_wsS RX7 221 yX2_isLength wsX2_isLength) := goodIn_app (goodIn_of _ (by decide +kernel)) ggX7_had_X2_isLength
theorem mx_X7_had_22 : Cond.code yX2_search cX2_search 4 none ∈ wsX7_had := mb_X7_had_wsX7_had_r1 (List.mem_of_getElem? (i := 21) rfl)
theorem mx_X7_had_23 : Cond.fieldLink RX2 18 "MillTalk$CapSearch" "hours" "I" ∈ wsX7_had := mb_X7_had_wsX7_had_r1 (List.mem_of_getElem? (i := 22) rfl)
theorem mx_X7_had_24 : Cond.fieldLink RX2 22 "MillTalk$CapSearch" "wanted" "I" ∈ wsX7_had := mb_X7_had_wsX7_had_r1 (List.mem_of_getElem? (i := 23) rfl)
theorem mb_X7_had_wsX7_had_r2 {w : Cond} (h : w ∈ wsX7_had_r2) : w ∈ wsX7_had := by unfold wsX7_had; exact List.mem_cons_of_mem _ (List.mem_append_left _ (List.mem_append_left _ (List.mem_append_left _ (List.mem_append_right _ (List.mem_append_left _ (h))))))
theorem mx_X7_had_25 : Cond.fieldLink RX2 25 "MillTalk$CapSearch" "bestRow" "I" ∈ wsX7_had := mb_X7_had_wsX7_had_r2 (List.mem_of_getElem? (i := 0) rfl)
theorem mx_X7_had_26 : Cond.fieldLink RX2 28 "MillTalk$CapSearch" "bestWorth" "I" ∈ wsX7_had := mb_X7_had_wsX7_had_r2 (List.mem_of_getElem? (i := 1) rfl)
theorem mx_X7_had_27 : Cond.fieldLink RX2 31 "MillTalk$CapSearch" "bestTurns" "I" ∈ wsX7_had := mb_X7_had_wsX7_had_r2 (List.mem_of_getElem? (i := 2) rfl)
theorem mx_X7_had_28 : Cond.fieldLink RX2 13 "MillTalk$CapSearch" "behind" "[LMillTalk$Level;" ∈ wsX7_had := mb_X7_had_wsX7_had_r2 (List.mem_of_getElem? (i := 3) rfl)
theorem mx_X7_had_29 : Cond.methodLink RX2 34 yX3_becomeLike ∈ wsX7_had := mb_X7_had_wsX7_had_r2 (List.mem_of_getElem? (i := 4) rfl)
theorem mx_X7_had_30 : Cond.instanceMethod yX3_becomeLike ∈ wsX7_had := mb_X7_had_wsX7_had_r2 (List.mem_of_getElem? (i := 5) rfl)
theorem mx_X7_had_31 : Cond.selects RX3 yX3_becomeLike yX3_becomeLike ∈ wsX7_had := mb_X7_had_wsX7_had_r2 (List.mem_of_getElem? (i := 6) rfl)
theorem mx_X7_had_12 : Cond.initialized RX3 ∈ wsX7_had := mb_X7_had_wsX7_had_r1 (List.mem_of_getElem? (i := 11) rfl)
theorem mx_X7_had_32 : Cond.code yX3_becomeLike cX3_becomeLike 2 none ∈ wsX7_had := mb_X7_had_wsX7_had_r2 (List.mem_of_getElem? (i := 7) rfl)
theorem mx_X7_had_14 : Cond.fieldLink RX3 27 "MillTalk$Level" "cells" "I" ∈ wsX7_had := mb_X7_had_wsX7_had_r1 (List.mem_of_getElem? (i := 13) rfl)
theorem mx_X7_had_33 : Cond.fieldLink RX3 31 "MillTalk$Level" "mill" "I" ∈ wsX7_had := mb_X7_had_wsX7_had_r2 (List.mem_of_getElem? (i := 8) rfl)
theorem mx_X7_had_34 : Cond.fieldLink RX3 34 "MillTalk$Level" "reach" "I" ∈ wsX7_had := mb_X7_had_wsX7_had_r2 (List.mem_of_getElem? (i := 9) rfl)
theorem mx_X7_had_35 : Cond.fieldLink RX3 37 "MillTalk$Level" "cap" "I" ∈ wsX7_had := mb_X7_had_wsX7_had_r2 (List.mem_of_getElem? (i := 10) rfl)
theorem mx_X7_had_36 : Cond.fieldLink RX3 40 "MillTalk$Level" "hour" "I" ∈ wsX7_had := mb_X7_had_wsX7_had_r2 (List.mem_of_getElem? (i := 11) rfl)
theorem mx_X7_had_37 : Cond.fieldLink RX3 43 "MillTalk$Level" "meal" "I" ∈ wsX7_had := mb_X7_had_wsX7_had_r2 (List.mem_of_getElem? (i := 12) rfl)
theorem mx_X7_had_38 : Cond.fieldLink RX3 46 "MillTalk$Level" "windCount" "I" ∈ wsX7_had := mb_X7_had_wsX7_had_r2 (List.mem_of_getElem? (i := 13) rfl)
theorem mx_X7_had_39 : Cond.fieldLink RX3 49 "MillTalk$Level" "soundCount" "I" ∈ wsX7_had := mb_X7_had_wsX7_had_r2 (List.mem_of_getElem? (i := 14) rfl)
theorem mx_X7_had_40 : Cond.fieldLink RX3 9 "MillTalk$Level" "winds" "[I" ∈ wsX7_had := mb_X7_had_wsX7_had_r2 (List.mem_of_getElem? (i := 15) rfl)
theorem mx_X7_had_41 : Cond.methodLink RX3 52 arraycopyName ∈ wsX7_had := mb_X7_had_wsX7_had_r2 (List.mem_of_getElem? (i := 16) rfl)
theorem mx_X7_had_42 : Cond.native arraycopyName ∈ wsX7_had := mb_X7_had_wsX7_had_r2 (List.mem_of_getElem? (i := 17) rfl)
theorem mx_X7_had_43 : Cond.static arraycopyName ∈ wsX7_had := mb_X7_had_wsX7_had_r2 (List.mem_of_getElem? (i := 18) rfl)
theorem mx_X7_had_44 : Cond.initialized "java/lang/System" ∈ wsX7_had := mb_X7_had_wsX7_had_r2 (List.mem_of_getElem? (i := 19) rfl)
theorem mx_X7_had_45 : Cond.fieldLink RX3 15 "MillTalk$Level" "kinds" "[I" ∈ wsX7_had := mb_X7_had_wsX7_had_r2 (List.mem_of_getElem? (i := 20) rfl)
theorem mx_X7_had_46 : Cond.fieldLink RX3 18 "MillTalk$Level" "places" "[I" ∈ wsX7_had := mb_X7_had_wsX7_had_r2 (List.mem_of_getElem? (i := 21) rfl)
theorem mx_X7_had_47 : Cond.fieldLink RX3 21 "MillTalk$Level" "louds" "[I" ∈ wsX7_had := mb_X7_had_wsX7_had_r2 (List.mem_of_getElem? (i := 22) rfl)
theorem mx_X7_had_48 : Cond.fieldLink RX3 24 "MillTalk$Level" "hows" "[I" ∈ wsX7_had := mb_X7_had_wsX7_had_r2 (List.mem_of_getElem? (i := 23) rfl)
theorem mb_X7_had_wsX7_had_r3 {w : Cond} (h : w ∈ wsX7_had_r3) : w ∈ wsX7_had := by unfold wsX7_had; exact List.mem_cons_of_mem _ (List.mem_append_left _ (List.mem_append_left _ (List.mem_append_left _ (List.mem_append_right _ (List.mem_append_right _ (List.mem_append_left _ (h)))))))
theorem mx_X7_had_49 : Cond.methodLink RX2 38 yX2_tryRows ∈ wsX7_had := mb_X7_had_wsX7_had_r3 (List.mem_of_getElem? (i := 0) rfl)
theorem mx_X7_had_50 : Cond.instanceMethod yX2_tryRows ∈ wsX7_had := mb_X7_had_wsX7_had_r3 (List.mem_of_getElem? (i := 1) rfl)
theorem mx_X7_had_51 : Cond.selects RX2 yX2_tryRows yX2_tryRows ∈ wsX7_had := mb_X7_had_wsX7_had_r3 (List.mem_of_getElem? (i := 2) rfl)
theorem mx_X7_had_17 : Cond.initialized RX2 ∈ wsX7_had := mb_X7_had_wsX7_had_r1 (List.mem_of_getElem? (i := 16) rfl)
theorem mx_X7_had_52 : Cond.code yX2_tryRows cX2_tryRows 7 none ∈ wsX7_had := mb_X7_had_wsX7_had_r3 (List.mem_of_getElem? (i := 3) rfl)
theorem mx_X7_had_53 : Cond.fieldLink RX2 46 "MillTalk$Level" "cap" "I" ∈ wsX7_had := mb_X7_had_wsX7_had_r3 (List.mem_of_getElem? (i := 4) rfl)
theorem mx_X7_had_54 : Cond.methodLink RX2 42 yX2_judge ∈ wsX7_had := mb_X7_had_wsX7_had_r3 (List.mem_of_getElem? (i := 5) rfl)
theorem mx_X7_had_55 : Cond.instanceMethod yX2_judge ∈ wsX7_had := mb_X7_had_wsX7_had_r3 (List.mem_of_getElem? (i := 6) rfl)
theorem mx_X7_had_56 : Cond.selects RX2 yX2_judge yX2_judge ∈ wsX7_had := mb_X7_had_wsX7_had_r3 (List.mem_of_getElem? (i := 7) rfl)
theorem mx_X7_had_57 : Cond.code yX2_judge cX2_judge 5 none ∈ wsX7_had := mb_X7_had_wsX7_had_r3 (List.mem_of_getElem? (i := 8) rfl)
theorem mx_X7_had_58 : Cond.methodLink RX2 52 yX2_worthOf ∈ wsX7_had := mb_X7_had_wsX7_had_r3 (List.mem_of_getElem? (i := 9) rfl)
theorem mx_X7_had_59 : Cond.instanceMethod yX2_worthOf ∈ wsX7_had := mb_X7_had_wsX7_had_r3 (List.mem_of_getElem? (i := 10) rfl)
theorem mx_X7_had_60 : Cond.selects RX2 yX2_worthOf yX2_worthOf ∈ wsX7_had := mb_X7_had_wsX7_had_r3 (List.mem_of_getElem? (i := 11) rfl)
theorem mx_X7_had_61 : Cond.code yX2_worthOf cX2_worthOf 2 (some .int) ∈ wsX7_had := mb_X7_had_wsX7_had_r3 (List.mem_of_getElem? (i := 12) rfl)
theorem mx_X7_had_62 : Cond.fieldLink RX2 56 "MillTalk$Level" "meal" "I" ∈ wsX7_had := mb_X7_had_wsX7_had_r3 (List.mem_of_getElem? (i := 13) rfl)
theorem mx_X7_had_63 : Cond.methodLink RX2 59 yX3_soundsThatAre ∈ wsX7_had := mb_X7_had_wsX7_had_r3 (List.mem_of_getElem? (i := 14) rfl)
theorem mx_X7_had_64 : Cond.instanceMethod yX3_soundsThatAre ∈ wsX7_had := mb_X7_had_wsX7_had_r3 (List.mem_of_getElem? (i := 15) rfl)
theorem mx_X7_had_65 : Cond.selects RX3 yX3_soundsThatAre yX3_soundsThatAre ∈ wsX7_had := mb_X7_had_wsX7_had_r3 (List.mem_of_getElem? (i := 16) rfl)
theorem mx_X7_had_66 : Cond.code yX3_soundsThatAre cX3_soundsThatAre 4 (some .int) ∈ wsX7_had := mb_X7_had_wsX7_had_r3 (List.mem_of_getElem? (i := 17) rfl)
theorem mx_X7_had_67 : Cond.methodLink RX2 49 yX3_pass ∈ wsX7_had := mb_X7_had_wsX7_had_r3 (List.mem_of_getElem? (i := 18) rfl)
theorem mx_X7_had_68 : Cond.instanceMethod yX3_pass ∈ wsX7_had := mb_X7_had_wsX7_had_r3 (List.mem_of_getElem? (i := 19) rfl)
theorem mx_X7_had_69 : Cond.selects RX3 yX3_pass yX3_pass ∈ wsX7_had := mb_X7_had_wsX7_had_r3 (List.mem_of_getElem? (i := 20) rfl)
theorem mx_X7_had_70 : Cond.code yX3_pass cX3_pass 3 none ∈ wsX7_had := mb_X7_had_wsX7_had_r3 (List.mem_of_getElem? (i := 21) rfl)
theorem mx_X7_had_71 : Cond.methodLink RX3 87 yX3_windOn ∈ wsX7_had := mb_X7_had_wsX7_had_r3 (List.mem_of_getElem? (i := 22) rfl)
theorem mx_X7_had_72 : Cond.instanceMethod yX3_windOn ∈ wsX7_had := mb_X7_had_wsX7_had_r3 (List.mem_of_getElem? (i := 23) rfl)
theorem mb_X7_had_wsX7_had_r4 {w : Cond} (h : w ∈ wsX7_had_r4) : w ∈ wsX7_had := by unfold wsX7_had; exact List.mem_cons_of_mem _ (List.mem_append_left _ (List.mem_append_left _ (List.mem_append_left _ (List.mem_append_right _ (List.mem_append_right _ (List.mem_append_right _ (List.mem_append_left _ (h))))))))
theorem mx_X7_had_73 : Cond.selects RX3 yX3_windOn yX3_windOn ∈ wsX7_had := mb_X7_had_wsX7_had_r4 (List.mem_of_getElem? (i := 0) rfl)
theorem mx_X7_had_74 : Cond.code yX3_windOn cX3_windOn 2 (some .int) ∈ wsX7_had := mb_X7_had_wsX7_had_r4 (List.mem_of_getElem? (i := 1) rfl)
theorem mx_X7_had_75 : Cond.methodLink RX3 90 yX3_passSound ∈ wsX7_had := mb_X7_had_wsX7_had_r4 (List.mem_of_getElem? (i := 2) rfl)
theorem mx_X7_had_76 : Cond.instanceMethod yX3_passSound ∈ wsX7_had := mb_X7_had_wsX7_had_r4 (List.mem_of_getElem? (i := 3) rfl)
theorem mx_X7_had_77 : Cond.selects RX3 yX3_passSound yX3_passSound ∈ wsX7_had := mb_X7_had_wsX7_had_r4 (List.mem_of_getElem? (i := 4) rfl)
theorem mx_X7_had_78 : Cond.code yX3_passSound cX3_passSound 5 none ∈ wsX7_had := mb_X7_had_wsX7_had_r4 (List.mem_of_getElem? (i := 5) rfl)
theorem mx_X7_had_79 : Cond.methodLink RX3 63 Lib.Math.min.name ∈ wsX7_had := mb_X7_had_wsX7_had_r4 (List.mem_of_getElem? (i := 6) rfl)
theorem mx_X7_had_80 : Cond.static Lib.Math.min.name ∈ wsX7_had := mb_X7_had_wsX7_had_r4 (List.mem_of_getElem? (i := 7) rfl)
theorem mx_X7_had_81 : Cond.initialized "java/lang/Math" ∈ wsX7_had := mb_X7_had_wsX7_had_r4 (List.mem_of_getElem? (i := 8) rfl)
theorem mx_X7_had_82 : Cond.code Lib.Math.min.name Lib.Math.min.code 2 (some .int) ∈ wsX7_had := mb_X7_had_wsX7_had_r4 (List.mem_of_getElem? (i := 9) rfl)
theorem mx_X7_had_83 : Cond.methodLink RX3 58 yX3_isLoose ∈ wsX7_had := mb_X7_had_wsX7_had_r4 (List.mem_of_getElem? (i := 10) rfl)
theorem mx_X7_had_84 : Cond.instanceMethod yX3_isLoose ∈ wsX7_had := mb_X7_had_wsX7_had_r4 (List.mem_of_getElem? (i := 11) rfl)
theorem mx_X7_had_85 : Cond.selects RX3 yX3_isLoose yX3_isLoose ∈ wsX7_had := mb_X7_had_wsX7_had_r4 (List.mem_of_getElem? (i := 12) rfl)
theorem mx_X7_had_86 : Cond.code yX3_isLoose cX3_isLoose 2 (some .boolean) ∈ wsX7_had := mb_X7_had_wsX7_had_r4 (List.mem_of_getElem? (i := 13) rfl)
theorem mx_X7_had_87 : Cond.methodLink RX3 69 yX3_driftOf ∈ wsX7_had := mb_X7_had_wsX7_had_r4 (List.mem_of_getElem? (i := 14) rfl)
theorem mx_X7_had_88 : Cond.instanceMethod yX3_driftOf ∈ wsX7_had := mb_X7_had_wsX7_had_r4 (List.mem_of_getElem? (i := 15) rfl)
theorem mx_X7_had_89 : Cond.selects RX3 yX3_driftOf yX3_driftOf ∈ wsX7_had := mb_X7_had_wsX7_had_r4 (List.mem_of_getElem? (i := 16) rfl)
theorem mx_X7_had_90 : Cond.code yX3_driftOf cX3_driftOf 4 (some .int) ∈ wsX7_had := mb_X7_had_wsX7_had_r4 (List.mem_of_getElem? (i := 17) rfl)
theorem mx_X7_had_91 : Cond.methodLink RX3 72 yX3_loudBehindHour ∈ wsX7_had := mb_X7_had_wsX7_had_r4 (List.mem_of_getElem? (i := 18) rfl)
theorem mx_X7_had_92 : Cond.instanceMethod yX3_loudBehindHour ∈ wsX7_had := mb_X7_had_wsX7_had_r4 (List.mem_of_getElem? (i := 19) rfl)
theorem mx_X7_had_93 : Cond.selects RX3 yX3_loudBehindHour yX3_loudBehindHour ∈ wsX7_had := mb_X7_had_wsX7_had_r4 (List.mem_of_getElem? (i := 20) rfl)
theorem mx_X7_had_94 : Cond.code yX3_loudBehindHour cX3_loudBehindHour 2 (some .int) ∈ wsX7_had := mb_X7_had_wsX7_had_r4 (List.mem_of_getElem? (i := 21) rfl)
theorem mx_X7_had_95 : Cond.methodLink RX3 76 yX3_hasCell ∈ wsX7_had := mb_X7_had_wsX7_had_r4 (List.mem_of_getElem? (i := 22) rfl)
theorem mx_X7_had_96 : Cond.instanceMethod yX3_hasCell ∈ wsX7_had := mb_X7_had_wsX7_had_r4 (List.mem_of_getElem? (i := 23) rfl)
theorem mb_X7_had_wsX7_had_r5 {w : Cond} (h : w ∈ wsX7_had_r5) : w ∈ wsX7_had := by unfold wsX7_had; exact List.mem_cons_of_mem _ (List.mem_append_left _ (List.mem_append_left _ (List.mem_append_left _ (List.mem_append_right _ (List.mem_append_right _ (List.mem_append_right _ (List.mem_append_right _ (h))))))))
theorem mx_X7_had_97 : Cond.selects RX3 yX3_hasCell yX3_hasCell ∈ wsX7_had := mb_X7_had_wsX7_had_r5 (List.mem_of_getElem? (i := 0) rfl)
theorem mx_X7_had_98 : Cond.code yX3_hasCell cX3_hasCell 2 (some .boolean) ∈ wsX7_had := mb_X7_had_wsX7_had_r5 (List.mem_of_getElem? (i := 1) rfl)
theorem mx_X7_had_99 : Cond.methodLink RX3 79 yX3_letLoose ∈ wsX7_had := mb_X7_had_wsX7_had_r5 (List.mem_of_getElem? (i := 2) rfl)
theorem mx_X7_had_100 : Cond.instanceMethod yX3_letLoose ∈ wsX7_had := mb_X7_had_wsX7_had_r5 (List.mem_of_getElem? (i := 3) rfl)
theorem mx_X7_had_101 : Cond.selects RX3 yX3_letLoose yX3_letLoose ∈ wsX7_had := mb_X7_had_wsX7_had_r5 (List.mem_of_getElem? (i := 4) rfl)
theorem mx_X7_had_102 : Cond.code yX3_letLoose cX3_letLoose 4 none ∈ wsX7_had := mb_X7_had_wsX7_had_r5 (List.mem_of_getElem? (i := 5) rfl)
theorem mx_X7_had_103 : Cond.methodLink RX3 83 yX3_grindsAt ∈ wsX7_had := mb_X7_had_wsX7_had_r5 (List.mem_of_getElem? (i := 6) rfl)
theorem mx_X7_had_104 : Cond.instanceMethod yX3_grindsAt ∈ wsX7_had := mb_X7_had_wsX7_had_r5 (List.mem_of_getElem? (i := 7) rfl)
theorem mx_X7_had_105 : Cond.selects RX3 yX3_grindsAt yX3_grindsAt ∈ wsX7_had := mb_X7_had_wsX7_had_r5 (List.mem_of_getElem? (i := 8) rfl)
theorem mx_X7_had_106 : Cond.code yX3_grindsAt cX3_grindsAt 4 (some .boolean) ∈ wsX7_had := mb_X7_had_wsX7_had_r5 (List.mem_of_getElem? (i := 9) rfl)
theorem mb_X7_had_wsX20 {w : Cond} (h : w ∈ wsX20) : w ∈ wsX7_had := by unfold wsX7_had; exact List.mem_cons_of_mem _ (List.mem_append_right _ (h))
theorem mb_X7_had_wsX30 {w : Cond} (h : w ∈ wsX30) : w ∈ wsX7_had := by unfold wsX7_had; exact List.mem_cons_of_mem _ (List.mem_append_left _ (List.mem_append_right _ (h)))
theorem ggX7_had_X2_search : GoodIn wsX7_had wsX2_search := goodIn_sub (by unfold wsX2_search; exact List.forall_mem_cons.mpr ⟨mx_X7_had_22, List.forall_mem_append.mpr ⟨List.forall_mem_append.mpr ⟨List.forall_mem_append.mpr ⟨(by unfold wsX2_search_r1; exact List.forall_mem_cons.mpr ⟨mx_X7_had_23, List.forall_mem_cons.mpr ⟨mx_X7_had_24, List.forall_mem_cons.mpr ⟨mx_X7_had_25, List.forall_mem_cons.mpr ⟨mx_X7_had_26, List.forall_mem_cons.mpr ⟨mx_X7_had_27, List.forall_mem_cons.mpr ⟨mx_X7_had_28, List.forall_mem_cons.mpr ⟨mx_X7_had_29, List.forall_mem_cons.mpr ⟨mx_X7_had_30, List.forall_mem_cons.mpr ⟨mx_X7_had_31, List.forall_mem_cons.mpr ⟨mx_X7_had_12, List.forall_mem_cons.mpr ⟨mx_X7_had_32, List.forall_mem_cons.mpr ⟨mx_X7_had_14, List.forall_mem_cons.mpr ⟨mx_X7_had_33, List.forall_mem_cons.mpr ⟨mx_X7_had_34, List.forall_mem_cons.mpr ⟨mx_X7_had_35, List.forall_mem_cons.mpr ⟨mx_X7_had_36, List.forall_mem_cons.mpr ⟨mx_X7_had_37, List.forall_mem_cons.mpr ⟨mx_X7_had_38, List.forall_mem_cons.mpr ⟨mx_X7_had_39, List.forall_mem_cons.mpr ⟨mx_X7_had_40, List.forall_mem_cons.mpr ⟨mx_X7_had_41, List.forall_mem_cons.mpr ⟨mx_X7_had_42, List.forall_mem_cons.mpr ⟨mx_X7_had_43, List.forall_mem_cons.mpr ⟨mx_X7_had_44, fun _ h_ => absurd h_ List.not_mem_nil⟩⟩⟩⟩⟩⟩⟩⟩⟩⟩⟩⟩⟩⟩⟩⟩⟩⟩⟩⟩⟩⟩⟩⟩), List.forall_mem_append.mpr ⟨(by unfold wsX2_search_r2; exact List.forall_mem_cons.mpr ⟨mx_X7_had_45, List.forall_mem_cons.mpr ⟨mx_X7_had_46, List.forall_mem_cons.mpr ⟨mx_X7_had_47, List.forall_mem_cons.mpr ⟨mx_X7_had_48, List.forall_mem_cons.mpr ⟨mx_X7_had_49, List.forall_mem_cons.mpr ⟨mx_X7_had_50, List.forall_mem_cons.mpr ⟨mx_X7_had_51, List.forall_mem_cons.mpr ⟨mx_X7_had_17, List.forall_mem_cons.mpr ⟨mx_X7_had_52, List.forall_mem_cons.mpr ⟨mx_X7_had_53, List.forall_mem_cons.mpr ⟨mx_X7_had_54, List.forall_mem_cons.mpr ⟨mx_X7_had_55, List.forall_mem_cons.mpr ⟨mx_X7_had_56, List.forall_mem_cons.mpr ⟨mx_X7_had_57, List.forall_mem_cons.mpr ⟨mx_X7_had_58, List.forall_mem_cons.mpr ⟨mx_X7_had_59, List.forall_mem_cons.mpr ⟨mx_X7_had_60, List.forall_mem_cons.mpr ⟨mx_X7_had_61, List.forall_mem_cons.mpr ⟨mx_X7_had_62, List.forall_mem_cons.mpr ⟨mx_X7_had_63, List.forall_mem_cons.mpr ⟨mx_X7_had_64, List.forall_mem_cons.mpr ⟨mx_X7_had_65, List.forall_mem_cons.mpr ⟨mx_X7_had_66, List.forall_mem_cons.mpr ⟨mx_X7_had_67, fun _ h_ => absurd h_ List.not_mem_nil⟩⟩⟩⟩⟩⟩⟩⟩⟩⟩⟩⟩⟩⟩⟩⟩⟩⟩⟩⟩⟩⟩⟩⟩), List.forall_mem_append.mpr ⟨(by unfold wsX2_search_r3; exact List.forall_mem_cons.mpr ⟨mx_X7_had_68, List.forall_mem_cons.mpr ⟨mx_X7_had_69, List.forall_mem_cons.mpr ⟨mx_X7_had_70, List.forall_mem_cons.mpr ⟨mx_X7_had_71, List.forall_mem_cons.mpr ⟨mx_X7_had_72, List.forall_mem_cons.mpr ⟨mx_X7_had_73, List.forall_mem_cons.mpr ⟨mx_X7_had_74, List.forall_mem_cons.mpr ⟨mx_X7_had_75, List.forall_mem_cons.mpr ⟨mx_X7_had_76, List.forall_mem_cons.mpr ⟨mx_X7_had_77, List.forall_mem_cons.mpr ⟨mx_X7_had_78, List.forall_mem_cons.mpr ⟨mx_X7_had_79, List.forall_mem_cons.mpr ⟨mx_X7_had_80, List.forall_mem_cons.mpr ⟨mx_X7_had_81, List.forall_mem_cons.mpr ⟨mx_X7_had_82, List.forall_mem_cons.mpr ⟨mx_X7_had_83, List.forall_mem_cons.mpr ⟨mx_X7_had_84, List.forall_mem_cons.mpr ⟨mx_X7_had_85, List.forall_mem_cons.mpr ⟨mx_X7_had_86, List.forall_mem_cons.mpr ⟨mx_X7_had_87, List.forall_mem_cons.mpr ⟨mx_X7_had_88, List.forall_mem_cons.mpr ⟨mx_X7_had_89, List.forall_mem_cons.mpr ⟨mx_X7_had_90, List.forall_mem_cons.mpr ⟨mx_X7_had_91, fun _ h_ => absurd h_ List.not_mem_nil⟩⟩⟩⟩⟩⟩⟩⟩⟩⟩⟩⟩⟩⟩⟩⟩⟩⟩⟩⟩⟩⟩⟩⟩), (by unfold wsX2_search_r4; exact List.forall_mem_cons.mpr ⟨mx_X7_had_92, List.forall_mem_cons.mpr ⟨mx_X7_had_93, List.forall_mem_cons.mpr ⟨mx_X7_had_94, List.forall_mem_cons.mpr ⟨mx_X7_had_95, List.forall_mem_cons.mpr ⟨mx_X7_had_96, List.forall_mem_cons.mpr ⟨mx_X7_had_97, List.forall_mem_cons.mpr ⟨mx_X7_had_98, List.forall_mem_cons.mpr ⟨mx_X7_had_99, List.forall_mem_cons.mpr ⟨mx_X7_had_100, List.forall_mem_cons.mpr ⟨mx_X7_had_101, List.forall_mem_cons.mpr ⟨mx_X7_had_102, List.forall_mem_cons.mpr ⟨mx_X7_had_103, List.forall_mem_cons.mpr ⟨mx_X7_had_104, List.forall_mem_cons.mpr ⟨mx_X7_had_105, List.forall_mem_cons.mpr ⟨mx_X7_had_106, fun _ h_ => absurd h_ List.not_mem_nil⟩⟩⟩⟩⟩⟩⟩⟩⟩⟩⟩⟩⟩⟩⟩)⟩⟩⟩, (fun _ h_ => mb_X7_had_wsX20 h_)⟩, (fun _ h_ => mb_X7_had_wsX30 h_)⟩⟩) (by decide +kernel)
theorem mx_X7_had_19 : Cond.methodLink RX7 224 yX2_search ∈ wsX7_had := mb_X7_had_wsX7_had_r1 (List.mem_of_getElem? (i := 18) rfl)
theorem mx_X7_had_20 : Cond.instanceMethod yX2_search ∈ wsX7_had := mb_X7_had_wsX7_had_r1 (List.mem_of_getElem? (i := 19) rfl)
theorem mx_X7_had_21 : Cond.selects RX2 yX2_search yX2_search ∈ wsX7_had := mb_X7_had_wsX7_had_r1 (List.mem_of_getElem? (i := 20) rfl)
theorem gX7_had_X2_search : GoodIn wsX7_had (wsV RX7 224 RX2 yX2_search wsX2_search) := goodIn_app (goodIn_sub (List.forall_mem_cons.mpr ⟨mx_X7_had_19, List.forall_mem_cons.mpr ⟨mx_X7_had_20, List.forall_mem_cons.mpr ⟨mx_X7_had_21, List.forall_mem_cons.mpr ⟨mx_X7_had_17, fun _ h_ => absurd h_ List.not_mem_nil⟩⟩⟩⟩) (by decide +kernel)) ggX7_had_X2_search
theorem mx_X7_had_13 : Cond.code yX3_isTold cX3_isTold 1 (some .boolean) ∈ wsX7_had := mb_X7_had_wsX7_had_r1 (List.mem_of_getElem? (i := 12) rfl)
theorem ggX7_had_X3_isTold : GoodIn wsX7_had wsX3_isTold := goodIn_sub (by unfold wsX3_isTold; exact List.forall_mem_cons.mpr ⟨mx_X7_had_13, List.forall_mem_append.mpr ⟨List.forall_mem_cons.mpr ⟨mx_X7_had_14, fun _ h_ => absurd h_ List.not_mem_nil⟩, (fun _ h_ => mb_X7_had_wsX30 h_)⟩⟩) (by decide +kernel)
theorem mx_X7_had_9 : Cond.methodLink RX7 145 yX3_isTold ∈ wsX7_had := mb_X7_had_wsX7_had_r1 (List.mem_of_getElem? (i := 8) rfl)
theorem mx_X7_had_10 : Cond.instanceMethod yX3_isTold ∈ wsX7_had := mb_X7_had_wsX7_had_r1 (List.mem_of_getElem? (i := 9) rfl)
theorem mx_X7_had_11 : Cond.selects RX3 yX3_isTold yX3_isTold ∈ wsX7_had := mb_X7_had_wsX7_had_r1 (List.mem_of_getElem? (i := 10) rfl)
theorem gX7_had_X3_isTold : GoodIn wsX7_had (wsV RX7 145 RX3 yX3_isTold wsX3_isTold) := goodIn_app (goodIn_sub (List.forall_mem_cons.mpr ⟨mx_X7_had_9, List.forall_mem_cons.mpr ⟨mx_X7_had_10, List.forall_mem_cons.mpr ⟨mx_X7_had_11, List.forall_mem_cons.mpr ⟨mx_X7_had_12, fun _ h_ => absurd h_ List.not_mem_nil⟩⟩⟩⟩) (by decide +kernel)) ggX7_had_X3_isTold
theorem mb_X7_level_wsX7_level_r5 {w : Cond} (h : w ∈ wsX7_level_r5) : w ∈ wsX7_level := by unfold wsX7_level; exact List.mem_cons_of_mem _ (List.mem_append_left _ (List.mem_append_left _ (List.mem_append_left _ (List.mem_append_left _ (List.mem_append_right _ (List.mem_append_right _ (List.mem_append_right _ (List.mem_append_right _ (h)))))))))
theorem mx_X7_level_107 : Cond.code yX0_forget cX0_forget 1 none ∈ wsX7_level := mb_X7_level_wsX7_level_r5 (List.mem_of_getElem? (i := 10) rfl)
theorem mx_X7_level_108 : Cond.fieldLink RX0 16 "MillTalk$Acts" "size" "I" ∈ wsX7_level := mb_X7_level_wsX7_level_r5 (List.mem_of_getElem? (i := 11) rfl)
theorem mb_X7_level_wsX00 {w : Cond} (h : w ∈ wsX00) : w ∈ wsX7_level := by unfold wsX7_level; exact List.mem_cons_of_mem _ (List.mem_append_right _ (h))
theorem ggX7_level_X0_forget : GoodIn wsX7_level wsX0_forget := goodIn_sub (by unfold wsX0_forget; exact List.forall_mem_cons.mpr ⟨mx_X7_level_107, List.forall_mem_append.mpr ⟨List.forall_mem_cons.mpr ⟨mx_X7_level_108, fun _ h_ => absurd h_ List.not_mem_nil⟩, (fun _ h_ => mb_X7_level_wsX00 h_)⟩⟩) (by decide +kernel)
theorem mx_X7_level_103 : Cond.methodLink RX7 132 yX0_forget ∈ wsX7_level := mb_X7_level_wsX7_level_r5 (List.mem_of_getElem? (i := 6) rfl)
theorem mx_X7_level_104 : Cond.instanceMethod yX0_forget ∈ wsX7_level := mb_X7_level_wsX7_level_r5 (List.mem_of_getElem? (i := 7) rfl)
theorem mx_X7_level_105 : Cond.selects RX0 yX0_forget yX0_forget ∈ wsX7_level := mb_X7_level_wsX7_level_r5 (List.mem_of_getElem? (i := 8) rfl)
theorem mx_X7_level_106 : Cond.initialized RX0 ∈ wsX7_level := mb_X7_level_wsX7_level_r5 (List.mem_of_getElem? (i := 9) rfl)
theorem gX7_level_X0_forget : GoodIn wsX7_level (wsV RX7 132 RX0 yX0_forget wsX0_forget) := goodIn_app (goodIn_sub (List.forall_mem_cons.mpr ⟨mx_X7_level_103, List.forall_mem_cons.mpr ⟨mx_X7_level_104, List.forall_mem_cons.mpr ⟨mx_X7_level_105, List.forall_mem_cons.mpr ⟨mx_X7_level_106, fun _ h_ => absurd h_ List.not_mem_nil⟩⟩⟩⟩) (by decide +kernel)) ggX7_level_X0_forget
theorem mb_X7_level_wsX7_level_r4 {w : Cond} (h : w ∈ wsX7_level_r4) : w ∈ wsX7_level := by unfold wsX7_level; exact List.mem_cons_of_mem _ (List.mem_append_left _ (List.mem_append_left _ (List.mem_append_left _ (List.mem_append_left _ (List.mem_append_right _ (List.mem_append_right _ (List.mem_append_right _ (List.mem_append_left _ (h)))))))))
theorem mx_X7_level_96 : Cond.code yX3_becomeLike cX3_becomeLike 2 none ∈ wsX7_level := mb_X7_level_wsX7_level_r4 (List.mem_of_getElem? (i := 23) rfl)
theorem mb_X7_level_wsX7_level_r1 {w : Cond} (h : w ∈ wsX7_level_r1) : w ∈ wsX7_level := by unfold wsX7_level; exact List.mem_cons_of_mem _ (List.mem_append_left _ (List.mem_append_left _ (List.mem_append_left _ (List.mem_append_left _ (List.mem_append_left _ (h))))))
theorem mx_X7_level_24 : Cond.fieldLink RX3 27 "MillTalk$Level" "cells" "I" ∈ wsX7_level := mb_X7_level_wsX7_level_r1 (List.mem_of_getElem? (i := 23) rfl)
theorem mb_X7_level_wsX7_level_r2 {w : Cond} (h : w ∈ wsX7_level_r2) : w ∈ wsX7_level := by unfold wsX7_level; exact List.mem_cons_of_mem _ (List.mem_append_left _ (List.mem_append_left _ (List.mem_append_left _ (List.mem_append_left _ (List.mem_append_right _ (List.mem_append_left _ (h)))))))
theorem mx_X7_level_25 : Cond.fieldLink RX3 31 "MillTalk$Level" "mill" "I" ∈ wsX7_level := mb_X7_level_wsX7_level_r2 (List.mem_of_getElem? (i := 0) rfl)
theorem mx_X7_level_26 : Cond.fieldLink RX3 34 "MillTalk$Level" "reach" "I" ∈ wsX7_level := mb_X7_level_wsX7_level_r2 (List.mem_of_getElem? (i := 1) rfl)
theorem mx_X7_level_27 : Cond.fieldLink RX3 37 "MillTalk$Level" "cap" "I" ∈ wsX7_level := mb_X7_level_wsX7_level_r2 (List.mem_of_getElem? (i := 2) rfl)
theorem mx_X7_level_28 : Cond.fieldLink RX3 40 "MillTalk$Level" "hour" "I" ∈ wsX7_level := mb_X7_level_wsX7_level_r2 (List.mem_of_getElem? (i := 3) rfl)
theorem mx_X7_level_29 : Cond.fieldLink RX3 43 "MillTalk$Level" "meal" "I" ∈ wsX7_level := mb_X7_level_wsX7_level_r2 (List.mem_of_getElem? (i := 4) rfl)
theorem mx_X7_level_30 : Cond.fieldLink RX3 46 "MillTalk$Level" "windCount" "I" ∈ wsX7_level := mb_X7_level_wsX7_level_r2 (List.mem_of_getElem? (i := 5) rfl)
theorem mx_X7_level_31 : Cond.fieldLink RX3 49 "MillTalk$Level" "soundCount" "I" ∈ wsX7_level := mb_X7_level_wsX7_level_r2 (List.mem_of_getElem? (i := 6) rfl)
theorem mx_X7_level_97 : Cond.fieldLink RX3 9 "MillTalk$Level" "winds" "[I" ∈ wsX7_level := mb_X7_level_wsX7_level_r5 (List.mem_of_getElem? (i := 0) rfl)
theorem mx_X7_level_98 : Cond.methodLink RX3 52 arraycopyName ∈ wsX7_level := mb_X7_level_wsX7_level_r5 (List.mem_of_getElem? (i := 1) rfl)
theorem mx_X7_level_99 : Cond.native arraycopyName ∈ wsX7_level := mb_X7_level_wsX7_level_r5 (List.mem_of_getElem? (i := 2) rfl)
theorem mx_X7_level_100 : Cond.static arraycopyName ∈ wsX7_level := mb_X7_level_wsX7_level_r5 (List.mem_of_getElem? (i := 3) rfl)
theorem mx_X7_level_101 : Cond.initialized "java/lang/System" ∈ wsX7_level := mb_X7_level_wsX7_level_r5 (List.mem_of_getElem? (i := 4) rfl)
theorem mx_X7_level_102 : Cond.fieldLink RX3 15 "MillTalk$Level" "kinds" "[I" ∈ wsX7_level := mb_X7_level_wsX7_level_r5 (List.mem_of_getElem? (i := 5) rfl)
theorem mx_X7_level_90 : Cond.fieldLink RX3 18 "MillTalk$Level" "places" "[I" ∈ wsX7_level := mb_X7_level_wsX7_level_r4 (List.mem_of_getElem? (i := 17) rfl)
theorem mx_X7_level_91 : Cond.fieldLink RX3 21 "MillTalk$Level" "louds" "[I" ∈ wsX7_level := mb_X7_level_wsX7_level_r4 (List.mem_of_getElem? (i := 18) rfl)
theorem mx_X7_level_92 : Cond.fieldLink RX3 24 "MillTalk$Level" "hows" "[I" ∈ wsX7_level := mb_X7_level_wsX7_level_r4 (List.mem_of_getElem? (i := 19) rfl)
theorem mb_X7_level_wsX30 {w : Cond} (h : w ∈ wsX30) : w ∈ wsX7_level := by unfold wsX7_level; exact List.mem_cons_of_mem _ (List.mem_append_left _ (List.mem_append_right _ (h)))
theorem ggX7_level_X3_becomeLike : GoodIn wsX7_level wsX3_becomeLike := goodIn_sub (by unfold wsX3_becomeLike; exact List.forall_mem_cons.mpr ⟨mx_X7_level_96, List.forall_mem_append.mpr ⟨List.forall_mem_cons.mpr ⟨mx_X7_level_24, List.forall_mem_cons.mpr ⟨mx_X7_level_25, List.forall_mem_cons.mpr ⟨mx_X7_level_26, List.forall_mem_cons.mpr ⟨mx_X7_level_27, List.forall_mem_cons.mpr ⟨mx_X7_level_28, List.forall_mem_cons.mpr ⟨mx_X7_level_29, List.forall_mem_cons.mpr ⟨mx_X7_level_30, List.forall_mem_cons.mpr ⟨mx_X7_level_31, List.forall_mem_cons.mpr ⟨mx_X7_level_97, List.forall_mem_cons.mpr ⟨mx_X7_level_98, List.forall_mem_cons.mpr ⟨mx_X7_level_99, List.forall_mem_cons.mpr ⟨mx_X7_level_100, List.forall_mem_cons.mpr ⟨mx_X7_level_101, List.forall_mem_cons.mpr ⟨mx_X7_level_102, List.forall_mem_cons.mpr ⟨mx_X7_level_90, List.forall_mem_cons.mpr ⟨mx_X7_level_91, List.forall_mem_cons.mpr ⟨mx_X7_level_92, fun _ h_ => absurd h_ List.not_mem_nil⟩⟩⟩⟩⟩⟩⟩⟩⟩⟩⟩⟩⟩⟩⟩⟩⟩, (fun _ h_ => mb_X7_level_wsX30 h_)⟩⟩) (by decide +kernel)
theorem mx_X7_level_93 : Cond.methodLink RX7 128 yX3_becomeLike ∈ wsX7_level := mb_X7_level_wsX7_level_r4 (List.mem_of_getElem? (i := 20) rfl)
theorem mx_X7_level_94 : Cond.instanceMethod yX3_becomeLike ∈ wsX7_level := mb_X7_level_wsX7_level_r4 (List.mem_of_getElem? (i := 21) rfl)
theorem mx_X7_level_95 : Cond.selects RX3 yX3_becomeLike yX3_becomeLike ∈ wsX7_level := mb_X7_level_wsX7_level_r4 (List.mem_of_getElem? (i := 22) rfl)
theorem mx_X7_level_22 : Cond.initialized RX3 ∈ wsX7_level := mb_X7_level_wsX7_level_r1 (List.mem_of_getElem? (i := 21) rfl)
theorem gX7_level_X3_becomeLike : GoodIn wsX7_level (wsV RX7 128 RX3 yX3_becomeLike wsX3_becomeLike) := goodIn_app (goodIn_sub (List.forall_mem_cons.mpr ⟨mx_X7_level_93, List.forall_mem_cons.mpr ⟨mx_X7_level_94, List.forall_mem_cons.mpr ⟨mx_X7_level_95, List.forall_mem_cons.mpr ⟨mx_X7_level_22, fun _ h_ => absurd h_ List.not_mem_nil⟩⟩⟩⟩) (by decide +kernel)) ggX7_level_X3_becomeLike
theorem mx_X7_level_13 : Cond.code yX6_read cX6_read 1 (some .int) ∈ wsX7_level := mb_X7_level_wsX7_level_r1 (List.mem_of_getElem? (i := 12) rfl)
theorem mx_X7_level_14 : Cond.fieldLink RX6 30 "MillTalk$Tape" "fault" "I" ∈ wsX7_level := mb_X7_level_wsX7_level_r1 (List.mem_of_getElem? (i := 13) rfl)
theorem mx_X7_level_15 : Cond.fieldLink RX6 33 "MillTalk$Tape" "faultPlace" "I" ∈ wsX7_level := mb_X7_level_wsX7_level_r1 (List.mem_of_getElem? (i := 14) rfl)
theorem mx_X7_level_16 : Cond.fieldLink RX6 36 "MillTalk$Tape" "place" "I" ∈ wsX7_level := mb_X7_level_wsX7_level_r1 (List.mem_of_getElem? (i := 15) rfl)
theorem mx_X7_level_17 : Cond.fieldLink RX6 18 "MillTalk$Tape" "told" "LMillTalk$Level;" ∈ wsX7_level := mb_X7_level_wsX7_level_r1 (List.mem_of_getElem? (i := 16) rfl)
theorem mx_X7_level_18 : Cond.fieldLink RX6 22 "MillTalk$Tape" "size" "I" ∈ wsX7_level := mb_X7_level_wsX7_level_r1 (List.mem_of_getElem? (i := 17) rfl)
theorem mx_X7_level_19 : Cond.methodLink RX6 39 yX3_begin ∈ wsX7_level := mb_X7_level_wsX7_level_r1 (List.mem_of_getElem? (i := 18) rfl)
theorem mx_X7_level_20 : Cond.instanceMethod yX3_begin ∈ wsX7_level := mb_X7_level_wsX7_level_r1 (List.mem_of_getElem? (i := 19) rfl)
theorem mx_X7_level_21 : Cond.selects RX3 yX3_begin yX3_begin ∈ wsX7_level := mb_X7_level_wsX7_level_r1 (List.mem_of_getElem? (i := 20) rfl)
theorem mx_X7_level_23 : Cond.code yX3_begin cX3_begin 1 none ∈ wsX7_level := mb_X7_level_wsX7_level_r1 (List.mem_of_getElem? (i := 22) rfl)
theorem mx_X7_level_32 : Cond.methodLink RX6 42 yX6_readLaw ∈ wsX7_level := mb_X7_level_wsX7_level_r2 (List.mem_of_getElem? (i := 7) rfl)
theorem mx_X7_level_33 : Cond.instanceMethod yX6_readLaw ∈ wsX7_level := mb_X7_level_wsX7_level_r2 (List.mem_of_getElem? (i := 8) rfl)
theorem mx_X7_level_34 : Cond.selects RX6 yX6_readLaw yX6_readLaw ∈ wsX7_level := mb_X7_level_wsX7_level_r2 (List.mem_of_getElem? (i := 9) rfl)
theorem mx_X7_level_12 : Cond.initialized RX6 ∈ wsX7_level := mb_X7_level_wsX7_level_r1 (List.mem_of_getElem? (i := 11) rfl)
theorem mx_X7_level_35 : Cond.code yX6_readLaw cX6_readLaw 1 none ∈ wsX7_level := mb_X7_level_wsX7_level_r2 (List.mem_of_getElem? (i := 10) rfl)
theorem mx_X7_level_36 : Cond.fieldLink RX6 59 "MillTalk$Level" "cells" "I" ∈ wsX7_level := mb_X7_level_wsX7_level_r2 (List.mem_of_getElem? (i := 11) rfl)
theorem mx_X7_level_37 : Cond.fieldLink RX6 62 "MillTalk$Level" "mill" "I" ∈ wsX7_level := mb_X7_level_wsX7_level_r2 (List.mem_of_getElem? (i := 12) rfl)
theorem mx_X7_level_38 : Cond.fieldLink RX6 65 "MillTalk$Level" "reach" "I" ∈ wsX7_level := mb_X7_level_wsX7_level_r2 (List.mem_of_getElem? (i := 13) rfl)
theorem mx_X7_level_39 : Cond.methodLink RX6 51 yX6_readByte ∈ wsX7_level := mb_X7_level_wsX7_level_r2 (List.mem_of_getElem? (i := 14) rfl)
theorem mx_X7_level_40 : Cond.instanceMethod yX6_readByte ∈ wsX7_level := mb_X7_level_wsX7_level_r2 (List.mem_of_getElem? (i := 15) rfl)
theorem mx_X7_level_41 : Cond.selects RX6 yX6_readByte yX6_readByte ∈ wsX7_level := mb_X7_level_wsX7_level_r2 (List.mem_of_getElem? (i := 16) rfl)
theorem mx_X7_level_42 : Cond.code yX6_readByte cX6_readByte 2 none ∈ wsX7_level := mb_X7_level_wsX7_level_r2 (List.mem_of_getElem? (i := 17) rfl)
theorem mx_X7_level_43 : Cond.methodLink RX6 71 yX6_byteAt ∈ wsX7_level := mb_X7_level_wsX7_level_r2 (List.mem_of_getElem? (i := 18) rfl)
theorem mx_X7_level_44 : Cond.instanceMethod yX6_byteAt ∈ wsX7_level := mb_X7_level_wsX7_level_r2 (List.mem_of_getElem? (i := 19) rfl)
theorem mx_X7_level_45 : Cond.selects RX6 yX6_byteAt yX6_byteAt ∈ wsX7_level := mb_X7_level_wsX7_level_r2 (List.mem_of_getElem? (i := 20) rfl)
theorem mx_X7_level_46 : Cond.code yX6_byteAt cX6_byteAt 2 (some .int) ∈ wsX7_level := mb_X7_level_wsX7_level_r2 (List.mem_of_getElem? (i := 21) rfl)
theorem mx_X7_level_47 : Cond.fieldLink RX6 11 "MillTalk$Tape" "bytes" "[I" ∈ wsX7_level := mb_X7_level_wsX7_level_r2 (List.mem_of_getElem? (i := 22) rfl)
theorem mx_X7_level_48 : Cond.methodLink RX6 78 yX6_fail ∈ wsX7_level := mb_X7_level_wsX7_level_r2 (List.mem_of_getElem? (i := 23) rfl)
theorem mb_X7_level_wsX7_level_r3 {w : Cond} (h : w ∈ wsX7_level_r3) : w ∈ wsX7_level := by unfold wsX7_level; exact List.mem_cons_of_mem _ (List.mem_append_left _ (List.mem_append_left _ (List.mem_append_left _ (List.mem_append_left _ (List.mem_append_right _ (List.mem_append_right _ (List.mem_append_left _ (h))))))))
theorem mx_X7_level_49 : Cond.instanceMethod yX6_fail ∈ wsX7_level := mb_X7_level_wsX7_level_r3 (List.mem_of_getElem? (i := 0) rfl)
theorem mx_X7_level_50 : Cond.selects RX6 yX6_fail yX6_fail ∈ wsX7_level := mb_X7_level_wsX7_level_r3 (List.mem_of_getElem? (i := 1) rfl)
theorem mx_X7_level_51 : Cond.code yX6_fail cX6_fail 2 none ∈ wsX7_level := mb_X7_level_wsX7_level_r3 (List.mem_of_getElem? (i := 2) rfl)
theorem mx_X7_level_52 : Cond.methodLink RX6 55 yX6_readNumber ∈ wsX7_level := mb_X7_level_wsX7_level_r3 (List.mem_of_getElem? (i := 3) rfl)
theorem mx_X7_level_53 : Cond.instanceMethod yX6_readNumber ∈ wsX7_level := mb_X7_level_wsX7_level_r3 (List.mem_of_getElem? (i := 4) rfl)
theorem mx_X7_level_54 : Cond.selects RX6 yX6_readNumber yX6_readNumber ∈ wsX7_level := mb_X7_level_wsX7_level_r3 (List.mem_of_getElem? (i := 5) rfl)
theorem mx_X7_level_55 : Cond.code yX6_readNumber cX6_readNumber 6 (some .int) ∈ wsX7_level := mb_X7_level_wsX7_level_r3 (List.mem_of_getElem? (i := 6) rfl)
theorem mx_X7_level_56 : Cond.methodLink RX6 100 yX6_figuresHere ∈ wsX7_level := mb_X7_level_wsX7_level_r3 (List.mem_of_getElem? (i := 7) rfl)
theorem mx_X7_level_57 : Cond.instanceMethod yX6_figuresHere ∈ wsX7_level := mb_X7_level_wsX7_level_r3 (List.mem_of_getElem? (i := 8) rfl)
theorem mx_X7_level_58 : Cond.selects RX6 yX6_figuresHere yX6_figuresHere ∈ wsX7_level := mb_X7_level_wsX7_level_r3 (List.mem_of_getElem? (i := 9) rfl)
theorem mx_X7_level_59 : Cond.code yX6_figuresHere cX6_figuresHere 2 (some .int) ∈ wsX7_level := mb_X7_level_wsX7_level_r3 (List.mem_of_getElem? (i := 10) rfl)
theorem mx_X7_level_60 : Cond.methodLink RX6 104 yX6_isFigure ∈ wsX7_level := mb_X7_level_wsX7_level_r3 (List.mem_of_getElem? (i := 11) rfl)
theorem mx_X7_level_61 : Cond.static yX6_isFigure ∈ wsX7_level := mb_X7_level_wsX7_level_r3 (List.mem_of_getElem? (i := 12) rfl)
theorem mx_X7_level_62 : Cond.code yX6_isFigure cX6_isFigure 1 (some .boolean) ∈ wsX7_level := mb_X7_level_wsX7_level_r3 (List.mem_of_getElem? (i := 13) rfl)
theorem mx_X7_level_63 : Cond.methodLink RX6 45 yX6_readWinds ∈ wsX7_level := mb_X7_level_wsX7_level_r3 (List.mem_of_getElem? (i := 14) rfl)
theorem mx_X7_level_64 : Cond.instanceMethod yX6_readWinds ∈ wsX7_level := mb_X7_level_wsX7_level_r3 (List.mem_of_getElem? (i := 15) rfl)
theorem mx_X7_level_65 : Cond.selects RX6 yX6_readWinds yX6_readWinds ∈ wsX7_level := mb_X7_level_wsX7_level_r3 (List.mem_of_getElem? (i := 16) rfl)
theorem mx_X7_level_66 : Cond.code yX6_readWinds cX6_readWinds 2 none ∈ wsX7_level := mb_X7_level_wsX7_level_r3 (List.mem_of_getElem? (i := 17) rfl)
theorem mx_X7_level_67 : Cond.methodLink RX6 68 yX6_readWind ∈ wsX7_level := mb_X7_level_wsX7_level_r3 (List.mem_of_getElem? (i := 18) rfl)
theorem mx_X7_level_68 : Cond.instanceMethod yX6_readWind ∈ wsX7_level := mb_X7_level_wsX7_level_r3 (List.mem_of_getElem? (i := 19) rfl)
theorem mx_X7_level_69 : Cond.selects RX6 yX6_readWind yX6_readWind ∈ wsX7_level := mb_X7_level_wsX7_level_r3 (List.mem_of_getElem? (i := 20) rfl)
theorem mx_X7_level_70 : Cond.code yX6_readWind cX6_readWind 2 none ∈ wsX7_level := mb_X7_level_wsX7_level_r3 (List.mem_of_getElem? (i := 21) rfl)
theorem mx_X7_level_71 : Cond.fieldLink RX6 75 "MillTalk$Level" "windCount" "I" ∈ wsX7_level := mb_X7_level_wsX7_level_r3 (List.mem_of_getElem? (i := 22) rfl)
theorem mx_X7_level_72 : Cond.fieldLink RX6 81 "MillTalk$Level" "winds" "[I" ∈ wsX7_level := mb_X7_level_wsX7_level_r3 (List.mem_of_getElem? (i := 23) rfl)
theorem mx_X7_level_73 : Cond.methodLink RX6 48 yX6_readSounds ∈ wsX7_level := mb_X7_level_wsX7_level_r4 (List.mem_of_getElem? (i := 0) rfl)
theorem mx_X7_level_74 : Cond.instanceMethod yX6_readSounds ∈ wsX7_level := mb_X7_level_wsX7_level_r4 (List.mem_of_getElem? (i := 1) rfl)
theorem mx_X7_level_75 : Cond.selects RX6 yX6_readSounds yX6_readSounds ∈ wsX7_level := mb_X7_level_wsX7_level_r4 (List.mem_of_getElem? (i := 2) rfl)
theorem mx_X7_level_76 : Cond.code yX6_readSounds cX6_readSounds 2 none ∈ wsX7_level := mb_X7_level_wsX7_level_r4 (List.mem_of_getElem? (i := 3) rfl)
theorem mx_X7_level_77 : Cond.methodLink RX6 84 yX6_readSound ∈ wsX7_level := mb_X7_level_wsX7_level_r4 (List.mem_of_getElem? (i := 4) rfl)
theorem mx_X7_level_78 : Cond.instanceMethod yX6_readSound ∈ wsX7_level := mb_X7_level_wsX7_level_r4 (List.mem_of_getElem? (i := 5) rfl)
theorem mx_X7_level_79 : Cond.selects RX6 yX6_readSound yX6_readSound ∈ wsX7_level := mb_X7_level_wsX7_level_r4 (List.mem_of_getElem? (i := 6) rfl)
theorem mx_X7_level_80 : Cond.code yX6_readSound cX6_readSound 4 none ∈ wsX7_level := mb_X7_level_wsX7_level_r4 (List.mem_of_getElem? (i := 7) rfl)
theorem mx_X7_level_81 : Cond.fieldLink RX6 90 "MillTalk$Level" "soundCount" "I" ∈ wsX7_level := mb_X7_level_wsX7_level_r4 (List.mem_of_getElem? (i := 8) rfl)
theorem mx_X7_level_82 : Cond.fieldLink RX6 93 "MillTalk$Level" "kinds" "[I" ∈ wsX7_level := mb_X7_level_wsX7_level_r4 (List.mem_of_getElem? (i := 9) rfl)
theorem mx_X7_level_83 : Cond.methodLink RX6 87 yX6_kindOf ∈ wsX7_level := mb_X7_level_wsX7_level_r4 (List.mem_of_getElem? (i := 10) rfl)
theorem mx_X7_level_84 : Cond.static yX6_kindOf ∈ wsX7_level := mb_X7_level_wsX7_level_r4 (List.mem_of_getElem? (i := 11) rfl)
theorem mx_X7_level_85 : Cond.code yX6_kindOf cX6_kindOf 1 (some .int) ∈ wsX7_level := mb_X7_level_wsX7_level_r4 (List.mem_of_getElem? (i := 12) rfl)
theorem mx_X7_level_86 : Cond.methodLink RX6 96 yX3_letLoose ∈ wsX7_level := mb_X7_level_wsX7_level_r4 (List.mem_of_getElem? (i := 13) rfl)
theorem mx_X7_level_87 : Cond.instanceMethod yX3_letLoose ∈ wsX7_level := mb_X7_level_wsX7_level_r4 (List.mem_of_getElem? (i := 14) rfl)
theorem mx_X7_level_88 : Cond.selects RX3 yX3_letLoose yX3_letLoose ∈ wsX7_level := mb_X7_level_wsX7_level_r4 (List.mem_of_getElem? (i := 15) rfl)
theorem mx_X7_level_89 : Cond.code yX3_letLoose cX3_letLoose 4 none ∈ wsX7_level := mb_X7_level_wsX7_level_r4 (List.mem_of_getElem? (i := 16) rfl)
theorem mb_X7_level_wsX60 {w : Cond} (h : w ∈ wsX60) : w ∈ wsX7_level := by unfold wsX7_level; exact List.mem_cons_of_mem _ (List.mem_append_left _ (List.mem_append_left _ (List.mem_append_right _ (h))))
theorem ggX7_level_X6_read : GoodIn wsX7_level wsX6_read := goodIn_sub (by unfold wsX6_read; exact List.forall_mem_cons.mpr ⟨mx_X7_level_13, List.forall_mem_append.mpr ⟨List.forall_mem_append.mpr ⟨List.forall_mem_append.mpr ⟨(by unfold wsX6_read_r1; exact List.forall_mem_cons.mpr ⟨mx_X7_level_14, List.forall_mem_cons.mpr ⟨mx_X7_level_15, List.forall_mem_cons.mpr ⟨mx_X7_level_16, List.forall_mem_cons.mpr ⟨mx_X7_level_17, List.forall_mem_cons.mpr ⟨mx_X7_level_18, List.forall_mem_cons.mpr ⟨mx_X7_level_19, List.forall_mem_cons.mpr ⟨mx_X7_level_20, List.forall_mem_cons.mpr ⟨mx_X7_level_21, List.forall_mem_cons.mpr ⟨mx_X7_level_22, List.forall_mem_cons.mpr ⟨mx_X7_level_23, List.forall_mem_cons.mpr ⟨mx_X7_level_24, List.forall_mem_cons.mpr ⟨mx_X7_level_25, List.forall_mem_cons.mpr ⟨mx_X7_level_26, List.forall_mem_cons.mpr ⟨mx_X7_level_27, List.forall_mem_cons.mpr ⟨mx_X7_level_28, List.forall_mem_cons.mpr ⟨mx_X7_level_29, List.forall_mem_cons.mpr ⟨mx_X7_level_30, List.forall_mem_cons.mpr ⟨mx_X7_level_31, List.forall_mem_cons.mpr ⟨mx_X7_level_32, List.forall_mem_cons.mpr ⟨mx_X7_level_33, List.forall_mem_cons.mpr ⟨mx_X7_level_34, List.forall_mem_cons.mpr ⟨mx_X7_level_12, List.forall_mem_cons.mpr ⟨mx_X7_level_35, List.forall_mem_cons.mpr ⟨mx_X7_level_36, fun _ h_ => absurd h_ List.not_mem_nil⟩⟩⟩⟩⟩⟩⟩⟩⟩⟩⟩⟩⟩⟩⟩⟩⟩⟩⟩⟩⟩⟩⟩⟩), List.forall_mem_append.mpr ⟨(by unfold wsX6_read_r2; exact List.forall_mem_cons.mpr ⟨mx_X7_level_37, List.forall_mem_cons.mpr ⟨mx_X7_level_38, List.forall_mem_cons.mpr ⟨mx_X7_level_39, List.forall_mem_cons.mpr ⟨mx_X7_level_40, List.forall_mem_cons.mpr ⟨mx_X7_level_41, List.forall_mem_cons.mpr ⟨mx_X7_level_42, List.forall_mem_cons.mpr ⟨mx_X7_level_43, List.forall_mem_cons.mpr ⟨mx_X7_level_44, List.forall_mem_cons.mpr ⟨mx_X7_level_45, List.forall_mem_cons.mpr ⟨mx_X7_level_46, List.forall_mem_cons.mpr ⟨mx_X7_level_47, List.forall_mem_cons.mpr ⟨mx_X7_level_48, List.forall_mem_cons.mpr ⟨mx_X7_level_49, List.forall_mem_cons.mpr ⟨mx_X7_level_50, List.forall_mem_cons.mpr ⟨mx_X7_level_51, List.forall_mem_cons.mpr ⟨mx_X7_level_52, List.forall_mem_cons.mpr ⟨mx_X7_level_53, List.forall_mem_cons.mpr ⟨mx_X7_level_54, List.forall_mem_cons.mpr ⟨mx_X7_level_55, List.forall_mem_cons.mpr ⟨mx_X7_level_56, List.forall_mem_cons.mpr ⟨mx_X7_level_57, List.forall_mem_cons.mpr ⟨mx_X7_level_58, List.forall_mem_cons.mpr ⟨mx_X7_level_59, List.forall_mem_cons.mpr ⟨mx_X7_level_60, fun _ h_ => absurd h_ List.not_mem_nil⟩⟩⟩⟩⟩⟩⟩⟩⟩⟩⟩⟩⟩⟩⟩⟩⟩⟩⟩⟩⟩⟩⟩⟩), List.forall_mem_append.mpr ⟨(by unfold wsX6_read_r3; exact List.forall_mem_cons.mpr ⟨mx_X7_level_61, List.forall_mem_cons.mpr ⟨mx_X7_level_62, List.forall_mem_cons.mpr ⟨mx_X7_level_63, List.forall_mem_cons.mpr ⟨mx_X7_level_64, List.forall_mem_cons.mpr ⟨mx_X7_level_65, List.forall_mem_cons.mpr ⟨mx_X7_level_66, List.forall_mem_cons.mpr ⟨mx_X7_level_67, List.forall_mem_cons.mpr ⟨mx_X7_level_68, List.forall_mem_cons.mpr ⟨mx_X7_level_69, List.forall_mem_cons.mpr ⟨mx_X7_level_70, List.forall_mem_cons.mpr ⟨mx_X7_level_71, List.forall_mem_cons.mpr ⟨mx_X7_level_72, List.forall_mem_cons.mpr ⟨mx_X7_level_73, List.forall_mem_cons.mpr ⟨mx_X7_level_74, List.forall_mem_cons.mpr ⟨mx_X7_level_75, List.forall_mem_cons.mpr ⟨mx_X7_level_76, List.forall_mem_cons.mpr ⟨mx_X7_level_77, List.forall_mem_cons.mpr ⟨mx_X7_level_78, List.forall_mem_cons.mpr ⟨mx_X7_level_79, List.forall_mem_cons.mpr ⟨mx_X7_level_80, List.forall_mem_cons.mpr ⟨mx_X7_level_81, List.forall_mem_cons.mpr ⟨mx_X7_level_82, List.forall_mem_cons.mpr ⟨mx_X7_level_83, List.forall_mem_cons.mpr ⟨mx_X7_level_84, fun _ h_ => absurd h_ List.not_mem_nil⟩⟩⟩⟩⟩⟩⟩⟩⟩⟩⟩⟩⟩⟩⟩⟩⟩⟩⟩⟩⟩⟩⟩⟩), (by unfold wsX6_read_r4; exact List.forall_mem_cons.mpr ⟨mx_X7_level_85, List.forall_mem_cons.mpr ⟨mx_X7_level_86, List.forall_mem_cons.mpr ⟨mx_X7_level_87, List.forall_mem_cons.mpr ⟨mx_X7_level_88, List.forall_mem_cons.mpr ⟨mx_X7_level_89, List.forall_mem_cons.mpr ⟨mx_X7_level_90, List.forall_mem_cons.mpr ⟨mx_X7_level_91, List.forall_mem_cons.mpr ⟨mx_X7_level_92, fun _ h_ => absurd h_ List.not_mem_nil⟩⟩⟩⟩⟩⟩⟩⟩)⟩⟩⟩, (fun _ h_ => mb_X7_level_wsX60 h_)⟩, (fun _ h_ => mb_X7_level_wsX30 h_)⟩⟩) (by decide +kernel)
theorem mx_X7_level_9 : Cond.methodLink RX7 113 yX6_read ∈ wsX7_level := mb_X7_level_wsX7_level_r1 (List.mem_of_getElem? (i := 8) rfl)
theorem mx_X7_level_10 : Cond.instanceMethod yX6_read ∈ wsX7_level := mb_X7_level_wsX7_level_r1 (List.mem_of_getElem? (i := 9) rfl)
theorem mx_X7_level_11 : Cond.selects RX6 yX6_read yX6_read ∈ wsX7_level := mb_X7_level_wsX7_level_r1 (List.mem_of_getElem? (i := 10) rfl)
theorem gX7_level_X6_read : GoodIn wsX7_level (wsV RX7 113 RX6 yX6_read wsX6_read) := goodIn_app (goodIn_sub (List.forall_mem_cons.mpr ⟨mx_X7_level_9, List.forall_mem_cons.mpr ⟨mx_X7_level_10, List.forall_mem_cons.mpr ⟨mx_X7_level_11, List.forall_mem_cons.mpr ⟨mx_X7_level_12, fun _ h_ => absurd h_ List.not_mem_nil⟩⟩⟩⟩) (by decide +kernel)) ggX7_level_X6_read
theorem mb_X7_row_wsX7_row_r1 {w : Cond} (h : w ∈ wsX7_row_r1) : w ∈ wsX7_row := by unfold wsX7_row; exact List.mem_cons_of_mem _ (List.mem_append_left _ (List.mem_append_left _ (List.mem_append_left _ (h))))
theorem mx_X7_row_9 : Cond.code yX5_isLane cX5_isLane 1 (some .boolean) ∈ wsX7_row := mb_X7_row_wsX7_row_r1 (List.mem_of_getElem? (i := 8) rfl)
theorem ggX7_row_X5_isLane : GoodIn wsX7_row wsX5_isLane := goodIn_sub (by unfold wsX5_isLane; exact List.forall_mem_cons.mpr ⟨mx_X7_row_9, fun _ h_ => absurd h_ List.not_mem_nil⟩) (by decide +kernel)
set_option maxRecDepth 20000 in
theorem gX7_row_X5_isLane : GoodIn wsX7_row (va_wsS RX7 69 yX5_isLane wsX5_isLane) := goodIn_app (goodIn_of _ (by decide +kernel)) ggX7_row_X5_isLane
theorem mx_X7_row_6 : Cond.code yX5_isRow cX5_isRow 1 (some .boolean) ∈ wsX7_row := mb_X7_row_wsX7_row_r1 (List.mem_of_getElem? (i := 5) rfl)
theorem ggX7_row_X5_isRow : GoodIn wsX7_row wsX5_isRow := goodIn_sub (by unfold wsX5_isRow; exact List.forall_mem_cons.mpr ⟨mx_X7_row_6, fun _ h_ => absurd h_ List.not_mem_nil⟩) (by decide +kernel)
set_option maxRecDepth 20000 in
theorem gX7_row_X5_isRow : GoodIn wsX7_row (va_wsS RX7 65 yX5_isRow wsX5_isRow) := goodIn_app (goodIn_of _ (by decide +kernel)) ggX7_row_X5_isRow
theorem mx_X7_row_20 : Cond.code yX5_make cX5_make 4 none ∈ wsX7_row := mb_X7_row_wsX7_row_r1 (List.mem_of_getElem? (i := 19) rfl)
theorem mx_X7_row_21 : Cond.fieldLink RX5 16 "MillTalk$Rows" "lanes" "[I" ∈ wsX7_row := mb_X7_row_wsX7_row_r1 (List.mem_of_getElem? (i := 20) rfl)
theorem mx_X7_row_22 : Cond.fieldLink RX5 20 "MillTalk$Rows" "lengths" "[I" ∈ wsX7_row := mb_X7_row_wsX7_row_r1 (List.mem_of_getElem? (i := 21) rfl)
theorem mx_X7_row_23 : Cond.fieldLink RX5 13 "MillTalk$Rows" "items" "[[I" ∈ wsX7_row := mb_X7_row_wsX7_row_r1 (List.mem_of_getElem? (i := 22) rfl)
theorem mx_X7_row_24 : Cond.methodLink RX5 23 yJ7_fill_53178 ∈ wsX7_row := mb_X7_row_wsX7_row_r1 (List.mem_of_getElem? (i := 23) rfl)
theorem mb_X7_row_wsX7_row_r2 {w : Cond} (h : w ∈ wsX7_row_r2) : w ∈ wsX7_row := by unfold wsX7_row; exact List.mem_cons_of_mem _ (List.mem_append_left _ (List.mem_append_left _ (List.mem_append_right _ (h))))
theorem mx_X7_row_25 : Cond.static yJ7_fill_53178 ∈ wsX7_row := mb_X7_row_wsX7_row_r2 (List.mem_of_getElem? (i := 0) rfl)
theorem mx_X7_row_26 : Cond.initialized RJ7 ∈ wsX7_row := mb_X7_row_wsX7_row_r2 (List.mem_of_getElem? (i := 1) rfl)
theorem mx_X7_row_27 : Cond.code yJ7_fill_53178 cJ7_fill_53178 4 none ∈ wsX7_row := mb_X7_row_wsX7_row_r2 (List.mem_of_getElem? (i := 2) rfl)
theorem mb_X7_row_wsX50 {w : Cond} (h : w ∈ wsX50) : w ∈ wsX7_row := by unfold wsX7_row; exact List.mem_cons_of_mem _ (List.mem_append_right _ (h))
theorem ggX7_row_X5_make : GoodIn wsX7_row wsX5_make := goodIn_sub (by unfold wsX5_make; exact List.forall_mem_cons.mpr ⟨mx_X7_row_20, List.forall_mem_append.mpr ⟨List.forall_mem_cons.mpr ⟨mx_X7_row_21, List.forall_mem_cons.mpr ⟨mx_X7_row_22, List.forall_mem_cons.mpr ⟨mx_X7_row_23, List.forall_mem_cons.mpr ⟨mx_X7_row_24, List.forall_mem_cons.mpr ⟨mx_X7_row_25, List.forall_mem_cons.mpr ⟨mx_X7_row_26, List.forall_mem_cons.mpr ⟨mx_X7_row_27, fun _ h_ => absurd h_ List.not_mem_nil⟩⟩⟩⟩⟩⟩⟩, (fun _ h_ => mb_X7_row_wsX50 h_)⟩⟩) (by decide +kernel)
theorem mx_X7_row_17 : Cond.methodLink RX7 77 yX5_make ∈ wsX7_row := mb_X7_row_wsX7_row_r1 (List.mem_of_getElem? (i := 16) rfl)
theorem mx_X7_row_18 : Cond.instanceMethod yX5_make ∈ wsX7_row := mb_X7_row_wsX7_row_r1 (List.mem_of_getElem? (i := 17) rfl)
theorem mx_X7_row_19 : Cond.selects RX5 yX5_make yX5_make ∈ wsX7_row := mb_X7_row_wsX7_row_r1 (List.mem_of_getElem? (i := 18) rfl)
theorem mx_X7_row_5 : Cond.initialized RX5 ∈ wsX7_row := mb_X7_row_wsX7_row_r1 (List.mem_of_getElem? (i := 4) rfl)
theorem gX7_row_X5_make : GoodIn wsX7_row (wsV RX7 77 RX5 yX5_make wsX5_make) := goodIn_app (goodIn_sub (List.forall_mem_cons.mpr ⟨mx_X7_row_17, List.forall_mem_cons.mpr ⟨mx_X7_row_18, List.forall_mem_cons.mpr ⟨mx_X7_row_19, List.forall_mem_cons.mpr ⟨mx_X7_row_5, fun _ h_ => absurd h_ List.not_mem_nil⟩⟩⟩⟩) (by decide +kernel)) ggX7_row_X5_make
theorem mx_X7_row_14 : Cond.code yX7_found cX7_found 2 (some .int) ∈ wsX7_row := mb_X7_row_wsX7_row_r1 (List.mem_of_getElem? (i := 13) rfl)
theorem mx_X7_row_15 : Cond.fieldLink RX7 323 "MillTalk" "latestFinding" "I" ∈ wsX7_row := mb_X7_row_wsX7_row_r1 (List.mem_of_getElem? (i := 14) rfl)
theorem mx_X7_row_16 : Cond.constant RX7 326 (-1000010) ∈ wsX7_row := mb_X7_row_wsX7_row_r1 (List.mem_of_getElem? (i := 15) rfl)
theorem mb_X7_row_wsX70 {w : Cond} (h : w ∈ wsX70) : w ∈ wsX7_row := by unfold wsX7_row; exact List.mem_cons_of_mem _ (List.mem_append_left _ (List.mem_append_right _ (h)))
theorem ggX7_row_X7_found : GoodIn wsX7_row wsX7_found := goodIn_sub (by unfold wsX7_found; exact List.forall_mem_cons.mpr ⟨mx_X7_row_14, List.forall_mem_append.mpr ⟨List.forall_mem_cons.mpr ⟨mx_X7_row_15, List.forall_mem_cons.mpr ⟨mx_X7_row_16, fun _ h_ => absurd h_ List.not_mem_nil⟩⟩, (fun _ h_ => mb_X7_row_wsX70 h_)⟩⟩) (by decide +kernel)
theorem mx_X7_row_10 : Cond.methodLink RX7 73 yX7_found ∈ wsX7_row := mb_X7_row_wsX7_row_r1 (List.mem_of_getElem? (i := 9) rfl)
theorem mx_X7_row_11 : Cond.instanceMethod yX7_found ∈ wsX7_row := mb_X7_row_wsX7_row_r1 (List.mem_of_getElem? (i := 10) rfl)
theorem mx_X7_row_12 : Cond.selects RX7 yX7_found yX7_found ∈ wsX7_row := mb_X7_row_wsX7_row_r1 (List.mem_of_getElem? (i := 11) rfl)
theorem mx_X7_row_13 : Cond.initialized RX7 ∈ wsX7_row := mb_X7_row_wsX7_row_r1 (List.mem_of_getElem? (i := 12) rfl)
theorem gX7_row_X7_found : GoodIn wsX7_row (wsV RX7 73 RX7 yX7_found wsX7_found) := goodIn_app (goodIn_sub (List.forall_mem_cons.mpr ⟨mx_X7_row_10, List.forall_mem_cons.mpr ⟨mx_X7_row_11, List.forall_mem_cons.mpr ⟨mx_X7_row_12, List.forall_mem_cons.mpr ⟨mx_X7_row_13, fun _ h_ => absurd h_ List.not_mem_nil⟩⟩⟩⟩) (by decide +kernel)) ggX7_row_X7_found
theorem mx_X7_row_31 : Cond.code yX7_foundNothing cX7_foundNothing 2 (some .int) ∈ wsX7_row := mb_X7_row_wsX7_row_r2 (List.mem_of_getElem? (i := 6) rfl)
theorem ggX7_row_X7_foundNothing : GoodIn wsX7_row wsX7_foundNothing := goodIn_sub (by unfold wsX7_foundNothing; exact List.forall_mem_cons.mpr ⟨mx_X7_row_31, List.forall_mem_append.mpr ⟨List.forall_mem_cons.mpr ⟨mx_X7_row_15, fun _ h_ => absurd h_ List.not_mem_nil⟩, (fun _ h_ => mb_X7_row_wsX70 h_)⟩⟩) (by decide +kernel)
theorem mx_X7_row_28 : Cond.methodLink RX7 81 yX7_foundNothing ∈ wsX7_row := mb_X7_row_wsX7_row_r2 (List.mem_of_getElem? (i := 3) rfl)
theorem mx_X7_row_29 : Cond.instanceMethod yX7_foundNothing ∈ wsX7_row := mb_X7_row_wsX7_row_r2 (List.mem_of_getElem? (i := 4) rfl)
theorem mx_X7_row_30 : Cond.selects RX7 yX7_foundNothing yX7_foundNothing ∈ wsX7_row := mb_X7_row_wsX7_row_r2 (List.mem_of_getElem? (i := 5) rfl)
theorem gX7_row_X7_foundNothing : GoodIn wsX7_row (wsV RX7 81 RX7 yX7_foundNothing wsX7_foundNothing) := goodIn_app (goodIn_sub (List.forall_mem_cons.mpr ⟨mx_X7_row_28, List.forall_mem_cons.mpr ⟨mx_X7_row_29, List.forall_mem_cons.mpr ⟨mx_X7_row_30, List.forall_mem_cons.mpr ⟨mx_X7_row_13, fun _ h_ => absurd h_ List.not_mem_nil⟩⟩⟩⟩) (by decide +kernel)) ggX7_row_X7_foundNothing
theorem mb_X7_set_wsX7_set_r1 {w : Cond} (h : w ∈ wsX7_set_r1) : w ∈ wsX7_set := by unfold wsX7_set; exact List.mem_cons_of_mem _ (List.mem_append_left _ (List.mem_append_left _ (List.mem_append_left _ (h))))
theorem mx_X7_set_10 : Cond.code yX5_findingOf cX5_findingOf 4 (some .int) ∈ wsX7_set := mb_X7_set_wsX7_set_r1 (List.mem_of_getElem? (i := 9) rfl)
theorem mx_X7_set_11 : Cond.methodLink RX5 29 yX5_isMissing ∈ wsX7_set := mb_X7_set_wsX7_set_r1 (List.mem_of_getElem? (i := 10) rfl)
theorem mx_X7_set_12 : Cond.instanceMethod yX5_isMissing ∈ wsX7_set := mb_X7_set_wsX7_set_r1 (List.mem_of_getElem? (i := 11) rfl)
theorem mx_X7_set_13 : Cond.selects RX5 yX5_isMissing yX5_isMissing ∈ wsX7_set := mb_X7_set_wsX7_set_r1 (List.mem_of_getElem? (i := 12) rfl)
theorem mx_X7_set_5 : Cond.initialized RX5 ∈ wsX7_set := mb_X7_set_wsX7_set_r1 (List.mem_of_getElem? (i := 4) rfl)
theorem mx_X7_set_14 : Cond.code yX5_isMissing cX5_isMissing 2 (some .boolean) ∈ wsX7_set := mb_X7_set_wsX7_set_r1 (List.mem_of_getElem? (i := 13) rfl)
theorem mx_X7_set_15 : Cond.fieldLink RX5 16 "MillTalk$Rows" "lanes" "[I" ∈ wsX7_set := mb_X7_set_wsX7_set_r1 (List.mem_of_getElem? (i := 14) rfl)
theorem mx_X7_set_16 : Cond.methodLink RX5 33 yX5_hasPlaces ∈ wsX7_set := mb_X7_set_wsX7_set_r1 (List.mem_of_getElem? (i := 15) rfl)
theorem mx_X7_set_17 : Cond.instanceMethod yX5_hasPlaces ∈ wsX7_set := mb_X7_set_wsX7_set_r1 (List.mem_of_getElem? (i := 16) rfl)
theorem mx_X7_set_18 : Cond.selects RX5 yX5_hasPlaces yX5_hasPlaces ∈ wsX7_set := mb_X7_set_wsX7_set_r1 (List.mem_of_getElem? (i := 17) rfl)
theorem mx_X7_set_19 : Cond.code yX5_hasPlaces cX5_hasPlaces 4 (some .boolean) ∈ wsX7_set := mb_X7_set_wsX7_set_r1 (List.mem_of_getElem? (i := 18) rfl)
theorem mx_X7_set_20 : Cond.fieldLink RX5 20 "MillTalk$Rows" "lengths" "[I" ∈ wsX7_set := mb_X7_set_wsX7_set_r1 (List.mem_of_getElem? (i := 19) rfl)
theorem mb_X7_set_wsX50 {w : Cond} (h : w ∈ wsX50) : w ∈ wsX7_set := by unfold wsX7_set; exact List.mem_cons_of_mem _ (List.mem_append_right _ (h))
theorem ggX7_set_X5_findingOf : GoodIn wsX7_set wsX5_findingOf := goodIn_sub (by unfold wsX5_findingOf; exact List.forall_mem_cons.mpr ⟨mx_X7_set_10, List.forall_mem_append.mpr ⟨List.forall_mem_cons.mpr ⟨mx_X7_set_11, List.forall_mem_cons.mpr ⟨mx_X7_set_12, List.forall_mem_cons.mpr ⟨mx_X7_set_13, List.forall_mem_cons.mpr ⟨mx_X7_set_5, List.forall_mem_cons.mpr ⟨mx_X7_set_14, List.forall_mem_cons.mpr ⟨mx_X7_set_15, List.forall_mem_cons.mpr ⟨mx_X7_set_16, List.forall_mem_cons.mpr ⟨mx_X7_set_17, List.forall_mem_cons.mpr ⟨mx_X7_set_18, List.forall_mem_cons.mpr ⟨mx_X7_set_19, List.forall_mem_cons.mpr ⟨mx_X7_set_20, fun _ h_ => absurd h_ List.not_mem_nil⟩⟩⟩⟩⟩⟩⟩⟩⟩⟩⟩, (fun _ h_ => mb_X7_set_wsX50 h_)⟩⟩) (by decide +kernel)
theorem mx_X7_set_7 : Cond.methodLink RX7 84 yX5_findingOf ∈ wsX7_set := mb_X7_set_wsX7_set_r1 (List.mem_of_getElem? (i := 6) rfl)
theorem mx_X7_set_8 : Cond.instanceMethod yX5_findingOf ∈ wsX7_set := mb_X7_set_wsX7_set_r1 (List.mem_of_getElem? (i := 7) rfl)
theorem mx_X7_set_9 : Cond.selects RX5 yX5_findingOf yX5_findingOf ∈ wsX7_set := mb_X7_set_wsX7_set_r1 (List.mem_of_getElem? (i := 8) rfl)
theorem gX7_set_X5_findingOf : GoodIn wsX7_set (wsV RX7 84 RX5 yX5_findingOf wsX5_findingOf) := goodIn_app (goodIn_sub (List.forall_mem_cons.mpr ⟨mx_X7_set_7, List.forall_mem_cons.mpr ⟨mx_X7_set_8, List.forall_mem_cons.mpr ⟨mx_X7_set_9, List.forall_mem_cons.mpr ⟨mx_X7_set_5, fun _ h_ => absurd h_ List.not_mem_nil⟩⟩⟩⟩) (by decide +kernel)) ggX7_set_X5_findingOf
theorem mx_X7_set_6 : Cond.code yX5_isRow cX5_isRow 1 (some .boolean) ∈ wsX7_set := mb_X7_set_wsX7_set_r1 (List.mem_of_getElem? (i := 5) rfl)
theorem ggX7_set_X5_isRow : GoodIn wsX7_set wsX5_isRow := goodIn_sub (by unfold wsX5_isRow; exact List.forall_mem_cons.mpr ⟨mx_X7_set_6, fun _ h_ => absurd h_ List.not_mem_nil⟩) (by decide +kernel)
set_option maxRecDepth 20000 in
theorem gX7_set_X5_isRow : GoodIn wsX7_set (va_wsS RX7 65 yX5_isRow wsX5_isRow) := goodIn_app (goodIn_of _ (by decide +kernel)) ggX7_set_X5_isRow
theorem mb_X7_set_wsX7_set_r2 {w : Cond} (h : w ∈ wsX7_set_r2) : w ∈ wsX7_set := by unfold wsX7_set; exact List.mem_cons_of_mem _ (List.mem_append_left _ (List.mem_append_left _ (List.mem_append_right _ (h))))
theorem mx_X7_set_31 : Cond.code yX5_put cX5_put 5 (some .int) ∈ wsX7_set := mb_X7_set_wsX7_set_r2 (List.mem_of_getElem? (i := 6) rfl)
theorem mx_X7_set_32 : Cond.fieldLink RX5 13 "MillTalk$Rows" "items" "[[I" ∈ wsX7_set := mb_X7_set_wsX7_set_r2 (List.mem_of_getElem? (i := 7) rfl)
theorem ggX7_set_X5_put : GoodIn wsX7_set wsX5_put := goodIn_sub (by unfold wsX5_put; exact List.forall_mem_cons.mpr ⟨mx_X7_set_31, List.forall_mem_append.mpr ⟨List.forall_mem_cons.mpr ⟨mx_X7_set_15, List.forall_mem_cons.mpr ⟨mx_X7_set_32, fun _ h_ => absurd h_ List.not_mem_nil⟩⟩, (fun _ h_ => mb_X7_set_wsX50 h_)⟩⟩) (by decide +kernel)
theorem mx_X7_set_28 : Cond.methodLink RX7 88 yX5_put ∈ wsX7_set := mb_X7_set_wsX7_set_r2 (List.mem_of_getElem? (i := 3) rfl)
theorem mx_X7_set_29 : Cond.instanceMethod yX5_put ∈ wsX7_set := mb_X7_set_wsX7_set_r2 (List.mem_of_getElem? (i := 4) rfl)
theorem mx_X7_set_30 : Cond.selects RX5 yX5_put yX5_put ∈ wsX7_set := mb_X7_set_wsX7_set_r2 (List.mem_of_getElem? (i := 5) rfl)
theorem gX7_set_X5_put : GoodIn wsX7_set (wsV RX7 88 RX5 yX5_put wsX5_put) := goodIn_app (goodIn_sub (List.forall_mem_cons.mpr ⟨mx_X7_set_28, List.forall_mem_cons.mpr ⟨mx_X7_set_29, List.forall_mem_cons.mpr ⟨mx_X7_set_30, List.forall_mem_cons.mpr ⟨mx_X7_set_5, fun _ h_ => absurd h_ List.not_mem_nil⟩⟩⟩⟩) (by decide +kernel)) ggX7_set_X5_put
theorem mx_X7_set_25 : Cond.code yX7_found cX7_found 2 (some .int) ∈ wsX7_set := mb_X7_set_wsX7_set_r2 (List.mem_of_getElem? (i := 0) rfl)
theorem mx_X7_set_26 : Cond.fieldLink RX7 323 "MillTalk" "latestFinding" "I" ∈ wsX7_set := mb_X7_set_wsX7_set_r2 (List.mem_of_getElem? (i := 1) rfl)
theorem mx_X7_set_27 : Cond.constant RX7 326 (-1000010) ∈ wsX7_set := mb_X7_set_wsX7_set_r2 (List.mem_of_getElem? (i := 2) rfl)
theorem mb_X7_set_wsX70 {w : Cond} (h : w ∈ wsX70) : w ∈ wsX7_set := by unfold wsX7_set; exact List.mem_cons_of_mem _ (List.mem_append_left _ (List.mem_append_right _ (h)))
theorem ggX7_set_X7_found : GoodIn wsX7_set wsX7_found := goodIn_sub (by unfold wsX7_found; exact List.forall_mem_cons.mpr ⟨mx_X7_set_25, List.forall_mem_append.mpr ⟨List.forall_mem_cons.mpr ⟨mx_X7_set_26, List.forall_mem_cons.mpr ⟨mx_X7_set_27, fun _ h_ => absurd h_ List.not_mem_nil⟩⟩, (fun _ h_ => mb_X7_set_wsX70 h_)⟩⟩) (by decide +kernel)
theorem mx_X7_set_21 : Cond.methodLink RX7 73 yX7_found ∈ wsX7_set := mb_X7_set_wsX7_set_r1 (List.mem_of_getElem? (i := 20) rfl)
theorem mx_X7_set_22 : Cond.instanceMethod yX7_found ∈ wsX7_set := mb_X7_set_wsX7_set_r1 (List.mem_of_getElem? (i := 21) rfl)
theorem mx_X7_set_23 : Cond.selects RX7 yX7_found yX7_found ∈ wsX7_set := mb_X7_set_wsX7_set_r1 (List.mem_of_getElem? (i := 22) rfl)
theorem mx_X7_set_24 : Cond.initialized RX7 ∈ wsX7_set := mb_X7_set_wsX7_set_r1 (List.mem_of_getElem? (i := 23) rfl)
theorem gX7_set_X7_found : GoodIn wsX7_set (wsV RX7 73 RX7 yX7_found wsX7_found) := goodIn_app (goodIn_sub (List.forall_mem_cons.mpr ⟨mx_X7_set_21, List.forall_mem_cons.mpr ⟨mx_X7_set_22, List.forall_mem_cons.mpr ⟨mx_X7_set_23, List.forall_mem_cons.mpr ⟨mx_X7_set_24, fun _ h_ => absurd h_ List.not_mem_nil⟩⟩⟩⟩) (by decide +kernel)) ggX7_set_X7_found
theorem mx_X7_set_36 : Cond.code yX7_foundNothing cX7_foundNothing 2 (some .int) ∈ wsX7_set := mb_X7_set_wsX7_set_r2 (List.mem_of_getElem? (i := 11) rfl)
theorem ggX7_set_X7_foundNothing : GoodIn wsX7_set wsX7_foundNothing := goodIn_sub (by unfold wsX7_foundNothing; exact List.forall_mem_cons.mpr ⟨mx_X7_set_36, List.forall_mem_append.mpr ⟨List.forall_mem_cons.mpr ⟨mx_X7_set_26, fun _ h_ => absurd h_ List.not_mem_nil⟩, (fun _ h_ => mb_X7_set_wsX70 h_)⟩⟩) (by decide +kernel)
theorem mx_X7_set_33 : Cond.methodLink RX7 81 yX7_foundNothing ∈ wsX7_set := mb_X7_set_wsX7_set_r2 (List.mem_of_getElem? (i := 8) rfl)
theorem mx_X7_set_34 : Cond.instanceMethod yX7_foundNothing ∈ wsX7_set := mb_X7_set_wsX7_set_r2 (List.mem_of_getElem? (i := 9) rfl)
theorem mx_X7_set_35 : Cond.selects RX7 yX7_foundNothing yX7_foundNothing ∈ wsX7_set := mb_X7_set_wsX7_set_r2 (List.mem_of_getElem? (i := 10) rfl)
theorem gX7_set_X7_foundNothing : GoodIn wsX7_set (wsV RX7 81 RX7 yX7_foundNothing wsX7_foundNothing) := goodIn_app (goodIn_sub (List.forall_mem_cons.mpr ⟨mx_X7_set_33, List.forall_mem_cons.mpr ⟨mx_X7_set_34, List.forall_mem_cons.mpr ⟨mx_X7_set_35, List.forall_mem_cons.mpr ⟨mx_X7_set_24, fun _ h_ => absurd h_ List.not_mem_nil⟩⟩⟩⟩) (by decide +kernel)) ggX7_set_X7_foundNothing
set_option maxRecDepth 20000 in
theorem i_X4_comesTo_X4 : ∀ w ∈ u_ws RX4 TX4 3, w ∈ wsX4_comesTo := by decide +kernel
set_option maxRecDepth 20000 in
theorem i_X7_as_X3 : ∀ w ∈ u_ws RX3 TX3 13, w ∈ wsX7_as := by decide +kernel
set_option maxRecDepth 20000 in
theorem i_X7_as_X7 : ∀ w ∈ u_ws RX7 TX7 11, w ∈ wsX7_as := by decide +kernel
set_option maxRecDepth 20000 in
theorem i_X7_ask_X7 : ∀ w ∈ u_ws RX7 TX7 11, w ∈ wsX7_ask := by decide +kernel
set_option maxRecDepth 20000 in
theorem i_X7_byTurns_X7 : ∀ w ∈ u_ws RX7 TX7 11, w ∈ wsX7_byTurns := by decide +kernel
set_option maxRecDepth 20000 in
theorem i_X7_caps_X2 : ∀ w ∈ u_ws RX2 TX2 6, w ∈ wsX7_caps := by decide +kernel
set_option maxRecDepth 20000 in
theorem i_X7_caps_X7 : ∀ w ∈ u_ws RX7 TX7 11, w ∈ wsX7_caps := by decide +kernel
set_option maxRecDepth 20000 in
theorem i_X7_copy_X7 : ∀ w ∈ u_ws RX7 TX7 11, w ∈ wsX7_copy := by decide +kernel
set_option maxRecDepth 20000 in
theorem i_X7_drop_X7 : ∀ w ∈ u_ws RX7 TX7 11, w ∈ wsX7_drop := by decide +kernel
set_option maxRecDepth 20000 in
theorem i_X7_feed_X7 : ∀ w ∈ u_ws RX7 TX7 11, w ∈ wsX7_feed := by decide +kernel
set_option maxRecDepth 20000 in
theorem i_X7_had_X2 : ∀ w ∈ u_ws RX2 TX2 6, w ∈ wsX7_had := by decide +kernel
set_option maxRecDepth 20000 in
theorem i_X7_had_X3 : ∀ w ∈ u_ws RX3 TX3 13, w ∈ wsX7_had := by decide +kernel
set_option maxRecDepth 20000 in
theorem i_X7_had_X7 : ∀ w ∈ u_ws RX7 TX7 11, w ∈ wsX7_had := by decide +kernel
set_option maxRecDepth 20000 in
theorem i_X7_level_X3 : ∀ w ∈ u_ws RX3 TX3 13, w ∈ wsX7_level := by decide +kernel
set_option maxRecDepth 20000 in
theorem i_X7_level_X6 : ∀ w ∈ u_ws RX6 TX6 6, w ∈ wsX7_level := by decide +kernel
set_option maxRecDepth 20000 in
theorem i_X7_level_X7 : ∀ w ∈ u_ws RX7 TX7 11, w ∈ wsX7_level := by decide +kernel
set_option maxRecDepth 20000 in
theorem i_X7_row_X7 : ∀ w ∈ u_ws RX7 TX7 11, w ∈ wsX7_row := by decide +kernel
set_option maxRecDepth 20000 in
theorem i_X7_set_X7 : ∀ w ∈ u_ws RX7 TX7 11, w ∈ wsX7_set := by decide +kernel
