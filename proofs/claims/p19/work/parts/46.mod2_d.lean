theorem nI_inj2 {a b : Nat} (h : nI a = nI b) (ha : a < 2 ^ 31) (hb : b < 2 ^ 31) : a = b := (nI_eq ha hb).mp h
theorem cp_0 {F g src : Nat → Int32} {i : Nat} {v : Int32} (h : ∀ j : Nat, j < i → F j = src j) (hi : i < 2 ^ 31) (e : v = src (nI i).toNatClampNeg) (hg : upd F (nI i).toNatClampNeg v = g) : ∀ j : Nat, j < i + 1 → g j = src j := by
  intro j hj
  rw [nI_clamp hi] at e hg
  rw [← hg]
  unfold upd
  split
  · rename_i q
    rw [q, e]
  · exact h j (by omega)
theorem cp_d {F g src : Nat → Int32} {i a : Nat} {v : Int32} (h : ∀ j : Nat, j < i → F (a + j) = src j) (hi : a + i < 2 ^ 31) (e : v = src (nI i).toNatClampNeg) (hg : upd F (nI (a + i)).toNatClampNeg v = g) : ∀ j : Nat, j < i + 1 → g (a + j) = src j := by
  intro j hj
  rw [nI_clamp (by omega)] at e
  rw [nI_clamp hi] at hg
  rw [← hg]
  unfold upd
  split
  · rename_i q
    have q2 : j = i := by omega
    rw [q2, e]
  · exact h j (by omega)
theorem cp_do {F g old : Nat → Int32} {i a n : Nat} {v : Int32} (h : ∀ j : Nat, j < a ∨ a + n ≤ j → F j = old j) (hin : i < n) (hi : a + i < 2 ^ 31) (hg : upd F (nI (a + i)).toNatClampNeg v = g) : ∀ j : Nat, j < a ∨ a + n ≤ j → g j = old j := by
  intro j hj
  rw [nI_clamp hi] at hg
  rw [← hg]
  unfold upd
  rw [if_neg (by omega)]
  exact h j hj
theorem cp_s {F g src : Nat → Int32} {i a : Nat} {v : Int32} (h : ∀ j : Nat, j < i → F j = src (a + j)) (hi : a + i < 2 ^ 31) (e : v = src (nI (a + i)).toNatClampNeg) (hg : upd F (nI i).toNatClampNeg v = g) : ∀ j : Nat, j < i + 1 → g j = src (a + j) := by
  intro j hj
  rw [nI_clamp hi] at e
  rw [nI_clamp (by omega)] at hg
  rw [← hg]
  unfold upd
  split
  · rename_i q
    rw [q, e]
  · exact h j (by omega)
/-- the shift: below i the item 38 on, from i on as it was -/
theorem cp_sh {F g old : Nat → Int32} {i : Nat} {v : Int32} (h : (∀ j : Nat, j < i → F j = old (j + 38)) ∧ ∀ j : Nat, i ≤ j → F j = old j) (hi : i + 38 < 2 ^ 31) (e : v = F (nI (i + 38)).toNatClampNeg) (hg : upd F (nI i).toNatClampNeg v = g) : (∀ j : Nat, j < i + 1 → g j = old (j + 38)) ∧ ∀ j : Nat, i + 1 ≤ j → g j = old j := by
  rw [nI_clamp hi] at e
  rw [nI_clamp (by omega)] at hg
  constructor
  · intro j hj
    rw [← hg]
    unfold upd
    split
    · rename_i q
      rw [q, e, h.2 _ (by omega)]
    · exact h.1 j (by omega)
  · intro j hj
    rw [← hg]
    unfold upd
    rw [if_neg (by omega)]
    exact h.2 j (by omega)
/-- a level that was kept: told, its hour at most 999 -/
noncomputable def okK (f : Nat → Int32) : Prop := ∃ w k h : Nat, okM f w k h ∧ 1 ≤ k ∧ h ≤ 999
theorem okK_eq {f g : Nat → Int32} (hK : okK f) (e : ∀ j : Nat, j < 38 → g j = f j) : okK g := by
  obtain ⟨w, k, h, h1, h2, h3⟩ := hK
  exact ⟨w, k, h, okM_eq h1 e, h2, h3⟩
/-- the acts: n levels of 38 numbers one behind another -/
noncomputable def okA (f : Nat → Int32) (n : Nat) : Prop := ∀ r : Nat, r < n → okK (fun j => f (38 * r + j))
theorem okA_sh {f g : Nat → Int32} {n : Nat} (h : okA f 24) (e : (∀ j : Nat, j < 874 → g j = f (j + 38)) ∧ ∀ j : Nat, 874 ≤ j → g j = f j) (hn : n = 24) : okA g (n - 1) := by
  intro r hr
  refine okK_eq (h (r + 1) (by omega)) (fun j hj => ?_)
  show g (38 * r + j) = f (38 * (r + 1) + j)
  rw [e.1 _ (by omega)]
  congr 1
  omega
theorem okA_push {f g src : Nat → Int32} {n : Nat} (h : okA f n) (hs : okK src) (e1 : ∀ j : Nat, j < 38 → g (38 * n + j) = src j) (e2 : ∀ j : Nat, j < 38 * n ∨ 38 * n + 38 ≤ j → g j = f j) : okA g (n + 1) := by
  intro r hr
  by_cases q : r = n
  · subst q
    exact okK_eq hs e1
  · refine okK_eq (h r (by omega)) (fun j hj => ?_)
    exact e2 _ (by omega)
theorem okA_0 (f : Nat → Int32) : okA f 0 := fun r hr => absurd hr (Nat.not_lt_zero r)
theorem okA_le {f : Nat → Int32} {n m : Nat} (h : okA f n) (hm : m ≤ n) : okA f m := fun r hr => h r (by omega)
/-! foretold, on the other side -/
section FM
variable {fs F : RF} {w9 k9 h9 j t i : Nat}
theorem mGoM (hM : okM fs w9 k9 h9) (hw1 : 1 ≤ w9) (t : Nat) : mGo t (m38 fs) = m38 (mGo t fs) := (mGo_c hM.1 hM.2.2.2.1 hw1 hM.2.1 hM.2.2.2.2.1 t).symm
theorem tlR_c {q : RF} {w : Int32} (hj : j < 6) : tlR (m38 q) j w = tlR q j w := by
  unfold tlR
  rw [m38_at (by omega), m38_at (by omega), m38_at (by omega)]
theorem ahdM_n1 {a0 a1 a2 : Int32} (h4 : fs 4 = nI k9) (f : ¬ sB (nI k9) a0) : (-1000001 : Int32) = a_ahd (m38 fs) a0 a1 a2 := ahd_n (Or.inl (fun q => f (by rw [← h4]; exact q)))
theorem ahdM {w : Int32} (hM : okM fs w9 k9 h9) (hw1 : 1 ≤ w9) (hj : j < k9) (ht : t ≤ 60) (q : ¬ (w < 0 ∨ 2 < w)) (hF : F = mGo t fs) : a_ahd (m38 fs) (nI j) (nI t) w = tlR F j w := by
  have h6 := hM.2.2.2.2.1
  rw [ahd_g (r := m38 fs) (k := k9) hM.2.1 h6 hj (by omega) q, mGoM hM hw1, tlR_c (by omega), hF]
theorem ahdM_0a {v : Int32} (hM : okM fs w9 k9 h9) (hw1 : 1 ≤ w9) (hj : j < k9) (ht : t ≤ 60) (q : ¬ (nI i < 0 ∨ 2 < nI i)) (hF : F = mGo t fs) (h0 : i = 0) (e : v = F (26 + j)) (c : ¬ v = 0) : (-1000000 : Int32) = a_ahd (m38 fs) (nI j) (nI t) (nI i) := by
  rw [ahdM hM hw1 hj ht q hF, h0]
  have z : ¬ F (26 + j) = 0 := by rw [← e]; exact c
  exact ((if_pos (by decide)).trans (if_neg z)).symm
theorem ahdM_0b {v u : Int32} (hM : okM fs w9 k9 h9) (hw1 : 1 ≤ w9) (hj : j < k9) (ht : t ≤ 60) (q : ¬ (nI i < 0 ∨ 2 < nI i)) (hF : F = mGo t fs) (h0 : i = 0) (e : v = F (26 + j)) (c : v = 0) (e2 : u = F (20 + j)) : u = a_ahd (m38 fs) (nI j) (nI t) (nI i) := by
  rw [ahdM hM hw1 hj ht q hF, h0, e2]
  have z : F (26 + j) = 0 := by rw [← e]; exact c
  exact ((if_pos (by decide)).trans (if_pos z)).symm
theorem ahdM_1 {v : Int32} (hM : okM fs w9 k9 h9) (hw1 : 1 ≤ w9) (hj : j < k9) (ht : t ≤ 60) (q : ¬ (nI i < 0 ∨ 2 < nI i)) (hF : F = mGo t fs) (h0 : i = 1) (e : v = F (26 + j)) : v = a_ahd (m38 fs) (nI j) (nI t) (nI i) := by
  rw [ahdM hM hw1 hj ht q hF, h0, e]
  exact ((if_neg (by decide)).trans (if_pos (by decide))).symm
theorem ahdM_2 {v : Int32} (hM : okM fs w9 k9 h9) (hw1 : 1 ≤ w9) (hj : j < k9) (ht : t ≤ 60) (q : ¬ (nI i < 0 ∨ 2 < nI i)) (hF : F = mGo t fs) (h0 : i = 2) (e : v = F (32 + j)) : v = a_ahd (m38 fs) (nI j) (nI t) (nI i) := by
  rw [ahdM hM hw1 hj ht q hF, h0, e]
  exact ((if_neg (by decide)).trans (if_neg (by decide))).symm
theorem mealM_0 {n : Int32} (h0 : fs 0 = 0) : (-1000002 : Int32) = a_meal (m38 fs) n := by
  have z : m38 fs 0 = 0 := h0
  unfold a_meal
  rw [if_pos z]
theorem mealM {r : Int32} (hM : okM fs w9 k9 h9) (hw1 : 1 ≤ w9) (h0 : ¬ fs 0 = 0) (ht : t ≤ 60) (h : r = mGo t fs 7) : r = a_meal (m38 fs) (nI t) := by
  have z : ¬ m38 fs 0 = 0 := h0
  have g : ¬ (nI t < 0 ∨ 60 < nI t) := fun q => q.elim (nI_pos (by omega)) (n60 (by omega))
  have e2 : (nI t).toNatClampNeg = t := nI_clamp (by omega)
  unfold a_meal
  rw [if_neg z, if_neg g, e2, mGoM hM hw1, mm7]
  exact h
theorem whenM_n1 {a0 a1 : Int32} (h4 : fs 4 = nI k9) (f : ¬ sB (nI k9) a0) : (-1000001 : Int32) = a_when (m38 fs) a0 a1 := when_n (Or.inl (fun q => f (by rw [← h4]; exact q)))
theorem mGo26 (hM : okM fs w9 k9 h9) (hw1 : 1 ≤ w9) (hj : j < k9) (t : Nat) : mGo t (m38 fs) (26 + j) = mGo t fs (26 + j) := by
  have h6 := hM.2.2.2.2.1
  rw [mGoM hM hw1, m38_at (by omega)]
theorem whenM_hit {v w : Int32} (hM : okM fs w9 k9 h9) (hw1 : 1 ≤ w9) (hj : j < k9) (q : ¬ (w < 1 ∨ 2 < w)) (hi : i ≤ 60) (hF : F = mGo i fs) (hn : ∀ t : Nat, t < i → ¬ mGo t fs (26 + j) = w) (e : v = F (26 + j)) (c : v = w) : nI i = a_when (m38 fs) (nI j) w :=
  when_hit (r := m38 fs) (k := k9) hM.2.1 hM.2.2.2.2.1 hj q hi (fun t ht => by rw [mGo26 hM hw1 hj]; exact hn t ht) (by rw [mGo26 hM hw1 hj, ← hF, ← e]; exact c)
theorem whenM_no {v w : Int32} (hM : okM fs w9 k9 h9) (hw1 : 1 ≤ w9) (hj : j < k9) (q : ¬ (w < 1 ∨ 2 < w)) (hF : F = mGo 60 fs) (hn : ∀ t : Nat, t < 60 → ¬ mGo t fs (26 + j) = w) (e : v = F (26 + j)) (c : ¬ v = w) : (-1000000 : Int32) = a_when (m38 fs) (nI j) w :=
  when_no (r := m38 fs) (k := k9) hM.2.1 hM.2.2.2.2.1 hj q (fun t ht => by
    rw [mGo26 hM hw1 hj]
    by_cases z : t = 60
    · rw [z, ← hF, ← e]
      exact c
    · exact hn t (by omega))
theorem siM_m {W g : RF} {T c : Nat} {r : Int32} (hMl : okM W w9 k9 h9) (hw1 : 1 ≤ w9) (e : m38 W = m38 fs) (hu : g = upd W 1 (nI c)) (h : r = mGo T g 7) : r = mGo T (upd (m38 fs) 1 (nI c)) 7 := by
  have h3 : g 3 = nI w9 := by
    rw [hu, pk_un (by decide)]
    exact hMl.1
  have h4 : g 4 = nI k9 := by
    rw [hu, pk_un (by decide)]
    exact hMl.2.1
  have e1 : upd (m38 fs) 1 (nI c) = m38 g := by rw [hu, m38_up (by decide), e]
  rw [e1, ← mGo_c h3 hMl.2.2.2.1 hw1 h4 hMl.2.2.2.2.1 T, mm7]
  exact h
theorem siM_e {fa : RF} {T cq : Nat} {b m w : Int32} (h01 : ¬ fs 0 = 0) (hf : ∀ j : Nat, j < 38 → fa j = fs j) (h15 : cq ≤ 15) (hq : fa 0 = nI cq) (q2 : ¬ (nI T < 1 ∨ 30 < nI T)) (hT : T ≤ 30) (hw : ¬ (w < 0 ∨ 1 < w)) (h : (b, m) = stF (m38 fs) T cq) : (¬ w = 0 → m = a_site (m38 fs) (nI T) w) ∧ (w = 0 → b = a_site (m38 fs) (nI T) w) := by
  have e0 : fs 0 = nI cq := (hf 0 (by decide)).symm.trans hq
  have h1 : 1 ≤ cq := by
    rcases Nat.eq_zero_or_pos cq with z | z
    · exact absurd (by rw [e0, z]; rfl) h01
    · exact z
  rw [site_g (r := m38 fs) (c := cq) e0 h1 h15 (fun q => q2 (Or.inl q)) hT hw, ← h]
  exact ⟨fun q => (if_neg q).symm, fun q => (if_pos q).symm⟩
end FM
/-! shares, sacks, on the other side -/
theorem th_bit {h : RF} {m : Int32} : ∀ n : Nat, n ≤ 15 → ∃ z : Nat, z < 2 ^ n ∧ thR h m n = nI z ∧ ∀ i : Nat, i < n → (z.testBit i = true ↔ h i = m)
  | 0, _ => ⟨0, by decide, rfl, fun i hi => absurd hi (Nat.not_lt_zero i)⟩
  | n + 1, hn => by
    obtain ⟨z, hz, e, hb⟩ := th_bit (h := h) (m := m) n (by omega)
    have h2 : 2 ^ (n + 1) = 2 ^ n * 2 := Nat.pow_succ 2 n
    have h3 : 0 < 2 ^ n := Nat.two_pow_pos n
    have h4 : z.testBit n = false := Nat.testBit_lt_two_pow hz
    show ∃ z : Nat, z < 2 ^ (n + 1) ∧ thR h m n ||| (if h n = m then (1 : Int32) <<< (nI n &&& 31) else 0) = nI z ∧ ∀ i : Nat, i < n + 1 → (z.testBit i = true ↔ h i = m)
    rw [e]
    by_cases q : h n = m
    · rw [if_pos q, shlN n (by omega)]
      obtain ⟨o1, o2⟩ := or_nat (a := z) (b := 2 ^ n) (n := n + 1) (by omega) (by omega) (by omega)
      refine ⟨_, o1, o2, fun i hi => ?_⟩
      rw [Nat.testBit_or, Nat.testBit_two_pow]
      by_cases t : i = n
      · subst t
        rw [h4, decide_eq_true (Eq.refl i)]
        exact ⟨fun _ => q, fun _ => rfl⟩
      · rw [decide_eq_false (fun y => t y.symm), Bool.or_false]
        exact hb i (by omega)
    · rw [if_neg q]
      refine ⟨z, by omega, Int32.or_zero, fun i hi => ?_⟩
      by_cases t : i = n
      · subst t
        rw [h4]
        exact ⟨fun y => absurd y (by decide), fun y => absurd y q⟩
      · exact hb i (by omega)
set_option maxRecDepth 100000 in
theorem has64 : ∀ z : Nat, z < 64 → ∀ i : Nat, i < 6 → (hasB (nI z) (nI i) ↔ z.testBit i = true) := by
  unfold hasB
  decide +kernel
theorem has_th {h : RF} {m : Int32} {k z i : Nat} (hk : k ≤ 6) (hz : z ≤ 63) (e : nI z = thR h m k) (hi : i < k) : hasB (nI z) (nI i) ↔ h i = m := by
  obtain ⟨y, hy, e1, hb⟩ := th_bit (h := h) (m := m) k (by omega)
  have h1 : 2 ^ k ≤ 2 ^ 6 := Nat.pow_le_pow_right (by decide) hk
  have ez : z = y := (nI_eq (by omega) (by omega)).mp (e.trans e1)
  rw [ez, has64 y (by omega) i (by omega)]
  exact hb i hi
theorem nI_k {j k : Nat} {x : Int32} (hx : nI k = x) (h : j = k) : nI j = x := by rw [h, hx]
theorem nI_nk {j k : Nat} {x : Int32} (hx : nI k = x) (h : ¬ j = k) (hj : j < 2 ^ 31) (hk : k < 2 ^ 31) : ¬ nI j = x := fun q => h (nI_inj (q.trans hx.symm) hj hk)
section SKM
variable {fs : RF} {w9 k9 h9 j n i z A : Nat} {a b : Int32}
theorem ld_M (hM : okM fs w9 k9 h9) {x : Int32} : ldS (m38 fs) x = ldR (fun s => fs (32 + s)) x k9 := by
  have h6 := hM.2.2.2.2.1
  have e : (m38 fs 4).toNatClampNeg = k9 := by
    have e1 : m38 fs 4 = nI k9 := hM.2.1
    rw [e1, nI_clamp (by omega)]
  unfold ldS
  rw [e]
  exact ldR_c k9 (fun i hi => m38_at (by omega))
theorem skM_e {v w : Nat} {t : Int32} (hM : okM fs w9 k9 h9) (h0 : ¬ fs 0 = 0) (q1 : ¬ (nI v < 0 ∨ 120 < nI v)) (q2 : ¬ (nI w < 0 ∨ 2 < nI w)) (hz : z ≤ 63) (e : nI z = thR (fun s => fs (26 + s)) 0 k9) (h : skF (m38 fs) (nI v) (nI z) (z + 1) = (a, b, t)) : a_sack (m38 fs) (nI v) (nI w) = skV (nI w) (a, b, t) := by
  have z0 : ¬ m38 fs 0 = 0 := h0
  rw [sack_g (z := z) z0 (fun q => q.elim q1 q2) ((th_M hM).trans e.symm) (by omega), h]
theorem shM_n1 {a0 a1 : Int32} (h4 : fs 4 = nI k9) (f : ¬ sB (nI k9) a0) : (-1000001 : Int32) = a_shr (m38 fs) a0 a1 := shr_n (Or.inl (fun q => f (by rw [← h4]; exact q)))
theorem shM_h (hM : okM fs w9 k9 h9) (hz : z ≤ 63) (e : nI z = thR (fun s => fs (26 + s)) 0 k9) (hi : i < k9) : hasB (nI z) (nI i) ↔ m38 fs (26 + i) = 0 := by
  have h6 := hM.2.2.2.2.1
  rw [m38_at (by omega)]
  exact has_th h6 hz e hi
theorem shM_A (hM : okM fs w9 k9 h9) (e : nI z = thR (fun s => fs (26 + s)) 0 k9) (e2 : nI A = ldR (fun s => fs (32 + s)) (nI z) k9) : shA (m38 fs) = nI A := by
  unfold shA
  rw [th_M hM, ← e, ld_M hM, ← e2]
theorem shM_z (hM : okM fs w9 k9 h9) (hj : j < k9) (q : ¬ (nI n < 0 ∨ 999 < nI n)) (hz : z ≤ 63) (e : nI z = thR (fun s => fs (26 + s)) 0 k9) (f : ¬ hasB (nI z) (nI j)) : (0 : Int32) = a_shr (m38 fs) (nI j) (nI n) :=
  shr_z (r := m38 fs) (k := k9) hM.2.1 hM.2.2.2.2.1 hj (fun y => q (Or.inl y)) (i_nlt.mp (fun y => q (Or.inr y))) (Or.inl (fun y => f ((shM_h hM hz e hj).mpr y)))
theorem shM_n {s A u t : Int32} {x : Int32} (hM : okM fs w9 k9 h9) (hi : i < k9) (hz : z ≤ 63) (e : nI z = thR (fun s => fs (26 + s)) 0 k9) (f : ¬ hasB (nI z) (nI i)) (h : shF (m38 fs) x s A i = (a, b)) (e1 : u = a - 0) (e2 : t = b + 0) : shF (m38 fs) x s A (i + 1) = (u, t) := by
  rw [shF_n (fun y => f ((shM_h hM hz e hi).mpr y)), h, e1, e2, Int32.sub_zero, Int32.add_zero]
theorem shM_y {s A u t x y y2 y3 o : Int32} (hM : okM fs w9 k9 h9) (hi : i < k9) (hz : z ≤ 63) (e : nI z = thR (fun s => fs (26 + s)) 0 k9) (f : hasB (nI z) (nI i)) (h : shF (m38 fs) x s A i = (a, b)) (e1 : y = fs (32 + i)) (e2 : y2 = x * y) (e3 : y3 = y2 / A) (e4 : u = a - y3) (c : (if nI i < s then 1 else 0) = o) (e5 : t = b + o) : shF (m38 fs) x s A (i + 1) = (u, t) := by
  have h6 := hM.2.2.2.2.1
  rw [shF_y ((shM_h hM hz e hi).mp f) h, m38_at (by omega), c, e4, e3, e2, e1, e5]
theorem shM_e {y y2 y3 o q : Int32} (hM : okM fs w9 k9 h9) (hj : j < k9) (q1 : ¬ (nI n < 0 ∨ 999 < nI n)) (hz : z ≤ 63) (e : nI z = thR (fun s => fs (26 + s)) 0 k9) (f : hasB (nI z) (nI j)) (hA : ∀ s : Nat, s < k9 → hasB (nI z) (nI s) → 1 ≤ A) (hA2 : A ≤ 120) (eA : nI A = ldR (fun s => fs (32 + s)) (nI z) k9) (h : shF (m38 fs) (nI n) (nI j) (nI A) k9 = (a, b)) (e1 : y = fs (32 + j)) (e2 : y2 = nI n * y) (e3 : y3 = y2 / nI A) (c : (if b < a then 1 else 0) = o) (e4 : q = y3 + o) : q = a_shr (m38 fs) (nI j) (nI n) := by
  have h6 := hM.2.2.2.2.1
  have p : (0 : Int32) < nI A := nI_lt (a := 0) (hA j hj f) (by omega)
  have eS := shM_A hM e eA
  rw [shr_g (r := m38 fs) (k := k9) hM.2.1 h6 hj (fun y => q1 (Or.inl y)) (i_nlt.mp (fun y => q1 (Or.inr y))) ((shM_h hM hz e hj).mp f) (by rw [eS]; exact p), eS, h, m38_at (by omega), e4, e3, e2, e1, ← c]
  rfl
end SKM
/-! caps tried row by row -/
noncomputable def gtS (c : Int32) (s : RF × Int32) : RF × Int32 := (mH (upd s.1 6 c), s.2 + tnX (s.1 6) c)
noncomputable def gtI (x : Int32) (n : Nat) : Nat → RF × Int32 → RF × Int32
  | 0, s => s
  | i + 1, s => gtS (x >>> (cdn n i &&& 31) &&& 1) (gtI x n i s)
noncomputable def cpF (wa : Int32) (r : RF) (n : Nat) : Nat → B3
  | 0 => (-1, 0, 0)
  | m + 1 => jdX (woB wa (gtI (nI m) n n (r, 0)).1) (nI m) (gtI (nI m) n n (r, 0)).2 (cpF wa r n m)
noncomputable abbrev hdG (s t f : Int32) (q : RF) : Prop := s &&& (thS q 1 ^^^ (-1)) = 0 ∧ (f < 0 ∨ t < f)
noncomputable def hdF (s : Int32) (r : RF) (n : Nat) : Nat → Int32
  | 0 => -1000000
  | m + 1 => if hdG s (gtI (nI m) n n (r, 0)).2 (hdF s r n m) (gtI (nI m) n n (r, 0)).1 then (gtI (nI m) n n (r, 0)).2 else hdF s r n m
theorem gt_st {x v29 v30 v31 v33 t o : Int32} {n i : Nat} {s : RF × Int32} {w g f : RF} (e : gtI x n i s = (w, t)) (e1 : v29 = x >>> (cdn n i &&& 31)) (e2 : v30 = v29 &&& 1) (e3 : v31 = w 6) (c : tnX v31 v30 = o) (e4 : v33 = t + o) (e5 : g = upd w 6 v30) (e6 : f = mH g) : gtI x n (i + 1) s = (f, v33) := by
  show gtS (x >>> (cdn n i &&& 31) &&& 1) (gtI x n i s) = _
  rw [e, ← e1, ← e2]
  show (mH (upd w 6 v30), t + tnX (w 6) v30) = _
  rw [← e3, c, ← e4, ← e5, ← e6]
theorem tn_y {a b : Int32} (h : a = b) : tnX b a = 0 := if_pos h.symm
theorem tn_n {a b : Int32} (h : ¬ a = b) : tnX b a = 1 := if_neg (fun q => h q.symm)
/-- the same on the row's 38 -/
theorem gt_c {x y : Int32} {n w k : Nat} {r : RF} (h3 : r 3 = nI w) (hw : w ≤ 6) (h1 : 1 ≤ w) (h4 : r 4 = nI k) (hk : k ≤ 6) : ∀ i : Nat, ((gtI x n i (r, y)).1 3 = nI w ∧ (gtI x n i (r, y)).1 4 = nI k) ∧ m38 (gtI x n i (r, y)).1 = (gtI x n i (m38 r, y)).1 ∧ (gtI x n i (r, y)).2 = (gtI x n i (m38 r, y)).2
  | 0 => ⟨⟨h3, h4⟩, rfl, rfl⟩
  | i + 1 => by
    obtain ⟨⟨a3, a4⟩, b, c⟩ := gt_c (x := x) (y := y) (n := n) h3 hw h1 h4 hk i
    show ((gtS (x >>> (cdn n i &&& 31) &&& 1) (gtI x n i (r, y))).1 3 = nI w ∧ (gtS (x >>> (cdn n i &&& 31) &&& 1) (gtI x n i (r, y))).1 4 = nI k) ∧ m38 (gtS (x >>> (cdn n i &&& 31) &&& 1) (gtI x n i (r, y))).1 = (gtS (x >>> (cdn n i &&& 31) &&& 1) (gtI x n i (m38 r, y))).1 ∧ (gtS (x >>> (cdn n i &&& 31) &&& 1) (gtI x n i (r, y))).2 = (gtS (x >>> (cdn n i &&& 31) &&& 1) (gtI x n i (m38 r, y))).2
    generalize gtI x n i (r, y) = p at a3 a4 b c ⊢
    generalize gtI x n i (m38 r, y) = q at b c ⊢
    generalize x >>> (cdn n i &&& 31) &&& 1 = C
    have u3 : upd p.1 6 C 3 = nI w := (pk_un (by decide)).trans a3
    have u4 : upd p.1 6 C 4 = nI k := (pk_un (by decide)).trans a4
    have q6 : q.1 6 = p.1 6 := by
      rw [← b]
      exact m38_at (by decide)
    refine ⟨⟨(mH_lo u4 hk (by omega)).trans u3, (mH_lo u4 hk (by omega)).trans u4⟩, ?_, ?_⟩
    · show m38 (mH (upd p.1 6 C)) = mH (upd q.1 6 C)
      rw [mH_c u3 hw h1 u4 hk, m38_up (by decide), b]
    · show p.2 + tnX (p.1 6) C = q.2 + tnX (q.1 6) C
      rw [q6, c]
theorem gt_t {x : Int32} {n : Nat} {r : RF} : ∀ i : Nat, ∃ c : Nat, c ≤ i ∧ (gtI x n i (r, 0)).2 = nI c
  | 0 => ⟨0, Nat.le_refl _, rfl⟩
  | i + 1 => by
    obtain ⟨c, hc, e⟩ := gt_t (x := x) (n := n) (r := r) i
    show ∃ c : Nat, c ≤ i + 1 ∧ (gtI x n i (r, 0)).2 + tnX ((gtI x n i (r, 0)).1 6) (x >>> (cdn n i &&& 31) &&& 1) = nI c
    rw [e]
    unfold tnX
    split
    · exact ⟨c, by omega, Int32.add_zero _⟩
    · exact ⟨c + 1, by omega, nI_add c 1⟩
section CPM
variable {fs w f : RF} {w9 k9 h9 n i j sh : Nat} {x t v a b c : Int32}
theorem cp_v (hM : okM w w9 k9 h9) (hw1 : 1 ≤ w9) (e : m38 w = m38 fs) (e1 : f = (gtI x n n (w, 0)).1) (e2 : t = (gtI x n n (w, 0)).2) : m38 f = (gtI x n n (m38 fs, 0)).1 ∧ t = (gtI x n n (m38 fs, 0)).2 := by
  obtain ⟨-, p, q⟩ := gt_c (x := x) (y := 0) (n := n) hM.1 hM.2.2.2.1 hw1 hM.2.1 hM.2.2.2.2.1 n
  rw [← e, e1, e2]
  exact ⟨p, q⟩
theorem cp_go {r : RF} (h : cpF (-1) r n i = (a, b, c)) (hq : m38 f = (gtI (nI i) n n (r, 0)).1) (ht : t = (gtI (nI i) n n (r, 0)).2) (hv : v = f 7) : cpF (-1) r n (i + 1) = jdX v (nI i) t (a, b, c) := by
  show jdX (woB (-1) (gtI (nI i) n n (r, 0)).1) (nI i) (gtI (nI i) n n (r, 0)).2 (cpF (-1) r n i) = _
  have e : woB (-1) (gtI (nI i) n n (r, 0)).1 = v := by
    rw [← hq, hv]
    unfold woB woX
    rw [if_pos rfl, mm7]
  rw [e, ← ht, h]
theorem cp_y {r : RF} (h : cpF (-1) r n (i + 1) = jdX v x t (a, b, c)) (q : a < v ∨ (v = a ∧ t < b)) : cpF (-1) r n (i + 1) = (v, t, x) := h.trans (if_pos q)
theorem cpq_n {r : RF} (h : cpF (-1) r n (i + 1) = jdX v x t (a, b, c)) (q : ¬ (a < v ∨ (v = a ∧ t < b))) : cpF (-1) r n (i + 1) = (a, b, c) := h.trans (if_neg q)
theorem hd_go {r : RF} (h : hdF x r n i = a) (hF : okM f w9 k9 h9) (hq : m38 f = (gtI (nI i) n n (r, 0)).1) (ht : t = (gtI (nI i) n n (r, 0)).2) (e : nI j = thR (fun s => f (26 + s)) 1 k9) (e1 : v = nI j ^^^ (-1)) (e2 : b = x &&& v) : hdF x r n (i + 1) = if b = 0 ∧ (a < 0 ∨ t < a) then t else a := by
  show (if hdG x (gtI (nI i) n n (r, 0)).2 (hdF x r n i) (gtI (nI i) n n (r, 0)).1 then (gtI (nI i) n n (r, 0)).2 else hdF x r n i) = _
  unfold hdG
  rw [← hq, ← ht, h, th_M hF, ← e, e2, e1]
end CPM
/-! the rows in their order are the search's -/
noncomputable def btN (m n : Nat) : Int32 := if m.testBit n = true then 1 else 0
noncomputable def gtB (m : Nat) : Nat → RF × Int32 → RF × Int32
  | 0, s => s
  | n + 1, s => gtB m n (gtS (btN m n) s)
noncomputable def jF (wa : Int32) (r : RF) (n : Nat) (y : Int32) (X : Nat) (b : B3) : Nat → B3
  | 0 => b
  | m + 1 => jdX (woB wa (gtB m n (r, y)).1) (nI (X * 2 ^ n + m)) (gtB m n (r, y)).2 (jF wa r n y X b m)
set_option maxRecDepth 100000 in
theorem bt_tab : ∀ m : Nat, m < 256 → ∀ k : Nat, k < 8 → nI m >>> (nI k &&& 31) &&& 1 = btN m k := by
  unfold btN
  decide +kernel
set_option maxRecDepth 100000 in
theorem sh_tab : ∀ X : Nat, X < 128 → ((nI X <<< ((1 : Int32) &&& 31)) ||| 1 = nI (2 * X + 1) ∧ (nI X <<< ((1 : Int32) &&& 31)) ||| 0 = nI (2 * X)) := by decide +kernel
theorem cdn_nat {n i : Nat} (hn : n ≤ 1000) (hi : i < n) : cdn n i = nI (n - 1 - i) := by
  apply Int32.toInt_inj.mp
  rw [cdn_toInt (by omega) (by omega), nI_toInt (by omega)]
  omega
theorem gt_one {x : Int32} {n : Nat} (hn : n < 1000) {s : RF × Int32} : ∀ i : Nat, i ≤ n → gtI x (n + 1) (i + 1) s = gtI x n i (gtS (x >>> (nI n &&& 31) &&& 1) s)
  | 0, _ => by
    have e : cdn (n + 1) 0 = nI n := by
      rw [cdn_nat (by omega) (by omega)]
      rfl
    show gtS (x >>> (cdn (n + 1) 0 &&& 31) &&& 1) s = _
    rw [e]
    rfl
  | i + 1, hi => by
    have h := gt_one (x := x) hn (s := s) i (by omega)
    have e : cdn (n + 1) (i + 1) = cdn n i := by
      rw [cdn_nat (by omega) (by omega), cdn_nat (by omega) (by omega)]
      congr 1
      omega
    show gtS (x >>> (cdn (n + 1) (i + 1) &&& 31) &&& 1) (gtI x (n + 1) (i + 1) s) = gtS (x >>> (cdn n i &&& 31) &&& 1) (gtI x n i (gtS (x >>> (nI n &&& 31) &&& 1) s))
    rw [h, e]
theorem gt_IB {m : Nat} (hm : m < 256) : ∀ n : Nat, n ≤ 8 → ∀ s : RF × Int32, gtI (nI m) n n s = gtB m n s
  | 0, _, _ => rfl
  | n + 1, hn, s => by
    rw [gt_one (by omega) n (Nat.le_refl _), bt_tab m hm n (by omega)]
    exact gt_IB hm n (by omega) _
theorem gtB_lo {m N : Nat} : ∀ k : Nat, k ≤ N → ∀ s : RF × Int32, gtB (2 ^ N + m) k s = gtB m k s
  | 0, _, _ => rfl
  | k + 1, hk, s => by
    have e : btN (2 ^ N + m) k = btN m k := by
      unfold btN
      rw [Nat.testBit_two_pow_add_gt (by omega)]
    show gtB (2 ^ N + m) k (gtS (btN (2 ^ N + m) k) s) = gtB m k (gtS (btN m k) s)
    rw [e, gtB_lo k (by omega)]
theorem jF_0 {wa y : Int32} {r : RF} {n X : Nat} {b : B3} : ∀ m : Nat, m ≤ 2 ^ n → jF wa r (n + 1) y X b m = jF wa (mH (upd r 6 0)) n (y + tnX (r 6) 0) (2 * X) b m
  | 0, _ => rfl
  | m + 1, hm => by
    have e : btN m n = 0 := if_neg (by rw [Nat.testBit_lt_two_pow (by omega)]; decide)
    have e2 : X * 2 ^ (n + 1) + m = 2 * X * 2 ^ n + m := by rw [Nat.pow_succ, Nat.mul_comm (2 ^ n) 2, ← Nat.mul_assoc, Nat.mul_comm X 2]
    show jdX (woB wa (gtB m n (gtS (btN m n) (r, y))).1) (nI (X * 2 ^ (n + 1) + m)) (gtB m n (gtS (btN m n) (r, y))).2 (jF wa r (n + 1) y X b m) = jdX (woB wa (gtB m n (mH (upd r 6 0), y + tnX (r 6) 0)).1) (nI (2 * X * 2 ^ n + m)) (gtB m n (mH (upd r 6 0), y + tnX (r 6) 0)).2 (jF wa (mH (upd r 6 0)) n (y + tnX (r 6) 0) (2 * X) b m)
    rw [jF_0 m (by omega), e, e2]
    rfl
theorem jF_1 {wa y : Int32} {r : RF} {n X : Nat} {b : B3} : ∀ m : Nat, m ≤ 2 ^ n → jF wa r (n + 1) y X b (2 ^ n + m) = jF wa (mH (upd r 6 1)) n (y + tnX (r 6) 1) (2 * X + 1) (jF wa r (n + 1) y X b (2 ^ n)) m
  | 0, _ => rfl
  | m + 1, hm => by
    have e : btN (2 ^ n + m) n = 1 := if_pos (by rw [Nat.testBit_two_pow_add_eq, Nat.testBit_lt_two_pow (by omega)]; rfl)
    have e2 : X * 2 ^ (n + 1) + (2 ^ n + m) = (2 * X + 1) * 2 ^ n + m := by
      rw [Nat.pow_succ, Nat.mul_comm (2 ^ n) 2, ← Nat.mul_assoc, Nat.mul_comm X 2, Nat.add_mul, Nat.one_mul, Nat.add_assoc]
    show jdX (woB wa (gtB (2 ^ n + m) n (gtS (btN (2 ^ n + m) n) (r, y))).1) (nI (X * 2 ^ (n + 1) + (2 ^ n + m))) (gtB (2 ^ n + m) n (gtS (btN (2 ^ n + m) n) (r, y))).2 (jF wa r (n + 1) y X b (2 ^ n + m)) = jdX (woB wa (gtB m n (mH (upd r 6 1), y + tnX (r 6) 1)).1) (nI ((2 * X + 1) * 2 ^ n + m)) (gtB m n (mH (upd r 6 1), y + tnX (r 6) 1)).2 (jF wa (mH (upd r 6 1)) n (y + tnX (r 6) 1) (2 * X + 1) (jF wa r (n + 1) y X b (2 ^ n)) m)
    rw [jF_1 m (by omega), e, e2, gtB_lo n (Nat.le_refl _)]
    rfl
theorem tr_jF {wa : Int32} : ∀ (n : Nat) (r : RF) (y : Int32) (X : Nat) (b : B3), X * 2 ^ n + 2 ^ n ≤ 256 → trB wa n r (nI X) y b = jF wa r n y X b (2 ^ n)
  | 0, r, y, X, b, _ => by
    show jdX (woB wa r) (nI X) y b = jdX (woB wa r) (nI (X * 1 + 0)) y b
    rw [Nat.mul_one, Nat.add_zero]
  | n + 1, r, y, X, b, h => by
    have p : 2 ^ (n + 1) = 2 ^ n * 2 := Nat.pow_succ 2 n
    have p0 : 0 < 2 ^ n := Nat.two_pow_pos n
    have e0 : X * 2 ^ (n + 1) = 2 * X * 2 ^ n := by rw [Nat.pow_succ, Nat.mul_comm (2 ^ n) 2, ← Nat.mul_assoc, Nat.mul_comm X 2]
    have e1 : (2 * X + 1) * 2 ^ n = 2 * X * 2 ^ n + 2 ^ n := by rw [Nat.add_mul, Nat.one_mul]
    have hX : X < 128 := by
      have h2 : 2 * X * 1 ≤ 2 * X * 2 ^ n := Nat.mul_le_mul_left _ p0
      omega
    obtain ⟨s1, s0⟩ := sh_tab X hX
    show trB wa n (mH (upd r 6 1)) ((nI X <<< ((1 : Int32) &&& 31)) ||| 1) (y + tnX (r 6) 1) (trB wa n (mH (upd r 6 0)) ((nI X <<< ((1 : Int32) &&& 31)) ||| 0) (y + tnX (r 6) 0) b) = _
    rw [s1, s0, tr_jF n _ _ (2 * X) b (by omega), tr_jF n _ _ (2 * X + 1) _ (by omega), p, Nat.mul_two, jF_1 (2 ^ n) (Nat.le_refl _), jF_0 (2 ^ n) (Nat.le_refl _)]
theorem cp_jF {wa : Int32} {r : RF} {n : Nat} (hn : n ≤ 8) : ∀ m : Nat, m ≤ 256 → cpF wa r n m = jF wa r n 0 0 (-1, 0, 0) m
  | 0, _ => rfl
  | m + 1, hm => by
    show jdX (woB wa (gtI (nI m) n n (r, 0)).1) (nI m) (gtI (nI m) n n (r, 0)).2 (cpF wa r n m) = jdX (woB wa (gtB m n (r, 0)).1) (nI (0 * 2 ^ n + m)) (gtB m n (r, 0)).2 (jF wa r n 0 0 (-1, 0, 0) m)
    rw [cp_jF hn m (by omega), gt_IB (by omega) n hn, Nat.zero_mul, Nat.zero_add]
theorem tr_cp {wa : Int32} {r : RF} {n sh : Nat} (hn : n ≤ 8) (hs : (1 : Int32) <<< (nI n &&& 31) = nI sh) (hb : sh ≤ 256) : trB wa n r 0 0 (-1, 0, 0) = cpF wa r n sh ∧ 1 ≤ sh := by
  have h1 : 2 ^ n ≤ 2 ^ 8 := Nat.pow_le_pow_right (by decide) hn
  have p0 : 0 < 2 ^ n := Nat.two_pow_pos n
  have e2 : sh = 2 ^ n := (nI_eq (by omega) (by omega)).mp (hs.symm.trans (shlN n (by omega)))
  rw [e2, cp_jF hn _ (by omega)]
  exact ⟨tr_jF n r 0 0 (-1, 0, 0) (by omega), p0⟩
/-- what is had: the one and the other -/
theorem hd_rel {s : Int32} {r : RF} {n : Nat} (hs : ¬ s = -1) (hn : n ≤ 8) : ∀ m : Nat, ((cpF s r n m).1 = 1 ∧ hdF s r n m = (cpF s r n m).2.1 ∧ ¬ hdF s r n m < 0) ∨ (((cpF s r n m).1 = 0 ∨ (m = 0 ∧ (cpF s r n m).1 = -1)) ∧ hdF s r n m = -1000000)
  | 0 => Or.inr ⟨Or.inr ⟨rfl, rfl⟩, rfl⟩
  | m + 1 => by
    obtain ⟨c, hc, et⟩ := gt_t (x := nI m) (n := n) (r := r) n
    have ih := hd_rel (r := r) hs hn m
    have t0 : ¬ nI c < 0 := nI_pos (by omega)
    have e1 : cpF s r n (m + 1) = jdX (woB s (gtI (nI m) n n (r, 0)).1) (nI m) (gtI (nI m) n n (r, 0)).2 (cpF s r n m) := rfl
    have e2 : hdF s r n (m + 1) = if hdG s (gtI (nI m) n n (r, 0)).2 (hdF s r n m) (gtI (nI m) n n (r, 0)).1 then (gtI (nI m) n n (r, 0)).2 else hdF s r n m := rfl
    rw [et] at e1 e2
    generalize cpF s r n m = B at e1 ih
    generalize hdF s r n m = F at e2 ih
    generalize (gtI (nI m) n n (r, 0)).1 = q at e1 e2
    obtain ⟨b1, b2, b3⟩ := B
    have z1 : (-1000000 : Int32) < 0 := by decide
    by_cases P : s &&& (thS q 1 ^^^ (-1)) = 0
    · have ew : woB s q = 1 := by
        unfold woB woX
        rw [if_neg hs, if_pos P]
      rw [ew] at e1
      rcases ih with ⟨i1, i2, i3⟩ | ⟨i1, i2⟩
      · have i1 : b1 = 1 := i1
        have i2 : F = b2 := i2
        by_cases T : nI c < b2
        · have g1 : b1 < 1 ∨ (1 = b1 ∧ nI c < b2) := Or.inr ⟨i1.symm, T⟩
          have g2 : hdG s (nI c) F q := ⟨P, Or.inr (by rw [i2]; exact T)⟩
          rw [e1, e2, if_pos g2]
          have e3 : jdX 1 (nI m) (nI c) (b1, b2, b3) = (1, nI c, nI m) := if_pos g1
          rw [e3]
          exact Or.inl ⟨rfl, rfl, t0⟩
        · have g1 : ¬ (b1 < 1 ∨ (1 = b1 ∧ nI c < b2)) := by
            rw [i1]
            exact fun z => z.elim (by decide) (fun y => T y.2)
          have g2 : ¬ hdG s (nI c) F q := fun z => z.2.elim i3 (fun y => T (by rw [← i2]; exact y))
          rw [e1, e2, if_neg g2]
          have e3 : jdX 1 (nI m) (nI c) (b1, b2, b3) = (b1, b2, b3) := if_neg g1
          rw [e3]
          exact Or.inl ⟨i1, i2, i3⟩
      · have g1 : b1 < 1 := by
          rcases i1 with z | z
          · have z : b1 = 0 := z
            rw [z]
            decide
          · have z : b1 = -1 := z.2
            rw [z]
            decide
        have g2 : hdG s (nI c) F q := ⟨P, Or.inl (by rw [i2]; exact z1)⟩
        have e3 : jdX 1 (nI m) (nI c) (b1, b2, b3) = (1, nI c, nI m) := if_pos (Or.inl g1)
        rw [e1, e2, if_pos g2, e3]
        exact Or.inl ⟨rfl, rfl, t0⟩
    · have ew : woB s q = 0 := by
        unfold woB woX
        rw [if_neg hs, if_neg P]
      have g2 : ¬ hdG s (nI c) F q := fun z => P z.1
      rw [ew] at e1
      rw [e1, e2, if_neg g2]
      rcases ih with ⟨i1, i2, i3⟩ | ⟨i1, i2⟩
      · have i1 : b1 = 1 := i1
        have g1 : ¬ (b1 < 0 ∨ (0 = b1 ∧ nI c < b2)) := by
          rw [i1]
          exact fun z => z.elim (by decide) (fun y => absurd y.1 (by decide))
        have e3 : jdX 0 (nI m) (nI c) (b1, b2, b3) = (b1, b2, b3) := if_neg g1
        rw [e3]
        exact Or.inl ⟨i1, i2, i3⟩
      · refine Or.inr ⟨Or.inl ?_, i2⟩
        unfold jdX
        split
        · rfl
        · rename_i g
          rcases i1 with z | z
          · exact z
          · have z : b1 = -1 := z.2
            exact absurd (Or.inl (by show b1 < 0; rw [z]; decide)) g
section HDM
variable {fs : RF} {w9 k9 h9 j sh : Nat} {s a b c v3 v4 n : Int32}
theorem pre_lt {z : Nat} (h1 : 1 ≤ z) (h2 : z ≤ 1000) : nI z - 1 < s ↔ nI z ≤ s := by
  have e : (nI z - 1).toInt = (z : Int) - 1 := pk_sub_toInt (a := z) (b := 1) (by omega) (by decide)
  rw [Int32.lt_iff_toInt_lt, Int32.le_iff_toInt_le, e, nI_toInt (by omega)]
  omega
theorem hadM_q (hM : okM fs w9 k9 h9) (e3 : v3 = (1 : Int32) <<< (nI k9 &&& 31)) (e4 : v4 = v3 - 1) : v4 < s ↔ (1 : Int32) <<< (m38 fs 4 &&& 31) ≤ s := by
  have h6 := hM.2.2.2.2.1
  have h4 : m38 fs 4 = nI k9 := hM.2.1
  have h1 : 2 ^ k9 ≤ 2 ^ 6 := Nat.pow_le_pow_right (by decide) h6
  have p0 : 0 < 2 ^ k9 := Nat.two_pow_pos k9
  rw [e4, e3, h4, shlN k9 (by omega)]
  exact pre_lt p0 (by omega)
theorem hadM_n (hM : okM fs w9 k9 h9) (h0 : ¬ fs 0 = 0) (e3 : v3 = (1 : Int32) <<< (nI k9 &&& 31)) (e4 : v4 = v3 - 1) (q : s < 0 ∨ v4 < s) : (-1000001 : Int32) = a_had (m38 fs) s n :=
  had_n (r := m38 fs) h0 (Or.inl (q.elim Or.inl (fun z => Or.inr ((hadM_q hM e3 e4).mp z))))
theorem hadM_e (hM : okM fs w9 k9 h9) (h0 : ¬ fs 0 = 0) (e3 : v3 = (1 : Int32) <<< (nI k9 &&& 31)) (e4 : v4 = v3 - 1) (q : ¬ (s < 0 ∨ v4 < s)) (q8 : ¬ (nI j < 1 ∨ 8 < nI j)) (hj : j ≤ 8) (hs : (1 : Int32) <<< (nI j &&& 31) = nI sh) (hb : sh ≤ 256) (h : hdF s (m38 fs) j sh = a) : a = a_had (m38 fs) s (nI j) := by
  have hs1 : ¬ s = -1 := fun z => q (Or.inl (by rw [z]; decide))
  obtain ⟨e1, p1⟩ := tr_cp (wa := s) (r := m38 fs) hj hs hb
  have hr := hd_rel (r := m38 fs) hs1 hj sh
  rw [had_g (r := m38 fs) h0 (fun z => q (Or.inl z)) (fun z => q (Or.inr ((hadM_q hM e3 e4).mpr z))) q8 (by omega), e1, ← h]
  rcases hr with ⟨i1, i2, -⟩ | ⟨i1, i2⟩
  · rw [if_neg (by rw [i1]; decide), i2]
  · rcases i1 with z | z
    · rw [if_pos z, i2]
    · omega
theorem capsM_e {k : Int32} (h0 : ¬ fs 0 = 0) (q2 : ¬ (nI j < 1 ∨ 8 < nI j)) (hj : j ≤ 8) (c5 : -2 ≤ k) (hs : (1 : Int32) <<< (nI j &&& 31) = nI sh) (hb : sh ≤ 256) (h : cpF (-1) (m38 fs) j sh = (a, b, c)) : a_caps (m38 fs) (nI j) k = if ¬ k < nI j then -1000000 else if k = -1 then (a, b, c).1 else if k = -2 then (a, b, c).2.1 else bcX (a, b, c).2.2 (nI j) k :=
  caps_g (r := m38 fs) h0 q2 (by omega) (i_nlt.mpr c5) ((tr_cp hj hs hb).1.trans h)
theorem m_lt (hj : j ≤ 8) : (-2 : Int32) < nI j ∧ (-1 : Int32) < nI j := by
  have e1 : (-2 : Int32).toInt = -2 := rfl
  have e2 : (-1 : Int32).toInt = -1 := rfl
  rw [Int32.lt_iff_toInt_lt, Int32.lt_iff_toInt_lt, e1, e2, nI_toInt (by omega)]
  omega
end HDM
section HDS
variable {X b a t : Int32}
theorem hd_1 (h : X = if b = 0 ∧ (a < 0 ∨ t < a) then t else a) (c : ¬ b = 0) : X = a := h.trans (if_neg (fun q => c q.1))
theorem hd_2 (h : X = if b = 0 ∧ (a < 0 ∨ t < a) then t else a) (c : b = 0) (c2 : a < 0) : X = t := h.trans (if_pos ⟨c, Or.inl c2⟩)
theorem hd_3 (h : X = if b = 0 ∧ (a < 0 ∨ t < a) then t else a) (c2 : ¬ a < 0) (c3 : a ≤ t) : X = a := h.trans (if_neg (fun q => q.2.elim c2 (i_nlt.mpr c3)))
theorem hd_4 (h : X = if b = 0 ∧ (a < 0 ∨ t < a) then t else a) (c : b = 0) (c3 : ¬ a ≤ t) : X = t := h.trans (if_pos ⟨c, Or.inr (i_nle.mp c3)⟩)
end HDS
theorem dX8_ahead_0 : decode cX8_ahead 0 = .ok (.aload_n 0, 1) := dq_42 (by decide +kernel)
theorem dX8_ahead_1 : decode cX8_ahead 1 = .ok (.iload_n 1, 1) := dq_27 (by decide +kernel)
theorem dX8_ahead_10 : decode cX8_ahead 10 = .ok (.lconst 0, 1) := dq_9 (by decide +kernel)
theorem dX8_ahead_101 : decode cX8_ahead 101 = .ok (.istore 5, 2) := dq_54 (b1 := 5) (by decide +kernel) (by decide)
theorem dX8_ahead_103 : decode cX8_ahead 103 = .ok (.aload_n 0, 1) := dq_42 (by decide +kernel)
theorem dX8_ahead_104 : decode cX8_ahead 104 = .ok (.invokevirtual 194, 3) := dq_182 (b1 := 0) (b2 := 194) (by decide +kernel) (by decide)
theorem dX8_ahead_107 : decode cX8_ahead 107 = .ok (.iload 5, 2) := dq_21 (b1 := 5) (by decide +kernel) (by decide)
theorem dX8_ahead_109 : decode cX8_ahead 109 = .ok (.ireturn, 1) := dq_172 (by decide +kernel)
theorem dX8_ahead_11 : decode cX8_ahead 11 = .ok (.ldc2_w 188, 3) := dq_20 (b1 := 0) (b2 := 188) (by decide +kernel) (by decide)
theorem dX8_ahead_14 : decode cX8_ahead 14 = .ok (.invokestatic 57, 3) := dq_184 (b1 := 0) (b2 := 57) (by decide +kernel) (by decide)
theorem dX8_ahead_17 : decode cX8_ahead 17 = .ok (.ifCond .eq 15, 3) := dq_153 (b1 := 0) (b2 := 15) (by decide +kernel) (by decide)
theorem dX8_ahead_2 : decode cX8_ahead 2 = .ok (.invokevirtual 173, 3) := dq_182 (b1 := 0) (b2 := 173) (by decide +kernel) (by decide)
theorem dX8_ahead_20 : decode cX8_ahead 20 = .ok (.iload_n 3, 1) := dq_29 (by decide +kernel)
theorem dX8_ahead_21 : decode cX8_ahead 21 = .ok (.i2l, 1) := dq_133 (by decide +kernel)
theorem dX8_ahead_22 : decode cX8_ahead 22 = .ok (.lconst 0, 1) := dq_9 (by decide +kernel)
theorem dX8_ahead_23 : decode cX8_ahead 23 = .ok (.ldc2_w 65, 3) := dq_20 (b1 := 0) (b2 := 65) (by decide +kernel) (by decide)
theorem dX8_ahead_26 : decode cX8_ahead 26 = .ok (.invokestatic 57, 3) := dq_184 (b1 := 0) (b2 := 57) (by decide +kernel) (by decide)
theorem dX8_ahead_29 : decode cX8_ahead 29 = .ok (.ifCond .ne 6, 3) := dq_154 (b1 := 0) (b2 := 6) (by decide +kernel) (by decide)
theorem dX8_ahead_32 : decode cX8_ahead 32 = .ok (.ldc 67, 2) := dq_18 (b1 := 67) (by decide +kernel) (by decide)
theorem dX8_ahead_34 : decode cX8_ahead 34 = .ok (.ireturn, 1) := dq_172 (by decide +kernel)
theorem dX8_ahead_35 : decode cX8_ahead 35 = .ok (.aload_n 0, 1) := dq_42 (by decide +kernel)
theorem dX8_ahead_36 : decode cX8_ahead 36 = .ok (.invokevirtual 197, 3) := dq_182 (b1 := 0) (b2 := 197) (by decide +kernel) (by decide)
theorem dX8_ahead_39 : decode cX8_ahead 39 = .ok (.aload_n 0, 1) := dq_42 (by decide +kernel)
theorem dX8_ahead_40 : decode cX8_ahead 40 = .ok (.iload_n 2, 1) := dq_28 (by decide +kernel)
theorem dX8_ahead_41 : decode cX8_ahead 41 = .ok (.invokevirtual 190, 3) := dq_182 (b1 := 0) (b2 := 190) (by decide +kernel) (by decide)
theorem dX8_ahead_44 : decode cX8_ahead 44 = .ok (.aload_n 0, 1) := dq_42 (by decide +kernel)
theorem dX8_ahead_45 : decode cX8_ahead 45 = .ok (.getfield 19, 3) := dq_180 (b1 := 0) (b2 := 19) (by decide +kernel) (by decide)
theorem dX8_ahead_48 : decode cX8_ahead 48 = .ok (.bipush 26, 2) := dq_16 (b1 := 26) (by decide +kernel) (by decide)
theorem dX8_ahead_5 : decode cX8_ahead 5 = .ok (.ifCond .eq 27, 3) := dq_153 (b1 := 0) (b2 := 27) (by decide +kernel) (by decide)
theorem dX8_ahead_50 : decode cX8_ahead 50 = .ok (.iload_n 1, 1) := dq_27 (by decide +kernel)
theorem dX8_ahead_51 : decode cX8_ahead 51 = .ok (.iadd, 1) := dq_96 (by decide +kernel)
theorem dX8_ahead_52 : decode cX8_ahead 52 = .ok (.iaload, 1) := dq_46 (by decide +kernel)
theorem dX8_ahead_53 : decode cX8_ahead 53 = .ok (.istore 4, 2) := dq_54 (b1 := 4) (by decide +kernel) (by decide)
theorem dX8_ahead_55 : decode cX8_ahead 55 = .ok (.iload_n 3, 1) := dq_29 (by decide +kernel)
theorem dX8_ahead_56 : decode cX8_ahead 56 = .ok (.iconst 1, 1) := dq_4 (by decide +kernel)
theorem dX8_ahead_57 : decode cX8_ahead 57 = .ok (.if_icmp .ne 8, 3) := dq_160 (b1 := 0) (b2 := 8) (by decide +kernel) (by decide)
theorem dX8_ahead_60 : decode cX8_ahead 60 = .ok (.iload 4, 2) := dq_21 (b1 := 4) (by decide +kernel) (by decide)
theorem dX8_ahead_62 : decode cX8_ahead 62 = .ok (.goto 39, 3) := dq_167 (b1 := 0) (b2 := 39) (by decide +kernel) (by decide)
theorem dX8_ahead_65 : decode cX8_ahead 65 = .ok (.iload_n 3, 1) := dq_29 (by decide +kernel)
theorem dX8_ahead_66 : decode cX8_ahead 66 = .ok (.iconst 2, 1) := dq_5 (by decide +kernel)
theorem dX8_ahead_67 : decode cX8_ahead 67 = .ok (.if_icmp .ne 15, 3) := dq_160 (b1 := 0) (b2 := 15) (by decide +kernel) (by decide)
theorem dX8_ahead_70 : decode cX8_ahead 70 = .ok (.aload_n 0, 1) := dq_42 (by decide +kernel)
theorem dX8_ahead_71 : decode cX8_ahead 71 = .ok (.getfield 19, 3) := dq_180 (b1 := 0) (b2 := 19) (by decide +kernel) (by decide)
theorem dX8_ahead_74 : decode cX8_ahead 74 = .ok (.bipush 32, 2) := dq_16 (b1 := 32) (by decide +kernel) (by decide)
theorem dX8_ahead_76 : decode cX8_ahead 76 = .ok (.iload_n 1, 1) := dq_27 (by decide +kernel)
theorem dX8_ahead_77 : decode cX8_ahead 77 = .ok (.iadd, 1) := dq_96 (by decide +kernel)
theorem dX8_ahead_78 : decode cX8_ahead 78 = .ok (.iaload, 1) := dq_46 (by decide +kernel)
theorem dX8_ahead_79 : decode cX8_ahead 79 = .ok (.goto 22, 3) := dq_167 (b1 := 0) (b2 := 22) (by decide +kernel) (by decide)
theorem dX8_ahead_8 : decode cX8_ahead 8 = .ok (.iload_n 2, 1) := dq_28 (by decide +kernel)
theorem dX8_ahead_82 : decode cX8_ahead 82 = .ok (.iload 4, 2) := dq_21 (b1 := 4) (by decide +kernel) (by decide)
theorem dX8_ahead_84 : decode cX8_ahead 84 = .ok (.ifCond .ne 15, 3) := dq_154 (b1 := 0) (b2 := 15) (by decide +kernel) (by decide)
theorem dX8_ahead_87 : decode cX8_ahead 87 = .ok (.aload_n 0, 1) := dq_42 (by decide +kernel)
theorem dX8_ahead_88 : decode cX8_ahead 88 = .ok (.getfield 19, 3) := dq_180 (b1 := 0) (b2 := 19) (by decide +kernel) (by decide)
theorem dX8_ahead_9 : decode cX8_ahead 9 = .ok (.i2l, 1) := dq_133 (by decide +kernel)
theorem dX8_ahead_91 : decode cX8_ahead 91 = .ok (.bipush 20, 2) := dq_16 (b1 := 20) (by decide +kernel) (by decide)
theorem dX8_ahead_93 : decode cX8_ahead 93 = .ok (.iload_n 1, 1) := dq_27 (by decide +kernel)
theorem dX8_ahead_94 : decode cX8_ahead 94 = .ok (.iadd, 1) := dq_96 (by decide +kernel)
theorem dX8_ahead_95 : decode cX8_ahead 95 = .ok (.iaload, 1) := dq_46 (by decide +kernel)
theorem dX8_ahead_96 : decode cX8_ahead 96 = .ok (.goto 5, 3) := dq_167 (b1 := 0) (b2 := 5) (by decide +kernel) (by decide)
theorem dX8_ahead_99 : decode cX8_ahead 99 = .ok (.ldc 187, 2) := dq_18 (b1 := 187) (by decide +kernel) (by decide)
theorem dX8_caps_0 : decode cX8_caps 0 = .ok (.aload_n 0, 1) := dq_42 (by decide +kernel)
theorem dX8_caps_1 : decode cX8_caps 1 = .ok (.getfield 138, 3) := dq_180 (b1 := 0) (b2 := 138) (by decide +kernel) (by decide)
theorem dX8_caps_10 : decode cX8_caps 10 = .ok (.iload_n 1, 1) := dq_27 (by decide +kernel)
theorem dX8_caps_100 : decode cX8_caps 100 = .ok (.iload 8, 2) := dq_21 (b1 := 8) (by decide +kernel) (by decide)
theorem dX8_caps_102 : decode cX8_caps 102 = .ok (.istore 4, 2) := dq_54 (b1 := 4) (by decide +kernel) (by decide)
theorem dX8_caps_104 : decode cX8_caps 104 = .ok (.iload 7, 2) := dq_21 (b1 := 7) (by decide +kernel) (by decide)
theorem dX8_caps_106 : decode cX8_caps 106 = .ok (.istore 5, 2) := dq_54 (b1 := 5) (by decide +kernel) (by decide)
theorem dX8_caps_108 : decode cX8_caps 108 = .ok (.iinc 6 1, 3) := dq_132 (b1 := 6) (b2 := 1) (by decide +kernel) (by decide) (by decide)
theorem dX8_caps_11 : decode cX8_caps 11 = .ok (.i2l, 1) := dq_133 (by decide +kernel)
theorem dX8_caps_111 : decode cX8_caps 111 = .ok (.goto (-65), 3) := dq_167 (b1 := 255) (b2 := 191) (by decide +kernel) (by decide)
theorem dX8_caps_114 : decode cX8_caps 114 = .ok (.iload_n 2, 1) := dq_28 (by decide +kernel)
theorem dX8_caps_115 : decode cX8_caps 115 = .ok (.iconst (-1), 1) := dq_2 (by decide +kernel)
theorem dX8_caps_116 : decode cX8_caps 116 = .ok (.if_icmp .ne 8, 3) := dq_160 (b1 := 0) (b2 := 8) (by decide +kernel) (by decide)
theorem dX8_caps_119 : decode cX8_caps 119 = .ok (.iload 4, 2) := dq_21 (b1 := 4) (by decide +kernel) (by decide)
theorem dX8_caps_12 : decode cX8_caps 12 = .ok (.lconst 1, 1) := dq_10 (by decide +kernel)
theorem dX8_caps_121 : decode cX8_caps 121 = .ok (.goto 33, 3) := dq_167 (b1 := 0) (b2 := 33) (by decide +kernel) (by decide)
theorem dX8_caps_124 : decode cX8_caps 124 = .ok (.iload_n 2, 1) := dq_28 (by decide +kernel)
theorem dX8_caps_125 : decode cX8_caps 125 = .ok (.bipush (-2), 2) := dq_16 (b1 := 254) (by decide +kernel) (by decide)
theorem dX8_caps_127 : decode cX8_caps 127 = .ok (.if_icmp .ne 8, 3) := dq_160 (b1 := 0) (b2 := 8) (by decide +kernel) (by decide)
theorem dX8_caps_13 : decode cX8_caps 13 = .ok (.ldc2_w 203, 3) := dq_20 (b1 := 0) (b2 := 203) (by decide +kernel) (by decide)
theorem dX8_caps_130 : decode cX8_caps 130 = .ok (.iload 5, 2) := dq_21 (b1 := 5) (by decide +kernel) (by decide)
theorem dX8_caps_132 : decode cX8_caps 132 = .ok (.goto 22, 3) := dq_167 (b1 := 0) (b2 := 22) (by decide +kernel) (by decide)
theorem dX8_caps_135 : decode cX8_caps 135 = .ok (.iload_n 2, 1) := dq_28 (by decide +kernel)
theorem dX8_caps_136 : decode cX8_caps 136 = .ok (.iload_n 1, 1) := dq_27 (by decide +kernel)
theorem dX8_caps_137 : decode cX8_caps 137 = .ok (.if_icmp .ge 15, 3) := dq_162 (b1 := 0) (b2 := 15) (by decide +kernel) (by decide)
theorem dX8_caps_140 : decode cX8_caps 140 = .ok (.iload_n 3, 1) := dq_29 (by decide +kernel)
theorem dX8_caps_141 : decode cX8_caps 141 = .ok (.iload_n 1, 1) := dq_27 (by decide +kernel)
theorem dX8_caps_142 : decode cX8_caps 142 = .ok (.iconst 1, 1) := dq_4 (by decide +kernel)
theorem dX8_caps_143 : decode cX8_caps 143 = .ok (.isub, 1) := dq_100 (by decide +kernel)
theorem dX8_caps_144 : decode cX8_caps 144 = .ok (.iload_n 2, 1) := dq_28 (by decide +kernel)
theorem dX8_caps_145 : decode cX8_caps 145 = .ok (.isub, 1) := dq_100 (by decide +kernel)
theorem dX8_caps_146 : decode cX8_caps 146 = .ok (.ishr, 1) := dq_122 (by decide +kernel)
theorem dX8_caps_147 : decode cX8_caps 147 = .ok (.iconst 1, 1) := dq_4 (by decide +kernel)
theorem dX8_caps_148 : decode cX8_caps 148 = .ok (.iand, 1) := dq_126 (by decide +kernel)
theorem dX8_caps_149 : decode cX8_caps 149 = .ok (.goto 5, 3) := dq_167 (b1 := 0) (b2 := 5) (by decide +kernel) (by decide)
theorem dX8_caps_152 : decode cX8_caps 152 = .ok (.ldc 187, 2) := dq_18 (b1 := 187) (by decide +kernel) (by decide)
theorem dX8_caps_154 : decode cX8_caps 154 = .ok (.ireturn, 1) := dq_172 (by decide +kernel)
theorem dX8_caps_16 : decode cX8_caps 16 = .ok (.invokestatic 57, 3) := dq_184 (b1 := 0) (b2 := 57) (by decide +kernel) (by decide)
theorem dX8_caps_19 : decode cX8_caps 19 = .ok (.ifCond .eq 9, 3) := dq_153 (b1 := 0) (b2 := 9) (by decide +kernel) (by decide)
theorem dX8_caps_22 : decode cX8_caps 22 = .ok (.iload_n 2, 1) := dq_28 (by decide +kernel)
theorem dX8_caps_23 : decode cX8_caps 23 = .ok (.bipush (-2), 2) := dq_16 (b1 := 254) (by decide +kernel) (by decide)
theorem dX8_caps_25 : decode cX8_caps 25 = .ok (.if_icmp .ge 6, 3) := dq_162 (b1 := 0) (b2 := 6) (by decide +kernel) (by decide)
theorem dX8_caps_28 : decode cX8_caps 28 = .ok (.ldc 67, 2) := dq_18 (b1 := 67) (by decide +kernel) (by decide)
theorem dX8_caps_30 : decode cX8_caps 30 = .ok (.ireturn, 1) := dq_172 (by decide +kernel)
theorem dX8_caps_31 : decode cX8_caps 31 = .ok (.aload_n 0, 1) := dq_42 (by decide +kernel)
theorem dX8_caps_32 : decode cX8_caps 32 = .ok (.invokevirtual 197, 3) := dq_182 (b1 := 0) (b2 := 197) (by decide +kernel) (by decide)
theorem dX8_caps_35 : decode cX8_caps 35 = .ok (.iconst 0, 1) := dq_3 (by decide +kernel)
theorem dX8_caps_36 : decode cX8_caps 36 = .ok (.istore_n 3, 1) := dq_62 (by decide +kernel)
theorem dX8_caps_37 : decode cX8_caps 37 = .ok (.iconst (-1), 1) := dq_2 (by decide +kernel)
theorem dX8_caps_38 : decode cX8_caps 38 = .ok (.istore 4, 2) := dq_54 (b1 := 4) (by decide +kernel) (by decide)
theorem dX8_caps_4 : decode cX8_caps 4 = .ok (.ifCond .ne 6, 3) := dq_154 (b1 := 0) (b2 := 6) (by decide +kernel) (by decide)
theorem dX8_caps_40 : decode cX8_caps 40 = .ok (.iconst 0, 1) := dq_3 (by decide +kernel)
theorem dX8_caps_41 : decode cX8_caps 41 = .ok (.istore 5, 2) := dq_54 (b1 := 5) (by decide +kernel) (by decide)
theorem dX8_caps_43 : decode cX8_caps 43 = .ok (.iconst 0, 1) := dq_3 (by decide +kernel)
theorem dX8_caps_44 : decode cX8_caps 44 = .ok (.istore 6, 2) := dq_54 (b1 := 6) (by decide +kernel) (by decide)
theorem dX8_caps_46 : decode cX8_caps 46 = .ok (.iload 6, 2) := dq_21 (b1 := 6) (by decide +kernel) (by decide)
theorem dX8_caps_48 : decode cX8_caps 48 = .ok (.iconst 1, 1) := dq_4 (by decide +kernel)
theorem dX8_caps_49 : decode cX8_caps 49 = .ok (.iload_n 1, 1) := dq_27 (by decide +kernel)
theorem dX8_caps_50 : decode cX8_caps 50 = .ok (.ishl, 1) := dq_120 (by decide +kernel)
theorem dX8_caps_51 : decode cX8_caps 51 = .ok (.if_icmp .ge 63, 3) := dq_162 (b1 := 0) (b2 := 63) (by decide +kernel) (by decide)
theorem dX8_caps_54 : decode cX8_caps 54 = .ok (.aload_n 0, 1) := dq_42 (by decide +kernel)
theorem dX8_caps_55 : decode cX8_caps 55 = .ok (.iload 6, 2) := dq_21 (b1 := 6) (by decide +kernel) (by decide)
theorem dX8_caps_57 : decode cX8_caps 57 = .ok (.iload_n 1, 1) := dq_27 (by decide +kernel)
theorem dX8_caps_58 : decode cX8_caps 58 = .ok (.invokevirtual 205, 3) := dq_182 (b1 := 0) (b2 := 205) (by decide +kernel) (by decide)
theorem dX8_caps_61 : decode cX8_caps 61 = .ok (.istore 7, 2) := dq_54 (b1 := 7) (by decide +kernel) (by decide)
theorem dX8_caps_63 : decode cX8_caps 63 = .ok (.aload_n 0, 1) := dq_42 (by decide +kernel)
theorem dX8_caps_64 : decode cX8_caps 64 = .ok (.getfield 19, 3) := dq_180 (b1 := 0) (b2 := 19) (by decide +kernel) (by decide)
theorem dX8_caps_67 : decode cX8_caps 67 = .ok (.bipush 7, 2) := dq_16 (b1 := 7) (by decide +kernel) (by decide)
theorem dX8_caps_69 : decode cX8_caps 69 = .ok (.iaload, 1) := dq_46 (by decide +kernel)
theorem dX8_caps_7 : decode cX8_caps 7 = .ok (.ldc 161, 2) := dq_18 (b1 := 161) (by decide +kernel) (by decide)
theorem dX8_caps_70 : decode cX8_caps 70 = .ok (.istore 8, 2) := dq_54 (b1 := 8) (by decide +kernel) (by decide)
theorem dX8_caps_72 : decode cX8_caps 72 = .ok (.aload_n 0, 1) := dq_42 (by decide +kernel)
theorem dX8_caps_73 : decode cX8_caps 73 = .ok (.invokevirtual 194, 3) := dq_182 (b1 := 0) (b2 := 194) (by decide +kernel) (by decide)
theorem dX8_caps_76 : decode cX8_caps 76 = .ok (.iload 8, 2) := dq_21 (b1 := 8) (by decide +kernel) (by decide)
theorem dX8_caps_78 : decode cX8_caps 78 = .ok (.iload 4, 2) := dq_21 (b1 := 4) (by decide +kernel) (by decide)
theorem dX8_caps_80 : decode cX8_caps 80 = .ok (.if_icmp .gt 17, 3) := dq_163 (b1 := 0) (b2 := 17) (by decide +kernel) (by decide)
theorem dX8_caps_83 : decode cX8_caps 83 = .ok (.iload 8, 2) := dq_21 (b1 := 8) (by decide +kernel) (by decide)
theorem dX8_caps_85 : decode cX8_caps 85 = .ok (.iload 4, 2) := dq_21 (b1 := 4) (by decide +kernel) (by decide)
theorem dX8_caps_87 : decode cX8_caps 87 = .ok (.if_icmp .ne 21, 3) := dq_160 (b1 := 0) (b2 := 21) (by decide +kernel) (by decide)
theorem dX8_caps_9 : decode cX8_caps 9 = .ok (.ireturn, 1) := dq_172 (by decide +kernel)
theorem dX8_caps_90 : decode cX8_caps 90 = .ok (.iload 7, 2) := dq_21 (b1 := 7) (by decide +kernel) (by decide)
theorem dX8_caps_92 : decode cX8_caps 92 = .ok (.iload 5, 2) := dq_21 (b1 := 5) (by decide +kernel) (by decide)
theorem dX8_caps_94 : decode cX8_caps 94 = .ok (.if_icmp .ge 14, 3) := dq_162 (b1 := 0) (b2 := 14) (by decide +kernel) (by decide)
theorem dX8_caps_97 : decode cX8_caps 97 = .ok (.iload 6, 2) := dq_21 (b1 := 6) (by decide +kernel) (by decide)
theorem dX8_caps_99 : decode cX8_caps 99 = .ok (.istore_n 3, 1) := dq_62 (by decide +kernel)
theorem dX8_goOn_0 : decode cX8_goOn 0 = .ok (.iconst 0, 1) := dq_3 (by decide +kernel)
theorem dX8_goOn_1 : decode cX8_goOn 1 = .ok (.istore_n 2, 1) := dq_61 (by decide +kernel)
theorem dX8_goOn_11 : decode cX8_goOn 11 = .ok (.pop, 1) := dq_87 (by decide +kernel)
theorem dX8_goOn_12 : decode cX8_goOn 12 = .ok (.iinc 2 1, 3) := dq_132 (b1 := 2) (b2 := 1) (by decide +kernel) (by decide) (by decide)
theorem dX8_goOn_15 : decode cX8_goOn 15 = .ok (.goto (-13), 3) := dq_167 (b1 := 255) (b2 := 243) (by decide +kernel) (by decide)
theorem dX8_goOn_18 : decode cX8_goOn 18 = .ok (.return_, 1) := dq_177 (by decide +kernel)
theorem dX8_goOn_2 : decode cX8_goOn 2 = .ok (.iload_n 2, 1) := dq_28 (by decide +kernel)
theorem dX8_goOn_3 : decode cX8_goOn 3 = .ok (.iload_n 1, 1) := dq_27 (by decide +kernel)
theorem dX8_goOn_4 : decode cX8_goOn 4 = .ok (.if_icmp .ge 14, 3) := dq_162 (b1 := 0) (b2 := 14) (by decide +kernel) (by decide)
theorem dX8_goOn_7 : decode cX8_goOn 7 = .ok (.aload_n 0, 1) := dq_42 (by decide +kernel)
theorem dX8_goOn_8 : decode cX8_goOn 8 = .ok (.invokevirtual 167, 3) := dq_182 (b1 := 0) (b2 := 167) (by decide +kernel) (by decide)
theorem dX8_goTurning_0 : decode cX8_goTurning 0 = .ok (.iconst 0, 1) := dq_3 (by decide +kernel)
theorem dX8_goTurning_1 : decode cX8_goTurning 1 = .ok (.istore_n 3, 1) := dq_62 (by decide +kernel)
theorem dX8_goTurning_12 : decode cX8_goTurning 12 = .ok (.iload_n 1, 1) := dq_27 (by decide +kernel)
theorem dX8_goTurning_13 : decode cX8_goTurning 13 = .ok (.iload 4, 2) := dq_21 (b1 := 4) (by decide +kernel) (by decide)
theorem dX8_goTurning_15 : decode cX8_goTurning 15 = .ok (.ishr, 1) := dq_122 (by decide +kernel)
theorem dX8_goTurning_16 : decode cX8_goTurning 16 = .ok (.iconst 1, 1) := dq_4 (by decide +kernel)
theorem dX8_goTurning_17 : decode cX8_goTurning 17 = .ok (.iand, 1) := dq_126 (by decide +kernel)
theorem dX8_goTurning_18 : decode cX8_goTurning 18 = .ok (.istore 5, 2) := dq_54 (b1 := 5) (by decide +kernel) (by decide)
theorem dX8_goTurning_2 : decode cX8_goTurning 2 = .ok (.iload_n 2, 1) := dq_28 (by decide +kernel)
theorem dX8_goTurning_20 : decode cX8_goTurning 20 = .ok (.iload_n 3, 1) := dq_29 (by decide +kernel)
theorem dX8_goTurning_21 : decode cX8_goTurning 21 = .ok (.iload 5, 2) := dq_21 (b1 := 5) (by decide +kernel) (by decide)
theorem dX8_goTurning_23 : decode cX8_goTurning 23 = .ok (.aload_n 0, 1) := dq_42 (by decide +kernel)
theorem dX8_goTurning_24 : decode cX8_goTurning 24 = .ok (.getfield 19, 3) := dq_180 (b1 := 0) (b2 := 19) (by decide +kernel) (by decide)
theorem dX8_goTurning_27 : decode cX8_goTurning 27 = .ok (.bipush 6, 2) := dq_16 (b1 := 6) (by decide +kernel) (by decide)
theorem dX8_goTurning_29 : decode cX8_goTurning 29 = .ok (.iaload, 1) := dq_46 (by decide +kernel)
theorem dX8_goTurning_3 : decode cX8_goTurning 3 = .ok (.iconst 1, 1) := dq_4 (by decide +kernel)
theorem dX8_goTurning_30 : decode cX8_goTurning 30 = .ok (.if_icmp .ne 7, 3) := dq_160 (b1 := 0) (b2 := 7) (by decide +kernel) (by decide)
theorem dX8_goTurning_33 : decode cX8_goTurning 33 = .ok (.iconst 0, 1) := dq_3 (by decide +kernel)
theorem dX8_goTurning_34 : decode cX8_goTurning 34 = .ok (.goto 4, 3) := dq_167 (b1 := 0) (b2 := 4) (by decide +kernel) (by decide)
theorem dX8_goTurning_37 : decode cX8_goTurning 37 = .ok (.iconst 1, 1) := dq_4 (by decide +kernel)
theorem dX8_goTurning_38 : decode cX8_goTurning 38 = .ok (.iadd, 1) := dq_96 (by decide +kernel)
theorem dX8_goTurning_39 : decode cX8_goTurning 39 = .ok (.istore_n 3, 1) := dq_62 (by decide +kernel)
theorem dX8_goTurning_4 : decode cX8_goTurning 4 = .ok (.isub, 1) := dq_100 (by decide +kernel)
theorem dX8_goTurning_40 : decode cX8_goTurning 40 = .ok (.aload_n 0, 1) := dq_42 (by decide +kernel)
theorem dX8_goTurning_41 : decode cX8_goTurning 41 = .ok (.getfield 19, 3) := dq_180 (b1 := 0) (b2 := 19) (by decide +kernel) (by decide)
theorem dX8_goTurning_44 : decode cX8_goTurning 44 = .ok (.bipush 6, 2) := dq_16 (b1 := 6) (by decide +kernel) (by decide)
theorem dX8_goTurning_46 : decode cX8_goTurning 46 = .ok (.iload 5, 2) := dq_21 (b1 := 5) (by decide +kernel) (by decide)
theorem dX8_goTurning_48 : decode cX8_goTurning 48 = .ok (.iastore, 1) := dq_79 (by decide +kernel)
theorem dX8_goTurning_49 : decode cX8_goTurning 49 = .ok (.aload_n 0, 1) := dq_42 (by decide +kernel)
theorem dX8_goTurning_5 : decode cX8_goTurning 5 = .ok (.istore 4, 2) := dq_54 (b1 := 4) (by decide +kernel) (by decide)
theorem dX8_goTurning_50 : decode cX8_goTurning 50 = .ok (.invokevirtual 167, 3) := dq_182 (b1 := 0) (b2 := 167) (by decide +kernel) (by decide)
theorem dX8_goTurning_53 : decode cX8_goTurning 53 = .ok (.pop, 1) := dq_87 (by decide +kernel)
theorem dX8_goTurning_54 : decode cX8_goTurning 54 = .ok (.iinc 4 (-1), 3) := dq_132 (b1 := 4) (b2 := 255) (by decide +kernel) (by decide) (by decide)
theorem dX8_goTurning_57 : decode cX8_goTurning 57 = .ok (.goto (-50), 3) := dq_167 (b1 := 255) (b2 := 206) (by decide +kernel) (by decide)
theorem dX8_goTurning_60 : decode cX8_goTurning 60 = .ok (.iload_n 3, 1) := dq_29 (by decide +kernel)
theorem dX8_goTurning_61 : decode cX8_goTurning 61 = .ok (.ireturn, 1) := dq_172 (by decide +kernel)
theorem dX8_goTurning_7 : decode cX8_goTurning 7 = .ok (.iload 4, 2) := dq_21 (b1 := 4) (by decide +kernel) (by decide)
theorem dX8_goTurning_9 : decode cX8_goTurning 9 = .ok (.ifCond .lt 51, 3) := dq_155 (b1 := 0) (b2 := 51) (by decide +kernel) (by decide)
theorem dX8_gust_0 : decode cX8_gust 0 = .ok (.aload_n 0, 1) := dq_42 (by decide +kernel)
theorem dX8_gust_1 : decode cX8_gust 1 = .ok (.getfield 138, 3) := dq_180 (b1 := 0) (b2 := 138) (by decide +kernel) (by decide)
theorem dX8_gust_12 : decode cX8_gust 12 = .ok (.iload_n 1, 1) := dq_27 (by decide +kernel)
theorem dX8_gust_13 : decode cX8_gust 13 = .ok (.i2l, 1) := dq_133 (by decide +kernel)
theorem dX8_gust_14 : decode cX8_gust 14 = .ok (.lconst 0, 1) := dq_9 (by decide +kernel)
theorem dX8_gust_15 : decode cX8_gust 15 = .ok (.ldc2_w 188, 3) := dq_20 (b1 := 0) (b2 := 188) (by decide +kernel) (by decide)
theorem dX8_gust_18 : decode cX8_gust 18 = .ok (.invokestatic 57, 3) := dq_184 (b1 := 0) (b2 := 57) (by decide +kernel) (by decide)
theorem dX8_gust_21 : decode cX8_gust 21 = .ok (.ifCond .eq 18, 3) := dq_153 (b1 := 0) (b2 := 18) (by decide +kernel) (by decide)
theorem dX8_gust_24 : decode cX8_gust 24 = .ok (.aload_n 0, 1) := dq_42 (by decide +kernel)
theorem dX8_gust_25 : decode cX8_gust 25 = .ok (.aload_n 0, 1) := dq_42 (by decide +kernel)
theorem dX8_gust_26 : decode cX8_gust 26 = .ok (.getfield 19, 3) := dq_180 (b1 := 0) (b2 := 19) (by decide +kernel) (by decide)
theorem dX8_gust_29 : decode cX8_gust 29 = .ok (.iconst 5, 1) := dq_8 (by decide +kernel)
theorem dX8_gust_30 : decode cX8_gust 30 = .ok (.iaload, 1) := dq_46 (by decide +kernel)
theorem dX8_gust_31 : decode cX8_gust 31 = .ok (.iload_n 1, 1) := dq_27 (by decide +kernel)
theorem dX8_gust_32 : decode cX8_gust 32 = .ok (.iadd, 1) := dq_96 (by decide +kernel)
theorem dX8_gust_33 : decode cX8_gust 33 = .ok (.invokevirtual 151, 3) := dq_182 (b1 := 0) (b2 := 151) (by decide +kernel) (by decide)
theorem dX8_gust_36 : decode cX8_gust 36 = .ok (.goto 5, 3) := dq_167 (b1 := 0) (b2 := 5) (by decide +kernel) (by decide)
theorem dX8_gust_39 : decode cX8_gust 39 = .ok (.ldc 67, 2) := dq_18 (b1 := 67) (by decide +kernel) (by decide)
theorem dX8_gust_4 : decode cX8_gust 4 = .ok (.ifCond .ne 8, 3) := dq_154 (b1 := 0) (b2 := 8) (by decide +kernel) (by decide)
theorem dX8_gust_41 : decode cX8_gust 41 = .ok (.ireturn, 1) := dq_172 (by decide +kernel)
theorem dX8_gust_7 : decode cX8_gust 7 = .ok (.ldc 161, 2) := dq_18 (b1 := 161) (by decide +kernel) (by decide)
theorem dX8_gust_9 : decode cX8_gust 9 = .ok (.goto 32, 3) := dq_167 (b1 := 0) (b2 := 32) (by decide +kernel) (by decide)
theorem dX8_had_0 : decode cX8_had 0 = .ok (.aload_n 0, 1) := dq_42 (by decide +kernel)
theorem dX8_had_1 : decode cX8_had 1 = .ok (.getfield 138, 3) := dq_180 (b1 := 0) (b2 := 138) (by decide +kernel) (by decide)
theorem dX8_had_10 : decode cX8_had 10 = .ok (.iload_n 1, 1) := dq_27 (by decide +kernel)
theorem dX8_had_100 : decode cX8_had 100 = .ok (.iload_n 3, 1) := dq_29 (by decide +kernel)
theorem dX8_had_101 : decode cX8_had 101 = .ok (.ifCond .lt 9, 3) := dq_155 (b1 := 0) (b2 := 9) (by decide +kernel) (by decide)
theorem dX8_had_104 : decode cX8_had 104 = .ok (.iload 5, 2) := dq_21 (b1 := 5) (by decide +kernel) (by decide)
theorem dX8_had_106 : decode cX8_had 106 = .ok (.iload_n 3, 1) := dq_29 (by decide +kernel)
theorem dX8_had_107 : decode cX8_had 107 = .ok (.if_icmp .ge 8, 3) := dq_162 (b1 := 0) (b2 := 8) (by decide +kernel) (by decide)
theorem dX8_had_11 : decode cX8_had 11 = .ok (.i2l, 1) := dq_133 (by decide +kernel)
theorem dX8_had_110 : decode cX8_had 110 = .ok (.iload 5, 2) := dq_21 (b1 := 5) (by decide +kernel) (by decide)
theorem dX8_had_112 : decode cX8_had 112 = .ok (.goto 4, 3) := dq_167 (b1 := 0) (b2 := 4) (by decide +kernel) (by decide)
theorem dX8_had_115 : decode cX8_had 115 = .ok (.iload_n 3, 1) := dq_29 (by decide +kernel)
theorem dX8_had_116 : decode cX8_had 116 = .ok (.istore_n 3, 1) := dq_62 (by decide +kernel)
theorem dX8_had_117 : decode cX8_had 117 = .ok (.iinc 4 1, 3) := dq_132 (b1 := 4) (b2 := 1) (by decide +kernel) (by decide) (by decide)
theorem dX8_had_12 : decode cX8_had 12 = .ok (.lconst 0, 1) := dq_9 (by decide +kernel)
theorem dX8_had_120 : decode cX8_had 120 = .ok (.goto (-65), 3) := dq_167 (b1 := 255) (b2 := 191) (by decide +kernel) (by decide)
theorem dX8_had_123 : decode cX8_had 123 = .ok (.iload_n 3, 1) := dq_29 (by decide +kernel)
theorem dX8_had_124 : decode cX8_had 124 = .ok (.ireturn, 1) := dq_172 (by decide +kernel)
theorem dX8_had_13 : decode cX8_had 13 = .ok (.iconst 1, 1) := dq_4 (by decide +kernel)
theorem dX8_had_14 : decode cX8_had 14 = .ok (.aload_n 0, 1) := dq_42 (by decide +kernel)
theorem dX8_had_15 : decode cX8_had 15 = .ok (.getfield 19, 3) := dq_180 (b1 := 0) (b2 := 19) (by decide +kernel) (by decide)
theorem dX8_had_18 : decode cX8_had 18 = .ok (.iconst 4, 1) := dq_7 (by decide +kernel)
theorem dX8_had_19 : decode cX8_had 19 = .ok (.iaload, 1) := dq_46 (by decide +kernel)
theorem dX8_had_20 : decode cX8_had 20 = .ok (.ishl, 1) := dq_120 (by decide +kernel)
theorem dX8_had_21 : decode cX8_had 21 = .ok (.iconst 1, 1) := dq_4 (by decide +kernel)
theorem dX8_had_22 : decode cX8_had 22 = .ok (.isub, 1) := dq_100 (by decide +kernel)
theorem dX8_had_23 : decode cX8_had 23 = .ok (.i2l, 1) := dq_133 (by decide +kernel)
theorem dX8_had_24 : decode cX8_had 24 = .ok (.invokestatic 57, 3) := dq_184 (b1 := 0) (b2 := 57) (by decide +kernel) (by decide)
theorem dX8_had_27 : decode cX8_had 27 = .ok (.ifCond .eq 15, 3) := dq_153 (b1 := 0) (b2 := 15) (by decide +kernel) (by decide)
theorem dX8_had_30 : decode cX8_had 30 = .ok (.iload_n 2, 1) := dq_28 (by decide +kernel)
theorem dX8_had_31 : decode cX8_had 31 = .ok (.i2l, 1) := dq_133 (by decide +kernel)
theorem dX8_had_32 : decode cX8_had 32 = .ok (.lconst 1, 1) := dq_10 (by decide +kernel)
theorem dX8_had_33 : decode cX8_had 33 = .ok (.ldc2_w 203, 3) := dq_20 (b1 := 0) (b2 := 203) (by decide +kernel) (by decide)
theorem dX8_had_36 : decode cX8_had 36 = .ok (.invokestatic 57, 3) := dq_184 (b1 := 0) (b2 := 57) (by decide +kernel) (by decide)
theorem dX8_had_39 : decode cX8_had 39 = .ok (.ifCond .ne 6, 3) := dq_154 (b1 := 0) (b2 := 6) (by decide +kernel) (by decide)
theorem dX8_had_4 : decode cX8_had 4 = .ok (.ifCond .ne 6, 3) := dq_154 (b1 := 0) (b2 := 6) (by decide +kernel) (by decide)
theorem dX8_had_42 : decode cX8_had 42 = .ok (.ldc 67, 2) := dq_18 (b1 := 67) (by decide +kernel) (by decide)
theorem dX8_had_44 : decode cX8_had 44 = .ok (.ireturn, 1) := dq_172 (by decide +kernel)
theorem dX8_had_45 : decode cX8_had 45 = .ok (.aload_n 0, 1) := dq_42 (by decide +kernel)
theorem dX8_had_46 : decode cX8_had 46 = .ok (.invokevirtual 197, 3) := dq_182 (b1 := 0) (b2 := 197) (by decide +kernel) (by decide)
theorem dX8_had_49 : decode cX8_had 49 = .ok (.ldc 187, 2) := dq_18 (b1 := 187) (by decide +kernel) (by decide)
theorem dX8_had_51 : decode cX8_had 51 = .ok (.istore_n 3, 1) := dq_62 (by decide +kernel)
theorem dX8_had_52 : decode cX8_had 52 = .ok (.iconst 0, 1) := dq_3 (by decide +kernel)
theorem dX8_had_53 : decode cX8_had 53 = .ok (.istore 4, 2) := dq_54 (b1 := 4) (by decide +kernel) (by decide)
theorem dX8_had_55 : decode cX8_had 55 = .ok (.iload 4, 2) := dq_21 (b1 := 4) (by decide +kernel) (by decide)
theorem dX8_had_57 : decode cX8_had 57 = .ok (.iconst 1, 1) := dq_4 (by decide +kernel)
theorem dX8_had_58 : decode cX8_had 58 = .ok (.iload_n 2, 1) := dq_28 (by decide +kernel)
theorem dX8_had_59 : decode cX8_had 59 = .ok (.ishl, 1) := dq_120 (by decide +kernel)
theorem dX8_had_60 : decode cX8_had 60 = .ok (.if_icmp .ge 63, 3) := dq_162 (b1 := 0) (b2 := 63) (by decide +kernel) (by decide)
theorem dX8_had_63 : decode cX8_had 63 = .ok (.aload_n 0, 1) := dq_42 (by decide +kernel)
theorem dX8_had_64 : decode cX8_had 64 = .ok (.iload 4, 2) := dq_21 (b1 := 4) (by decide +kernel) (by decide)
theorem dX8_had_66 : decode cX8_had 66 = .ok (.iload_n 2, 1) := dq_28 (by decide +kernel)
theorem dX8_had_67 : decode cX8_had 67 = .ok (.invokevirtual 205, 3) := dq_182 (b1 := 0) (b2 := 205) (by decide +kernel) (by decide)
theorem dX8_had_7 : decode cX8_had 7 = .ok (.ldc 161, 2) := dq_18 (b1 := 161) (by decide +kernel) (by decide)
theorem dX8_had_70 : decode cX8_had 70 = .ok (.istore 5, 2) := dq_54 (b1 := 5) (by decide +kernel) (by decide)
theorem dX8_had_72 : decode cX8_had 72 = .ok (.iload_n 1, 1) := dq_27 (by decide +kernel)
theorem dX8_had_73 : decode cX8_had 73 = .ok (.aload_n 0, 1) := dq_42 (by decide +kernel)
theorem dX8_had_74 : decode cX8_had 74 = .ok (.iconst 1, 1) := dq_4 (by decide +kernel)
theorem dX8_had_75 : decode cX8_had 75 = .ok (.invokevirtual 182, 3) := dq_182 (b1 := 0) (b2 := 182) (by decide +kernel) (by decide)
theorem dX8_had_78 : decode cX8_had 78 = .ok (.iconst (-1), 1) := dq_2 (by decide +kernel)
theorem dX8_had_79 : decode cX8_had 79 = .ok (.ixor, 1) := dq_130 (by decide +kernel)
theorem dX8_had_80 : decode cX8_had 80 = .ok (.iand, 1) := dq_126 (by decide +kernel)
theorem dX8_had_81 : decode cX8_had 81 = .ok (.ifCond .ne 7, 3) := dq_154 (b1 := 0) (b2 := 7) (by decide +kernel) (by decide)
theorem dX8_had_84 : decode cX8_had 84 = .ok (.iconst 1, 1) := dq_4 (by decide +kernel)
theorem dX8_had_85 : decode cX8_had 85 = .ok (.goto 4, 3) := dq_167 (b1 := 0) (b2 := 4) (by decide +kernel) (by decide)
theorem dX8_had_88 : decode cX8_had 88 = .ok (.iconst 0, 1) := dq_3 (by decide +kernel)
theorem dX8_had_89 : decode cX8_had 89 = .ok (.istore 6, 2) := dq_54 (b1 := 6) (by decide +kernel) (by decide)
theorem dX8_had_9 : decode cX8_had 9 = .ok (.ireturn, 1) := dq_172 (by decide +kernel)
theorem dX8_had_91 : decode cX8_had 91 = .ok (.aload_n 0, 1) := dq_42 (by decide +kernel)
theorem dX8_had_92 : decode cX8_had 92 = .ok (.invokevirtual 194, 3) := dq_182 (b1 := 0) (b2 := 194) (by decide +kernel) (by decide)
theorem dX8_had_95 : decode cX8_had 95 = .ok (.iload 6, 2) := dq_21 (b1 := 6) (by decide +kernel) (by decide)
theorem dX8_had_97 : decode cX8_had 97 = .ok (.ifCond .eq 18, 3) := dq_153 (b1 := 0) (b2 := 18) (by decide +kernel) (by decide)
theorem dX8_kind_0 : decode cX8_kind 0 = .ok (.aload_n 0, 1) := dq_42 (by decide +kernel)
theorem dX8_kind_1 : decode cX8_kind 1 = .ok (.iload_n 1, 1) := dq_27 (by decide +kernel)
theorem dX8_kind_12 : decode cX8_kind 12 = .ok (.bipush 14, 2) := dq_16 (b1 := 14) (by decide +kernel) (by decide)
theorem dX8_kind_14 : decode cX8_kind 14 = .ok (.iload_n 1, 1) := dq_27 (by decide +kernel)
theorem dX8_kind_15 : decode cX8_kind 15 = .ok (.iadd, 1) := dq_96 (by decide +kernel)
theorem dX8_kind_16 : decode cX8_kind 16 = .ok (.iaload, 1) := dq_46 (by decide +kernel)
theorem dX8_kind_17 : decode cX8_kind 17 = .ok (.goto 5, 3) := dq_167 (b1 := 0) (b2 := 5) (by decide +kernel) (by decide)
theorem dX8_kind_2 : decode cX8_kind 2 = .ok (.invokevirtual 173, 3) := dq_182 (b1 := 0) (b2 := 173) (by decide +kernel) (by decide)
theorem dX8_kind_20 : decode cX8_kind 20 = .ok (.ldc 67, 2) := dq_18 (b1 := 67) (by decide +kernel) (by decide)
theorem dX8_kind_22 : decode cX8_kind 22 = .ok (.ireturn, 1) := dq_172 (by decide +kernel)
theorem dX8_kind_5 : decode cX8_kind 5 = .ok (.ifCond .eq 15, 3) := dq_153 (b1 := 0) (b2 := 15) (by decide +kernel) (by decide)
theorem dX8_kind_8 : decode cX8_kind 8 = .ok (.aload_n 0, 1) := dq_42 (by decide +kernel)
theorem dX8_kind_9 : decode cX8_kind 9 = .ok (.getfield 19, 3) := dq_180 (b1 := 0) (b2 := 19) (by decide +kernel) (by decide)
theorem dX8_mealBehind_0 : decode cX8_mealBehind 0 = .ok (.aload_n 0, 1) := dq_42 (by decide +kernel)
theorem dX8_mealBehind_1 : decode cX8_mealBehind 1 = .ok (.iload_n 1, 1) := dq_27 (by decide +kernel)
theorem dX8_mealBehind_11 : decode cX8_mealBehind 11 = .ok (.iaload, 1) := dq_46 (by decide +kernel)
theorem dX8_mealBehind_12 : decode cX8_mealBehind 12 = .ok (.istore_n 2, 1) := dq_61 (by decide +kernel)
theorem dX8_mealBehind_13 : decode cX8_mealBehind 13 = .ok (.aload_n 0, 1) := dq_42 (by decide +kernel)
theorem dX8_mealBehind_14 : decode cX8_mealBehind 14 = .ok (.invokevirtual 194, 3) := dq_182 (b1 := 0) (b2 := 194) (by decide +kernel) (by decide)
theorem dX8_mealBehind_17 : decode cX8_mealBehind 17 = .ok (.iload_n 2, 1) := dq_28 (by decide +kernel)
theorem dX8_mealBehind_18 : decode cX8_mealBehind 18 = .ok (.ireturn, 1) := dq_172 (by decide +kernel)
theorem dX8_mealBehind_2 : decode cX8_mealBehind 2 = .ok (.invokevirtual 190, 3) := dq_182 (b1 := 0) (b2 := 190) (by decide +kernel) (by decide)
theorem dX8_mealBehind_5 : decode cX8_mealBehind 5 = .ok (.aload_n 0, 1) := dq_42 (by decide +kernel)
theorem dX8_mealBehind_6 : decode cX8_mealBehind 6 = .ok (.getfield 19, 3) := dq_180 (b1 := 0) (b2 := 19) (by decide +kernel) (by decide)
theorem dX8_mealBehind_9 : decode cX8_mealBehind 9 = .ok (.bipush 7, 2) := dq_16 (b1 := 7) (by decide +kernel) (by decide)
theorem dX8_meal_0 : decode cX8_meal 0 = .ok (.aload_n 0, 1) := dq_42 (by decide +kernel)
theorem dX8_meal_1 : decode cX8_meal 1 = .ok (.getfield 138, 3) := dq_180 (b1 := 0) (b2 := 138) (by decide +kernel) (by decide)
theorem dX8_meal_10 : decode cX8_meal 10 = .ok (.iload_n 1, 1) := dq_27 (by decide +kernel)
theorem dX8_meal_11 : decode cX8_meal 11 = .ok (.i2l, 1) := dq_133 (by decide +kernel)
theorem dX8_meal_12 : decode cX8_meal 12 = .ok (.lconst 0, 1) := dq_9 (by decide +kernel)
theorem dX8_meal_13 : decode cX8_meal 13 = .ok (.ldc2_w 188, 3) := dq_20 (b1 := 0) (b2 := 188) (by decide +kernel) (by decide)
theorem dX8_meal_16 : decode cX8_meal 16 = .ok (.invokestatic 57, 3) := dq_184 (b1 := 0) (b2 := 57) (by decide +kernel) (by decide)
theorem dX8_meal_19 : decode cX8_meal 19 = .ok (.ifCond .ne 6, 3) := dq_154 (b1 := 0) (b2 := 6) (by decide +kernel) (by decide)
theorem dX8_meal_22 : decode cX8_meal 22 = .ok (.ldc 67, 2) := dq_18 (b1 := 67) (by decide +kernel) (by decide)
theorem dX8_meal_24 : decode cX8_meal 24 = .ok (.ireturn, 1) := dq_172 (by decide +kernel)
theorem dX8_meal_25 : decode cX8_meal 25 = .ok (.aload_n 0, 1) := dq_42 (by decide +kernel)
theorem dX8_meal_26 : decode cX8_meal 26 = .ok (.invokevirtual 197, 3) := dq_182 (b1 := 0) (b2 := 197) (by decide +kernel) (by decide)
theorem dX8_meal_29 : decode cX8_meal 29 = .ok (.aload_n 0, 1) := dq_42 (by decide +kernel)
theorem dX8_meal_30 : decode cX8_meal 30 = .ok (.iload_n 1, 1) := dq_27 (by decide +kernel)
theorem dX8_meal_31 : decode cX8_meal 31 = .ok (.invokevirtual 200, 3) := dq_182 (b1 := 0) (b2 := 200) (by decide +kernel) (by decide)
theorem dX8_meal_34 : decode cX8_meal 34 = .ok (.ireturn, 1) := dq_172 (by decide +kernel)
theorem dX8_meal_4 : decode cX8_meal 4 = .ok (.ifCond .ne 6, 3) := dq_154 (b1 := 0) (b2 := 6) (by decide +kernel) (by decide)
theorem dX8_meal_7 : decode cX8_meal 7 = .ok (.ldc 161, 2) := dq_18 (b1 := 161) (by decide +kernel) (by decide)
theorem dX8_meal_9 : decode cX8_meal 9 = .ok (.ireturn, 1) := dq_172 (by decide +kernel)
theorem dX8_putAside_0 : decode cX8_putAside 0 = .ok (.iconst 0, 1) := dq_3 (by decide +kernel)
theorem dX8_putAside_1 : decode cX8_putAside 1 = .ok (.istore_n 1, 1) := dq_60 (by decide +kernel)
theorem dX8_putAside_12 : decode cX8_putAside 12 = .ok (.iload_n 1, 1) := dq_27 (by decide +kernel)
theorem dX8_putAside_13 : decode cX8_putAside 13 = .ok (.aload_n 0, 1) := dq_42 (by decide +kernel)
theorem dX8_putAside_14 : decode cX8_putAside 14 = .ok (.getfield 19, 3) := dq_180 (b1 := 0) (b2 := 19) (by decide +kernel) (by decide)
theorem dX8_putAside_17 : decode cX8_putAside 17 = .ok (.iload_n 1, 1) := dq_27 (by decide +kernel)
theorem dX8_putAside_18 : decode cX8_putAside 18 = .ok (.iaload, 1) := dq_46 (by decide +kernel)
theorem dX8_putAside_19 : decode cX8_putAside 19 = .ok (.iastore, 1) := dq_79 (by decide +kernel)
theorem dX8_putAside_2 : decode cX8_putAside 2 = .ok (.iload_n 1, 1) := dq_27 (by decide +kernel)
theorem dX8_putAside_20 : decode cX8_putAside 20 = .ok (.iinc 1 1, 3) := dq_132 (b1 := 1) (b2 := 1) (by decide +kernel) (by decide) (by decide)
theorem dX8_putAside_23 : decode cX8_putAside 23 = .ok (.goto (-21), 3) := dq_167 (b1 := 255) (b2 := 235) (by decide +kernel) (by decide)
theorem dX8_putAside_26 : decode cX8_putAside 26 = .ok (.return_, 1) := dq_177 (by decide +kernel)
theorem dX8_putAside_3 : decode cX8_putAside 3 = .ok (.bipush 38, 2) := dq_16 (b1 := 38) (by decide +kernel) (by decide)
theorem dX8_putAside_5 : decode cX8_putAside 5 = .ok (.if_icmp .ge 21, 3) := dq_162 (b1 := 0) (b2 := 21) (by decide +kernel) (by decide)
theorem dX8_putAside_8 : decode cX8_putAside 8 = .ok (.aload_n 0, 1) := dq_42 (by decide +kernel)
theorem dX8_putAside_9 : decode cX8_putAside 9 = .ok (.getfield 34, 3) := dq_180 (b1 := 0) (b2 := 34) (by decide +kernel) (by decide)
theorem dX8_sack_0 : decode cX8_sack 0 = .ok (.aload_n 0, 1) := dq_42 (by decide +kernel)
theorem dX8_sack_1 : decode cX8_sack 1 = .ok (.getfield 138, 3) := dq_180 (b1 := 0) (b2 := 138) (by decide +kernel) (by decide)
theorem dX8_sack_10 : decode cX8_sack 10 = .ok (.iload_n 1, 1) := dq_27 (by decide +kernel)
theorem dX8_sack_100 : decode cX8_sack 100 = .ok (.goto (-45), 3) := dq_167 (b1 := 255) (b2 := 211) (by decide +kernel) (by decide)
theorem dX8_sack_103 : decode cX8_sack 103 = .ok (.iload_n 2, 1) := dq_28 (by decide +kernel)
theorem dX8_sack_104 : decode cX8_sack 104 = .ok (.ifCond .ne 8, 3) := dq_154 (b1 := 0) (b2 := 8) (by decide +kernel) (by decide)
theorem dX8_sack_107 : decode cX8_sack 107 = .ok (.iload 4, 2) := dq_21 (b1 := 4) (by decide +kernel) (by decide)
theorem dX8_sack_109 : decode cX8_sack 109 = .ok (.goto 24, 3) := dq_167 (b1 := 0) (b2 := 24) (by decide +kernel) (by decide)
theorem dX8_sack_11 : decode cX8_sack 11 = .ok (.i2l, 1) := dq_133 (by decide +kernel)
theorem dX8_sack_112 : decode cX8_sack 112 = .ok (.iload_n 2, 1) := dq_28 (by decide +kernel)
theorem dX8_sack_113 : decode cX8_sack 113 = .ok (.iconst 2, 1) := dq_5 (by decide +kernel)
theorem dX8_sack_114 : decode cX8_sack 114 = .ok (.if_icmp .ne 8, 3) := dq_160 (b1 := 0) (b2 := 8) (by decide +kernel) (by decide)
theorem dX8_sack_117 : decode cX8_sack 117 = .ok (.iload 6, 2) := dq_21 (b1 := 6) (by decide +kernel) (by decide)
theorem dX8_sack_119 : decode cX8_sack 119 = .ok (.goto 14, 3) := dq_167 (b1 := 0) (b2 := 14) (by decide +kernel) (by decide)
theorem dX8_sack_12 : decode cX8_sack 12 = .ok (.lconst 0, 1) := dq_9 (by decide +kernel)
theorem dX8_sack_122 : decode cX8_sack 122 = .ok (.iload 4, 2) := dq_21 (b1 := 4) (by decide +kernel) (by decide)
theorem dX8_sack_124 : decode cX8_sack 124 = .ok (.ifCond .ne 7, 3) := dq_154 (b1 := 0) (b2 := 7) (by decide +kernel) (by decide)
theorem dX8_sack_127 : decode cX8_sack 127 = .ok (.iconst 0, 1) := dq_3 (by decide +kernel)
theorem dX8_sack_128 : decode cX8_sack 128 = .ok (.goto 5, 3) := dq_167 (b1 := 0) (b2 := 5) (by decide +kernel) (by decide)
theorem dX8_sack_13 : decode cX8_sack 13 = .ok (.ldc2_w 217, 3) := dq_20 (b1 := 0) (b2 := 217) (by decide +kernel) (by decide)
theorem dX8_sack_131 : decode cX8_sack 131 = .ok (.iload 5, 2) := dq_21 (b1 := 5) (by decide +kernel) (by decide)
theorem dX8_sack_133 : decode cX8_sack 133 = .ok (.ireturn, 1) := dq_172 (by decide +kernel)
theorem dX8_sack_16 : decode cX8_sack 16 = .ok (.invokestatic 57, 3) := dq_184 (b1 := 0) (b2 := 57) (by decide +kernel) (by decide)
theorem dX8_sack_19 : decode cX8_sack 19 = .ok (.ifCond .eq 15, 3) := dq_153 (b1 := 0) (b2 := 15) (by decide +kernel) (by decide)
theorem dX8_sack_22 : decode cX8_sack 22 = .ok (.iload_n 2, 1) := dq_28 (by decide +kernel)
theorem dX8_sack_23 : decode cX8_sack 23 = .ok (.i2l, 1) := dq_133 (by decide +kernel)
theorem dX8_sack_24 : decode cX8_sack 24 = .ok (.lconst 0, 1) := dq_9 (by decide +kernel)
theorem dX8_sack_25 : decode cX8_sack 25 = .ok (.ldc2_w 65, 3) := dq_20 (b1 := 0) (b2 := 65) (by decide +kernel) (by decide)
theorem dX8_sack_28 : decode cX8_sack 28 = .ok (.invokestatic 57, 3) := dq_184 (b1 := 0) (b2 := 57) (by decide +kernel) (by decide)
theorem dX8_sack_31 : decode cX8_sack 31 = .ok (.ifCond .ne 6, 3) := dq_154 (b1 := 0) (b2 := 6) (by decide +kernel) (by decide)
theorem dX8_sack_34 : decode cX8_sack 34 = .ok (.ldc 67, 2) := dq_18 (b1 := 67) (by decide +kernel) (by decide)
theorem dX8_sack_36 : decode cX8_sack 36 = .ok (.ireturn, 1) := dq_172 (by decide +kernel)
theorem dX8_sack_37 : decode cX8_sack 37 = .ok (.aload_n 0, 1) := dq_42 (by decide +kernel)
theorem dX8_sack_38 : decode cX8_sack 38 = .ok (.iconst 0, 1) := dq_3 (by decide +kernel)
theorem dX8_sack_39 : decode cX8_sack 39 = .ok (.invokevirtual 182, 3) := dq_182 (b1 := 0) (b2 := 182) (by decide +kernel) (by decide)
theorem dX8_sack_4 : decode cX8_sack 4 = .ok (.ifCond .ne 6, 3) := dq_154 (b1 := 0) (b2 := 6) (by decide +kernel) (by decide)
theorem dX8_sack_42 : decode cX8_sack 42 = .ok (.istore_n 3, 1) := dq_62 (by decide +kernel)
theorem dX8_sack_43 : decode cX8_sack 43 = .ok (.iconst 0, 1) := dq_3 (by decide +kernel)
theorem dX8_sack_44 : decode cX8_sack 44 = .ok (.istore 4, 2) := dq_54 (b1 := 4) (by decide +kernel) (by decide)
theorem dX8_sack_46 : decode cX8_sack 46 = .ok (.iload_n 3, 1) := dq_29 (by decide +kernel)
theorem dX8_sack_47 : decode cX8_sack 47 = .ok (.istore 5, 2) := dq_54 (b1 := 5) (by decide +kernel) (by decide)
theorem dX8_sack_49 : decode cX8_sack 49 = .ok (.iconst 0, 1) := dq_3 (by decide +kernel)
theorem dX8_sack_50 : decode cX8_sack 50 = .ok (.istore 6, 2) := dq_54 (b1 := 6) (by decide +kernel) (by decide)
theorem dX8_sack_52 : decode cX8_sack 52 = .ok (.iconst 0, 1) := dq_3 (by decide +kernel)
theorem dX8_sack_53 : decode cX8_sack 53 = .ok (.istore 7, 2) := dq_54 (b1 := 7) (by decide +kernel) (by decide)
theorem dX8_sack_55 : decode cX8_sack 55 = .ok (.iload 7, 2) := dq_21 (b1 := 7) (by decide +kernel) (by decide)
theorem dX8_sack_57 : decode cX8_sack 57 = .ok (.iload_n 3, 1) := dq_29 (by decide +kernel)
theorem dX8_sack_58 : decode cX8_sack 58 = .ok (.if_icmp .gt 45, 3) := dq_163 (b1 := 0) (b2 := 45) (by decide +kernel) (by decide)
theorem dX8_sack_61 : decode cX8_sack 61 = .ok (.iload 7, 2) := dq_21 (b1 := 7) (by decide +kernel) (by decide)
theorem dX8_sack_63 : decode cX8_sack 63 = .ok (.iload_n 3, 1) := dq_29 (by decide +kernel)
theorem dX8_sack_64 : decode cX8_sack 64 = .ok (.iconst (-1), 1) := dq_2 (by decide +kernel)
theorem dX8_sack_65 : decode cX8_sack 65 = .ok (.ixor, 1) := dq_130 (by decide +kernel)
theorem dX8_sack_66 : decode cX8_sack 66 = .ok (.iand, 1) := dq_126 (by decide +kernel)
theorem dX8_sack_67 : decode cX8_sack 67 = .ok (.ifCond .ne 30, 3) := dq_154 (b1 := 0) (b2 := 30) (by decide +kernel) (by decide)
theorem dX8_sack_7 : decode cX8_sack 7 = .ok (.ldc 161, 2) := dq_18 (b1 := 161) (by decide +kernel) (by decide)
theorem dX8_sack_70 : decode cX8_sack 70 = .ok (.aload_n 0, 1) := dq_42 (by decide +kernel)
theorem dX8_sack_71 : decode cX8_sack 71 = .ok (.iload 7, 2) := dq_21 (b1 := 7) (by decide +kernel) (by decide)
theorem dX8_sack_73 : decode cX8_sack 73 = .ok (.invokevirtual 219, 3) := dq_182 (b1 := 0) (b2 := 219) (by decide +kernel) (by decide)
theorem dX8_sack_76 : decode cX8_sack 76 = .ok (.iload_n 1, 1) := dq_27 (by decide +kernel)
theorem dX8_sack_77 : decode cX8_sack 77 = .ok (.if_icmp .ne 20, 3) := dq_160 (b1 := 0) (b2 := 20) (by decide +kernel) (by decide)
theorem dX8_sack_80 : decode cX8_sack 80 = .ok (.iinc 4 1, 3) := dq_132 (b1 := 4) (b2 := 1) (by decide +kernel) (by decide) (by decide)
theorem dX8_sack_83 : decode cX8_sack 83 = .ok (.iload 5, 2) := dq_21 (b1 := 5) (by decide +kernel) (by decide)
theorem dX8_sack_85 : decode cX8_sack 85 = .ok (.iload 7, 2) := dq_21 (b1 := 7) (by decide +kernel) (by decide)
theorem dX8_sack_87 : decode cX8_sack 87 = .ok (.iand, 1) := dq_126 (by decide +kernel)
theorem dX8_sack_88 : decode cX8_sack 88 = .ok (.istore 5, 2) := dq_54 (b1 := 5) (by decide +kernel) (by decide)
theorem dX8_sack_9 : decode cX8_sack 9 = .ok (.ireturn, 1) := dq_172 (by decide +kernel)
theorem dX8_sack_90 : decode cX8_sack 90 = .ok (.iload 6, 2) := dq_21 (b1 := 6) (by decide +kernel) (by decide)
theorem dX8_sack_92 : decode cX8_sack 92 = .ok (.iload 7, 2) := dq_21 (b1 := 7) (by decide +kernel) (by decide)
theorem dX8_sack_94 : decode cX8_sack 94 = .ok (.ior, 1) := dq_128 (by decide +kernel)
theorem dX8_sack_95 : decode cX8_sack 95 = .ok (.istore 6, 2) := dq_54 (b1 := 6) (by decide +kernel) (by decide)
theorem dX8_sack_97 : decode cX8_sack 97 = .ok (.iinc 7 1, 3) := dq_132 (b1 := 7) (b2 := 1) (by decide +kernel) (by decide) (by decide)
theorem dX8_site_0 : decode cX8_site 0 = .ok (.aload_n 0, 1) := dq_42 (by decide +kernel)
theorem dX8_site_1 : decode cX8_site 1 = .ok (.getfield 138, 3) := dq_180 (b1 := 0) (b2 := 138) (by decide +kernel) (by decide)
theorem dX8_site_10 : decode cX8_site 10 = .ok (.iload_n 1, 1) := dq_27 (by decide +kernel)
theorem dX8_site_100 : decode cX8_site 100 = .ok (.iinc 5 1, 3) := dq_132 (b1 := 5) (b2 := 1) (by decide +kernel) (by decide) (by decide)
theorem dX8_site_103 : decode cX8_site 103 = .ok (.goto (-59), 3) := dq_167 (b1 := 255) (b2 := 197) (by decide +kernel) (by decide)
theorem dX8_site_106 : decode cX8_site 106 = .ok (.iload_n 2, 1) := dq_28 (by decide +kernel)
theorem dX8_site_107 : decode cX8_site 107 = .ok (.ifCond .ne 7, 3) := dq_154 (b1 := 0) (b2 := 7) (by decide +kernel) (by decide)
theorem dX8_site_11 : decode cX8_site 11 = .ok (.i2l, 1) := dq_133 (by decide +kernel)
theorem dX8_site_110 : decode cX8_site 110 = .ok (.iload_n 3, 1) := dq_29 (by decide +kernel)
theorem dX8_site_111 : decode cX8_site 111 = .ok (.goto 5, 3) := dq_167 (b1 := 0) (b2 := 5) (by decide +kernel) (by decide)
theorem dX8_site_114 : decode cX8_site 114 = .ok (.iload 4, 2) := dq_21 (b1 := 4) (by decide +kernel) (by decide)
theorem dX8_site_116 : decode cX8_site 116 = .ok (.ireturn, 1) := dq_172 (by decide +kernel)
theorem dX8_site_12 : decode cX8_site 12 = .ok (.lconst 1, 1) := dq_10 (by decide +kernel)
theorem dX8_site_13 : decode cX8_site 13 = .ok (.ldc2_w 208, 3) := dq_20 (b1 := 0) (b2 := 208) (by decide +kernel) (by decide)
theorem dX8_site_16 : decode cX8_site 16 = .ok (.invokestatic 57, 3) := dq_184 (b1 := 0) (b2 := 57) (by decide +kernel) (by decide)
theorem dX8_site_19 : decode cX8_site 19 = .ok (.ifCond .eq 10, 3) := dq_153 (b1 := 0) (b2 := 10) (by decide +kernel) (by decide)
theorem dX8_site_22 : decode cX8_site 22 = .ok (.iload_n 2, 1) := dq_28 (by decide +kernel)
theorem dX8_site_23 : decode cX8_site 23 = .ok (.invokestatic 210, 3) := dq_184 (b1 := 0) (b2 := 210) (by decide +kernel) (by decide)
theorem dX8_site_26 : decode cX8_site 26 = .ok (.ifCond .ne 6, 3) := dq_154 (b1 := 0) (b2 := 6) (by decide +kernel) (by decide)
theorem dX8_site_29 : decode cX8_site 29 = .ok (.ldc 67, 2) := dq_18 (b1 := 67) (by decide +kernel) (by decide)
theorem dX8_site_31 : decode cX8_site 31 = .ok (.ireturn, 1) := dq_172 (by decide +kernel)
theorem dX8_site_32 : decode cX8_site 32 = .ok (.aload_n 0, 1) := dq_42 (by decide +kernel)
theorem dX8_site_33 : decode cX8_site 33 = .ok (.invokevirtual 197, 3) := dq_182 (b1 := 0) (b2 := 197) (by decide +kernel) (by decide)
theorem dX8_site_36 : decode cX8_site 36 = .ok (.iconst (-1), 1) := dq_2 (by decide +kernel)
theorem dX8_site_37 : decode cX8_site 37 = .ok (.istore_n 3, 1) := dq_62 (by decide +kernel)
theorem dX8_site_38 : decode cX8_site 38 = .ok (.iconst (-1), 1) := dq_2 (by decide +kernel)
theorem dX8_site_39 : decode cX8_site 39 = .ok (.istore 4, 2) := dq_54 (b1 := 4) (by decide +kernel) (by decide)
theorem dX8_site_4 : decode cX8_site 4 = .ok (.ifCond .ne 6, 3) := dq_154 (b1 := 0) (b2 := 6) (by decide +kernel) (by decide)
theorem dX8_site_41 : decode cX8_site 41 = .ok (.iconst 0, 1) := dq_3 (by decide +kernel)
theorem dX8_site_42 : decode cX8_site 42 = .ok (.istore 5, 2) := dq_54 (b1 := 5) (by decide +kernel) (by decide)
theorem dX8_site_44 : decode cX8_site 44 = .ok (.iload 5, 2) := dq_21 (b1 := 5) (by decide +kernel) (by decide)
theorem dX8_site_46 : decode cX8_site 46 = .ok (.aload_n 0, 1) := dq_42 (by decide +kernel)
theorem dX8_site_47 : decode cX8_site 47 = .ok (.getfield 34, 3) := dq_180 (b1 := 0) (b2 := 34) (by decide +kernel) (by decide)
theorem dX8_site_50 : decode cX8_site 50 = .ok (.iconst 0, 1) := dq_3 (by decide +kernel)
theorem dX8_site_51 : decode cX8_site 51 = .ok (.iaload, 1) := dq_46 (by decide +kernel)
theorem dX8_site_52 : decode cX8_site 52 = .ok (.if_icmp .ge 54, 3) := dq_162 (b1 := 0) (b2 := 54) (by decide +kernel) (by decide)
theorem dX8_site_55 : decode cX8_site 55 = .ok (.aload_n 0, 1) := dq_42 (by decide +kernel)
theorem dX8_site_56 : decode cX8_site 56 = .ok (.getfield 19, 3) := dq_180 (b1 := 0) (b2 := 19) (by decide +kernel) (by decide)
theorem dX8_site_59 : decode cX8_site 59 = .ok (.iconst 1, 1) := dq_4 (by decide +kernel)
theorem dX8_site_60 : decode cX8_site 60 = .ok (.iload 5, 2) := dq_21 (b1 := 5) (by decide +kernel) (by decide)
theorem dX8_site_62 : decode cX8_site 62 = .ok (.iastore, 1) := dq_79 (by decide +kernel)
theorem dX8_site_63 : decode cX8_site 63 = .ok (.aload_n 0, 1) := dq_42 (by decide +kernel)
theorem dX8_site_64 : decode cX8_site 64 = .ok (.iload_n 1, 1) := dq_27 (by decide +kernel)
theorem dX8_site_65 : decode cX8_site 65 = .ok (.invokevirtual 200, 3) := dq_182 (b1 := 0) (b2 := 200) (by decide +kernel) (by decide)
theorem dX8_site_68 : decode cX8_site 68 = .ok (.istore 6, 2) := dq_54 (b1 := 6) (by decide +kernel) (by decide)
theorem dX8_site_7 : decode cX8_site 7 = .ok (.ldc 161, 2) := dq_18 (b1 := 161) (by decide +kernel) (by decide)
theorem dX8_site_70 : decode cX8_site 70 = .ok (.iload 6, 2) := dq_21 (b1 := 6) (by decide +kernel) (by decide)
theorem dX8_site_72 : decode cX8_site 72 = .ok (.iload 4, 2) := dq_21 (b1 := 4) (by decide +kernel) (by decide)
theorem dX8_site_74 : decode cX8_site 74 = .ok (.if_icmp .le 8, 3) := dq_164 (b1 := 0) (b2 := 8) (by decide +kernel) (by decide)
theorem dX8_site_77 : decode cX8_site 77 = .ok (.iload 5, 2) := dq_21 (b1 := 5) (by decide +kernel) (by decide)
theorem dX8_site_79 : decode cX8_site 79 = .ok (.goto 4, 3) := dq_167 (b1 := 0) (b2 := 4) (by decide +kernel) (by decide)
theorem dX8_site_82 : decode cX8_site 82 = .ok (.iload_n 3, 1) := dq_29 (by decide +kernel)
theorem dX8_site_83 : decode cX8_site 83 = .ok (.istore_n 3, 1) := dq_62 (by decide +kernel)
theorem dX8_site_84 : decode cX8_site 84 = .ok (.iload 6, 2) := dq_21 (b1 := 6) (by decide +kernel) (by decide)
theorem dX8_site_86 : decode cX8_site 86 = .ok (.iload 4, 2) := dq_21 (b1 := 4) (by decide +kernel) (by decide)
theorem dX8_site_88 : decode cX8_site 88 = .ok (.if_icmp .le 8, 3) := dq_164 (b1 := 0) (b2 := 8) (by decide +kernel) (by decide)
theorem dX8_site_9 : decode cX8_site 9 = .ok (.ireturn, 1) := dq_172 (by decide +kernel)
theorem dX8_site_91 : decode cX8_site 91 = .ok (.iload 6, 2) := dq_21 (b1 := 6) (by decide +kernel) (by decide)
theorem dX8_site_93 : decode cX8_site 93 = .ok (.goto 5, 3) := dq_167 (b1 := 0) (b2 := 5) (by decide +kernel) (by decide)
theorem dX8_site_96 : decode cX8_site 96 = .ok (.iload 4, 2) := dq_21 (b1 := 4) (by decide +kernel) (by decide)
theorem dX8_site_98 : decode cX8_site 98 = .ok (.istore 4, 2) := dq_54 (b1 := 4) (by decide +kernel) (by decide)
theorem dX8_sound_0 : decode cX8_sound 0 = .ok (.aload_n 0, 1) := dq_42 (by decide +kernel)
theorem dX8_sound_1 : decode cX8_sound 1 = .ok (.iload_n 1, 1) := dq_27 (by decide +kernel)
theorem dX8_sound_10 : decode cX8_sound 10 = .ok (.ireturn, 1) := dq_172 (by decide +kernel)
theorem dX8_sound_100 : decode cX8_sound 100 = .ok (.aload_n 0, 1) := dq_42 (by decide +kernel)
theorem dX8_sound_101 : decode cX8_sound 101 = .ok (.aload_n 0, 1) := dq_42 (by decide +kernel)
theorem dX8_sound_102 : decode cX8_sound 102 = .ok (.getfield 19, 3) := dq_180 (b1 := 0) (b2 := 19) (by decide +kernel) (by decide)
theorem dX8_sound_105 : decode cX8_sound 105 = .ok (.iconst 5, 1) := dq_8 (by decide +kernel)
theorem dX8_sound_106 : decode cX8_sound 106 = .ok (.iaload, 1) := dq_46 (by decide +kernel)
theorem dX8_sound_107 : decode cX8_sound 107 = .ok (.invokevirtual 151, 3) := dq_182 (b1 := 0) (b2 := 151) (by decide +kernel) (by decide)
theorem dX8_sound_11 : decode cX8_sound 11 = .ok (.iload_n 2, 1) := dq_28 (by decide +kernel)
theorem dX8_sound_110 : decode cX8_sound 110 = .ok (.iconst 2, 1) := dq_5 (by decide +kernel)
theorem dX8_sound_111 : decode cX8_sound 111 = .ok (.isub, 1) := dq_100 (by decide +kernel)
theorem dX8_sound_112 : decode cX8_sound 112 = .ok (.invokestatic 145, 3) := dq_184 (b1 := 0) (b2 := 145) (by decide +kernel) (by decide)
theorem dX8_sound_115 : decode cX8_sound 115 = .ok (.ireturn, 1) := dq_172 (by decide +kernel)
theorem dX8_sound_116 : decode cX8_sound 116 = .ok (.ldc 67, 2) := dq_18 (b1 := 67) (by decide +kernel) (by decide)
theorem dX8_sound_118 : decode cX8_sound 118 = .ok (.ireturn, 1) := dq_172 (by decide +kernel)
theorem dX8_sound_12 : decode cX8_sound 12 = .ok (.tableswitch 104 0 3 #[32, 59, 69, 79], 32) := by decide +kernel
theorem dX8_sound_2 : decode cX8_sound 2 = .ok (.invokevirtual 173, 3) := dq_182 (b1 := 0) (b2 := 173) (by decide +kernel) (by decide)
theorem dX8_sound_44 : decode cX8_sound 44 = .ok (.aload_n 0, 1) := dq_42 (by decide +kernel)
theorem dX8_sound_45 : decode cX8_sound 45 = .ok (.getfield 19, 3) := dq_180 (b1 := 0) (b2 := 19) (by decide +kernel) (by decide)
theorem dX8_sound_48 : decode cX8_sound 48 = .ok (.bipush 26, 2) := dq_16 (b1 := 26) (by decide +kernel) (by decide)
theorem dX8_sound_5 : decode cX8_sound 5 = .ok (.ifCond .ne 6, 3) := dq_154 (b1 := 0) (b2 := 6) (by decide +kernel) (by decide)
theorem dX8_sound_50 : decode cX8_sound 50 = .ok (.iload_n 1, 1) := dq_27 (by decide +kernel)
theorem dX8_sound_51 : decode cX8_sound 51 = .ok (.iadd, 1) := dq_96 (by decide +kernel)
theorem dX8_sound_52 : decode cX8_sound 52 = .ok (.iaload, 1) := dq_46 (by decide +kernel)
theorem dX8_sound_53 : decode cX8_sound 53 = .ok (.ifCond .ne 15, 3) := dq_154 (b1 := 0) (b2 := 15) (by decide +kernel) (by decide)
theorem dX8_sound_56 : decode cX8_sound 56 = .ok (.aload_n 0, 1) := dq_42 (by decide +kernel)
theorem dX8_sound_57 : decode cX8_sound 57 = .ok (.getfield 19, 3) := dq_180 (b1 := 0) (b2 := 19) (by decide +kernel) (by decide)
theorem dX8_sound_60 : decode cX8_sound 60 = .ok (.bipush 20, 2) := dq_16 (b1 := 20) (by decide +kernel) (by decide)
theorem dX8_sound_62 : decode cX8_sound 62 = .ok (.iload_n 1, 1) := dq_27 (by decide +kernel)
theorem dX8_sound_63 : decode cX8_sound 63 = .ok (.iadd, 1) := dq_96 (by decide +kernel)
theorem dX8_sound_64 : decode cX8_sound 64 = .ok (.iaload, 1) := dq_46 (by decide +kernel)
theorem dX8_sound_65 : decode cX8_sound 65 = .ok (.goto 5, 3) := dq_167 (b1 := 0) (b2 := 5) (by decide +kernel) (by decide)
theorem dX8_sound_68 : decode cX8_sound 68 = .ok (.ldc 187, 2) := dq_18 (b1 := 187) (by decide +kernel) (by decide)
theorem dX8_sound_70 : decode cX8_sound 70 = .ok (.ireturn, 1) := dq_172 (by decide +kernel)
theorem dX8_sound_71 : decode cX8_sound 71 = .ok (.aload_n 0, 1) := dq_42 (by decide +kernel)
theorem dX8_sound_72 : decode cX8_sound 72 = .ok (.getfield 19, 3) := dq_180 (b1 := 0) (b2 := 19) (by decide +kernel) (by decide)
theorem dX8_sound_75 : decode cX8_sound 75 = .ok (.bipush 26, 2) := dq_16 (b1 := 26) (by decide +kernel) (by decide)
theorem dX8_sound_77 : decode cX8_sound 77 = .ok (.iload_n 1, 1) := dq_27 (by decide +kernel)
theorem dX8_sound_78 : decode cX8_sound 78 = .ok (.iadd, 1) := dq_96 (by decide +kernel)
theorem dX8_sound_79 : decode cX8_sound 79 = .ok (.iaload, 1) := dq_46 (by decide +kernel)
theorem dX8_sound_8 : decode cX8_sound 8 = .ok (.ldc 67, 2) := dq_18 (b1 := 67) (by decide +kernel) (by decide)
theorem dX8_sound_80 : decode cX8_sound 80 = .ok (.ireturn, 1) := dq_172 (by decide +kernel)
theorem dX8_sound_81 : decode cX8_sound 81 = .ok (.aload_n 0, 1) := dq_42 (by decide +kernel)
theorem dX8_sound_82 : decode cX8_sound 82 = .ok (.getfield 19, 3) := dq_180 (b1 := 0) (b2 := 19) (by decide +kernel) (by decide)
theorem dX8_sound_85 : decode cX8_sound 85 = .ok (.bipush 32, 2) := dq_16 (b1 := 32) (by decide +kernel) (by decide)
theorem dX8_sound_87 : decode cX8_sound 87 = .ok (.iload_n 1, 1) := dq_27 (by decide +kernel)
theorem dX8_sound_88 : decode cX8_sound 88 = .ok (.iadd, 1) := dq_96 (by decide +kernel)
theorem dX8_sound_89 : decode cX8_sound 89 = .ok (.iaload, 1) := dq_46 (by decide +kernel)
theorem dX8_sound_90 : decode cX8_sound 90 = .ok (.ireturn, 1) := dq_172 (by decide +kernel)
theorem dX8_sound_91 : decode cX8_sound 91 = .ok (.aload_n 0, 1) := dq_42 (by decide +kernel)
theorem dX8_sound_92 : decode cX8_sound 92 = .ok (.getfield 19, 3) := dq_180 (b1 := 0) (b2 := 19) (by decide +kernel) (by decide)
theorem dX8_sound_95 : decode cX8_sound 95 = .ok (.bipush 14, 2) := dq_16 (b1 := 14) (by decide +kernel) (by decide)
theorem dX8_sound_97 : decode cX8_sound 97 = .ok (.iload_n 1, 1) := dq_27 (by decide +kernel)
theorem dX8_sound_98 : decode cX8_sound 98 = .ok (.iadd, 1) := dq_96 (by decide +kernel)
theorem dX8_sound_99 : decode cX8_sound 99 = .ok (.iaload, 1) := dq_46 (by decide +kernel)
theorem dX8_stand_0 : decode cX8_stand 0 = .ok (.aload_n 0, 1) := dq_42 (by decide +kernel)
theorem dX8_stand_1 : decode cX8_stand 1 = .ok (.getfield 138, 3) := dq_180 (b1 := 0) (b2 := 138) (by decide +kernel) (by decide)
theorem dX8_stand_10 : decode cX8_stand 10 = .ok (.iload_n 1, 1) := dq_27 (by decide +kernel)
theorem dX8_stand_101 : decode cX8_stand 101 = .ok (.ireturn, 1) := dq_172 (by decide +kernel)
theorem dX8_stand_11 : decode cX8_stand 11 = .ok (.tableswitch 88 0 6 #[41, 48, 55, 62, 70, 76, 82], 41) := by decide +kernel
theorem dX8_stand_4 : decode cX8_stand 4 = .ok (.ifCond .ne 6, 3) := dq_154 (b1 := 0) (b2 := 6) (by decide +kernel) (by decide)
theorem dX8_stand_52 : decode cX8_stand 52 = .ok (.aload_n 0, 1) := dq_42 (by decide +kernel)
theorem dX8_stand_53 : decode cX8_stand 53 = .ok (.getfield 19, 3) := dq_180 (b1 := 0) (b2 := 19) (by decide +kernel) (by decide)
theorem dX8_stand_56 : decode cX8_stand 56 = .ok (.iconst 0, 1) := dq_3 (by decide +kernel)
theorem dX8_stand_57 : decode cX8_stand 57 = .ok (.iaload, 1) := dq_46 (by decide +kernel)
theorem dX8_stand_58 : decode cX8_stand 58 = .ok (.ireturn, 1) := dq_172 (by decide +kernel)
theorem dX8_stand_59 : decode cX8_stand 59 = .ok (.aload_n 0, 1) := dq_42 (by decide +kernel)
theorem dX8_stand_60 : decode cX8_stand 60 = .ok (.getfield 19, 3) := dq_180 (b1 := 0) (b2 := 19) (by decide +kernel) (by decide)
theorem dX8_stand_63 : decode cX8_stand 63 = .ok (.iconst 1, 1) := dq_4 (by decide +kernel)
theorem dX8_stand_64 : decode cX8_stand 64 = .ok (.iaload, 1) := dq_46 (by decide +kernel)
theorem dX8_stand_65 : decode cX8_stand 65 = .ok (.ireturn, 1) := dq_172 (by decide +kernel)
theorem dX8_stand_66 : decode cX8_stand 66 = .ok (.aload_n 0, 1) := dq_42 (by decide +kernel)
theorem dX8_stand_67 : decode cX8_stand 67 = .ok (.getfield 19, 3) := dq_180 (b1 := 0) (b2 := 19) (by decide +kernel) (by decide)
theorem dX8_stand_7 : decode cX8_stand 7 = .ok (.ldc 161, 2) := dq_18 (b1 := 161) (by decide +kernel) (by decide)
theorem dX8_stand_70 : decode cX8_stand 70 = .ok (.iconst 2, 1) := dq_5 (by decide +kernel)
theorem dX8_stand_71 : decode cX8_stand 71 = .ok (.iaload, 1) := dq_46 (by decide +kernel)
theorem dX8_stand_72 : decode cX8_stand 72 = .ok (.ireturn, 1) := dq_172 (by decide +kernel)
theorem dX8_stand_73 : decode cX8_stand 73 = .ok (.aload_n 0, 1) := dq_42 (by decide +kernel)
theorem dX8_stand_74 : decode cX8_stand 74 = .ok (.getfield 19, 3) := dq_180 (b1 := 0) (b2 := 19) (by decide +kernel) (by decide)
theorem dX8_stand_77 : decode cX8_stand 77 = .ok (.bipush 6, 2) := dq_16 (b1 := 6) (by decide +kernel) (by decide)
theorem dX8_stand_79 : decode cX8_stand 79 = .ok (.iaload, 1) := dq_46 (by decide +kernel)
theorem dX8_stand_80 : decode cX8_stand 80 = .ok (.ireturn, 1) := dq_172 (by decide +kernel)
theorem dX8_stand_81 : decode cX8_stand 81 = .ok (.aload_n 0, 1) := dq_42 (by decide +kernel)
theorem dX8_stand_82 : decode cX8_stand 82 = .ok (.iconst 0, 1) := dq_3 (by decide +kernel)
theorem dX8_stand_83 : decode cX8_stand 83 = .ok (.invokevirtual 182, 3) := dq_182 (b1 := 0) (b2 := 182) (by decide +kernel) (by decide)
theorem dX8_stand_86 : decode cX8_stand 86 = .ok (.ireturn, 1) := dq_172 (by decide +kernel)
theorem dX8_stand_87 : decode cX8_stand 87 = .ok (.aload_n 0, 1) := dq_42 (by decide +kernel)
theorem dX8_stand_88 : decode cX8_stand 88 = .ok (.iconst 1, 1) := dq_4 (by decide +kernel)
theorem dX8_stand_89 : decode cX8_stand 89 = .ok (.invokevirtual 182, 3) := dq_182 (b1 := 0) (b2 := 182) (by decide +kernel) (by decide)
theorem dX8_stand_9 : decode cX8_stand 9 = .ok (.ireturn, 1) := dq_172 (by decide +kernel)
theorem dX8_stand_92 : decode cX8_stand 92 = .ok (.ireturn, 1) := dq_172 (by decide +kernel)
theorem dX8_stand_93 : decode cX8_stand 93 = .ok (.aload_n 0, 1) := dq_42 (by decide +kernel)
theorem dX8_stand_94 : decode cX8_stand 94 = .ok (.iconst 2, 1) := dq_5 (by decide +kernel)
theorem dX8_stand_95 : decode cX8_stand 95 = .ok (.invokevirtual 182, 3) := dq_182 (b1 := 0) (b2 := 182) (by decide +kernel) (by decide)
theorem dX8_stand_98 : decode cX8_stand 98 = .ok (.ireturn, 1) := dq_172 (by decide +kernel)
theorem dX8_stand_99 : decode cX8_stand 99 = .ok (.ldc 67, 2) := dq_18 (b1 := 67) (by decide +kernel) (by decide)
theorem dX8_takeBack_0 : decode cX8_takeBack 0 = .ok (.iconst 0, 1) := dq_3 (by decide +kernel)
theorem dX8_takeBack_1 : decode cX8_takeBack 1 = .ok (.istore_n 1, 1) := dq_60 (by decide +kernel)
theorem dX8_takeBack_12 : decode cX8_takeBack 12 = .ok (.iload_n 1, 1) := dq_27 (by decide +kernel)
theorem dX8_takeBack_13 : decode cX8_takeBack 13 = .ok (.aload_n 0, 1) := dq_42 (by decide +kernel)
theorem dX8_takeBack_14 : decode cX8_takeBack 14 = .ok (.getfield 34, 3) := dq_180 (b1 := 0) (b2 := 34) (by decide +kernel) (by decide)
theorem dX8_takeBack_17 : decode cX8_takeBack 17 = .ok (.iload_n 1, 1) := dq_27 (by decide +kernel)
theorem dX8_takeBack_18 : decode cX8_takeBack 18 = .ok (.iaload, 1) := dq_46 (by decide +kernel)
theorem dX8_takeBack_19 : decode cX8_takeBack 19 = .ok (.iastore, 1) := dq_79 (by decide +kernel)
theorem dX8_takeBack_2 : decode cX8_takeBack 2 = .ok (.iload_n 1, 1) := dq_27 (by decide +kernel)
theorem dX8_takeBack_20 : decode cX8_takeBack 20 = .ok (.iinc 1 1, 3) := dq_132 (b1 := 1) (b2 := 1) (by decide +kernel) (by decide) (by decide)
theorem dX8_takeBack_23 : decode cX8_takeBack 23 = .ok (.goto (-21), 3) := dq_167 (b1 := 255) (b2 := 235) (by decide +kernel) (by decide)
theorem dX8_takeBack_26 : decode cX8_takeBack 26 = .ok (.return_, 1) := dq_177 (by decide +kernel)
theorem dX8_takeBack_3 : decode cX8_takeBack 3 = .ok (.bipush 38, 2) := dq_16 (b1 := 38) (by decide +kernel) (by decide)
theorem dX8_takeBack_5 : decode cX8_takeBack 5 = .ok (.if_icmp .ge 21, 3) := dq_162 (b1 := 0) (b2 := 21) (by decide +kernel) (by decide)
theorem dX8_takeBack_8 : decode cX8_takeBack 8 = .ok (.aload_n 0, 1) := dq_42 (by decide +kernel)
theorem dX8_takeBack_9 : decode cX8_takeBack 9 = .ok (.getfield 19, 3) := dq_180 (b1 := 0) (b2 := 19) (by decide +kernel) (by decide)
theorem dX8_when_0 : decode cX8_when 0 = .ok (.aload_n 0, 1) := dq_42 (by decide +kernel)
theorem dX8_when_1 : decode cX8_when 1 = .ok (.iload_n 1, 1) := dq_27 (by decide +kernel)
theorem dX8_when_10 : decode cX8_when 10 = .ok (.lconst 1, 1) := dq_10 (by decide +kernel)
theorem dX8_when_11 : decode cX8_when 11 = .ok (.ldc2_w 65, 3) := dq_20 (b1 := 0) (b2 := 65) (by decide +kernel) (by decide)
theorem dX8_when_14 : decode cX8_when 14 = .ok (.invokestatic 57, 3) := dq_184 (b1 := 0) (b2 := 57) (by decide +kernel) (by decide)
theorem dX8_when_17 : decode cX8_when 17 = .ok (.ifCond .ne 6, 3) := dq_154 (b1 := 0) (b2 := 6) (by decide +kernel) (by decide)
theorem dX8_when_2 : decode cX8_when 2 = .ok (.invokevirtual 173, 3) := dq_182 (b1 := 0) (b2 := 173) (by decide +kernel) (by decide)
theorem dX8_when_20 : decode cX8_when 20 = .ok (.ldc 67, 2) := dq_18 (b1 := 67) (by decide +kernel) (by decide)
theorem dX8_when_22 : decode cX8_when 22 = .ok (.ireturn, 1) := dq_172 (by decide +kernel)
theorem dX8_when_23 : decode cX8_when 23 = .ok (.aload_n 0, 1) := dq_42 (by decide +kernel)
theorem dX8_when_24 : decode cX8_when 24 = .ok (.invokevirtual 197, 3) := dq_182 (b1 := 0) (b2 := 197) (by decide +kernel) (by decide)
theorem dX8_when_27 : decode cX8_when 27 = .ok (.iconst 0, 1) := dq_3 (by decide +kernel)
theorem dX8_when_28 : decode cX8_when 28 = .ok (.istore_n 3, 1) := dq_62 (by decide +kernel)
theorem dX8_when_29 : decode cX8_when 29 = .ok (.aload_n 0, 1) := dq_42 (by decide +kernel)
theorem dX8_when_30 : decode cX8_when 30 = .ok (.getfield 19, 3) := dq_180 (b1 := 0) (b2 := 19) (by decide +kernel) (by decide)
theorem dX8_when_33 : decode cX8_when 33 = .ok (.bipush 26, 2) := dq_16 (b1 := 26) (by decide +kernel) (by decide)
theorem dX8_when_35 : decode cX8_when 35 = .ok (.iload_n 1, 1) := dq_27 (by decide +kernel)
theorem dX8_when_36 : decode cX8_when 36 = .ok (.iadd, 1) := dq_96 (by decide +kernel)
theorem dX8_when_37 : decode cX8_when 37 = .ok (.iaload, 1) := dq_46 (by decide +kernel)
theorem dX8_when_38 : decode cX8_when 38 = .ok (.iload_n 2, 1) := dq_28 (by decide +kernel)
theorem dX8_when_39 : decode cX8_when 39 = .ok (.if_icmp .eq 20, 3) := dq_159 (b1 := 0) (b2 := 20) (by decide +kernel) (by decide)
theorem dX8_when_42 : decode cX8_when 42 = .ok (.iload_n 3, 1) := dq_29 (by decide +kernel)
theorem dX8_when_43 : decode cX8_when 43 = .ok (.bipush 60, 2) := dq_16 (b1 := 60) (by decide +kernel) (by decide)
theorem dX8_when_45 : decode cX8_when 45 = .ok (.if_icmp .ge 14, 3) := dq_162 (b1 := 0) (b2 := 14) (by decide +kernel) (by decide)
theorem dX8_when_48 : decode cX8_when 48 = .ok (.aload_n 0, 1) := dq_42 (by decide +kernel)
theorem dX8_when_49 : decode cX8_when 49 = .ok (.invokevirtual 167, 3) := dq_182 (b1 := 0) (b2 := 167) (by decide +kernel) (by decide)
theorem dX8_when_5 : decode cX8_when 5 = .ok (.ifCond .eq 15, 3) := dq_153 (b1 := 0) (b2 := 15) (by decide +kernel) (by decide)
theorem dX8_when_52 : decode cX8_when 52 = .ok (.pop, 1) := dq_87 (by decide +kernel)
theorem dX8_when_53 : decode cX8_when 53 = .ok (.iinc 3 1, 3) := dq_132 (b1 := 3) (b2 := 1) (by decide +kernel) (by decide) (by decide)
theorem dX8_when_56 : decode cX8_when 56 = .ok (.goto (-27), 3) := dq_167 (b1 := 255) (b2 := 229) (by decide +kernel) (by decide)
theorem dX8_when_59 : decode cX8_when 59 = .ok (.aload_n 0, 1) := dq_42 (by decide +kernel)
theorem dX8_when_60 : decode cX8_when 60 = .ok (.getfield 19, 3) := dq_180 (b1 := 0) (b2 := 19) (by decide +kernel) (by decide)
theorem dX8_when_63 : decode cX8_when 63 = .ok (.bipush 26, 2) := dq_16 (b1 := 26) (by decide +kernel) (by decide)
theorem dX8_when_65 : decode cX8_when 65 = .ok (.iload_n 1, 1) := dq_27 (by decide +kernel)
theorem dX8_when_66 : decode cX8_when 66 = .ok (.iadd, 1) := dq_96 (by decide +kernel)
theorem dX8_when_67 : decode cX8_when 67 = .ok (.iaload, 1) := dq_46 (by decide +kernel)
theorem dX8_when_68 : decode cX8_when 68 = .ok (.iload_n 2, 1) := dq_28 (by decide +kernel)
theorem dX8_when_69 : decode cX8_when 69 = .ok (.if_icmp .ne 7, 3) := dq_160 (b1 := 0) (b2 := 7) (by decide +kernel) (by decide)
theorem dX8_when_72 : decode cX8_when 72 = .ok (.iconst 1, 1) := dq_4 (by decide +kernel)
theorem dX8_when_73 : decode cX8_when 73 = .ok (.goto 4, 3) := dq_167 (b1 := 0) (b2 := 4) (by decide +kernel) (by decide)
theorem dX8_when_76 : decode cX8_when 76 = .ok (.iconst 0, 1) := dq_3 (by decide +kernel)
theorem dX8_when_77 : decode cX8_when 77 = .ok (.istore 4, 2) := dq_54 (b1 := 4) (by decide +kernel) (by decide)
theorem dX8_when_79 : decode cX8_when 79 = .ok (.aload_n 0, 1) := dq_42 (by decide +kernel)
theorem dX8_when_8 : decode cX8_when 8 = .ok (.iload_n 2, 1) := dq_28 (by decide +kernel)
theorem dX8_when_80 : decode cX8_when 80 = .ok (.invokevirtual 194, 3) := dq_182 (b1 := 0) (b2 := 194) (by decide +kernel) (by decide)
theorem dX8_when_83 : decode cX8_when 83 = .ok (.iload 4, 2) := dq_21 (b1 := 4) (by decide +kernel) (by decide)
theorem dX8_when_85 : decode cX8_when 85 = .ok (.ifCond .eq 7, 3) := dq_153 (b1 := 0) (b2 := 7) (by decide +kernel) (by decide)
theorem dX8_when_88 : decode cX8_when 88 = .ok (.iload_n 3, 1) := dq_29 (by decide +kernel)
theorem dX8_when_89 : decode cX8_when 89 = .ok (.goto 5, 3) := dq_167 (b1 := 0) (b2 := 5) (by decide +kernel) (by decide)
theorem dX8_when_9 : decode cX8_when 9 = .ok (.i2l, 1) := dq_133 (by decide +kernel)
theorem dX8_when_92 : decode cX8_when 92 = .ok (.ldc 187, 2) := dq_18 (b1 := 187) (by decide +kernel) (by decide)
theorem dX8_when_94 : decode cX8_when 94 = .ok (.ireturn, 1) := dq_172 (by decide +kernel)
theorem mb_X8_ahead_wsX8_ahead_r1 {w : Cond} (h : w ∈ wsX8_ahead_r1) : w ∈ wsX8_ahead := by unfold wsX8_ahead; exact List.mem_cons_of_mem _ (List.mem_append_left _ (List.mem_append_left _ (h)))
theorem mx_X8_ahead_22 : Cond.code yX8_goOn cX8_goOn 3 none ∈ wsX8_ahead := mb_X8_ahead_wsX8_ahead_r1 (List.mem_of_getElem? (i := 21) rfl)
theorem mx_X8_ahead_23 : Cond.methodLink RX8 167 yX8_oneHour ∈ wsX8_ahead := mb_X8_ahead_wsX8_ahead_r1 (List.mem_of_getElem? (i := 22) rfl)
theorem mx_X8_ahead_24 : Cond.instanceMethod yX8_oneHour ∈ wsX8_ahead := mb_X8_ahead_wsX8_ahead_r1 (List.mem_of_getElem? (i := 23) rfl)
theorem mb_X8_ahead_wsX8_ahead_r2 {w : Cond} (h : w ∈ wsX8_ahead_r2) : w ∈ wsX8_ahead := by unfold wsX8_ahead; exact List.mem_cons_of_mem _ (List.mem_append_left _ (List.mem_append_right _ (List.mem_append_left _ (h))))
theorem mx_X8_ahead_25 : Cond.selects RX8 yX8_oneHour yX8_oneHour ∈ wsX8_ahead := mb_X8_ahead_wsX8_ahead_r2 (List.mem_of_getElem? (i := 0) rfl)
theorem mx_X8_ahead_9 : Cond.initialized RX8 ∈ wsX8_ahead := mb_X8_ahead_wsX8_ahead_r1 (List.mem_of_getElem? (i := 8) rfl)
theorem mx_X8_ahead_26 : Cond.code yX8_oneHour cX8_oneHour 4 (some .int) ∈ wsX8_ahead := mb_X8_ahead_wsX8_ahead_r2 (List.mem_of_getElem? (i := 1) rfl)
theorem mx_X8_ahead_4 : Cond.fieldLink RX8 19 "MillTalkModel" "st" "[I" ∈ wsX8_ahead := mb_X8_ahead_wsX8_ahead_r1 (List.mem_of_getElem? (i := 3) rfl)
theorem mx_X8_ahead_27 : Cond.methodLink RX8 151 yX8_gustOf ∈ wsX8_ahead := mb_X8_ahead_wsX8_ahead_r2 (List.mem_of_getElem? (i := 2) rfl)
theorem mx_X8_ahead_28 : Cond.instanceMethod yX8_gustOf ∈ wsX8_ahead := mb_X8_ahead_wsX8_ahead_r2 (List.mem_of_getElem? (i := 3) rfl)
theorem mx_X8_ahead_29 : Cond.selects RX8 yX8_gustOf yX8_gustOf ∈ wsX8_ahead := mb_X8_ahead_wsX8_ahead_r2 (List.mem_of_getElem? (i := 4) rfl)
theorem mx_X8_ahead_30 : Cond.code yX8_gustOf cX8_gustOf 2 (some .int) ∈ wsX8_ahead := mb_X8_ahead_wsX8_ahead_r2 (List.mem_of_getElem? (i := 5) rfl)
theorem mx_X8_ahead_31 : Cond.methodLink RX8 154 yX8_drift ∈ wsX8_ahead := mb_X8_ahead_wsX8_ahead_r2 (List.mem_of_getElem? (i := 6) rfl)
theorem mx_X8_ahead_32 : Cond.instanceMethod yX8_drift ∈ wsX8_ahead := mb_X8_ahead_wsX8_ahead_r2 (List.mem_of_getElem? (i := 7) rfl)
theorem mx_X8_ahead_33 : Cond.selects RX8 yX8_drift yX8_drift ∈ wsX8_ahead := mb_X8_ahead_wsX8_ahead_r2 (List.mem_of_getElem? (i := 8) rfl)
theorem mx_X8_ahead_34 : Cond.code yX8_drift cX8_drift 7 none ∈ wsX8_ahead := mb_X8_ahead_wsX8_ahead_r2 (List.mem_of_getElem? (i := 9) rfl)
theorem mx_X8_ahead_35 : Cond.methodLink RX8 145 yX8_drifts ∈ wsX8_ahead := mb_X8_ahead_wsX8_ahead_r2 (List.mem_of_getElem? (i := 10) rfl)
theorem mx_X8_ahead_36 : Cond.static yX8_drifts ∈ wsX8_ahead := mb_X8_ahead_wsX8_ahead_r2 (List.mem_of_getElem? (i := 11) rfl)
theorem mx_X8_ahead_37 : Cond.code yX8_drifts cX8_drifts 2 (some .int) ∈ wsX8_ahead := mb_X8_ahead_wsX8_ahead_r2 (List.mem_of_getElem? (i := 12) rfl)
theorem mx_X8_ahead_38 : Cond.methodLink RX8 148 yX8_isCell ∈ wsX8_ahead := mb_X8_ahead_wsX8_ahead_r2 (List.mem_of_getElem? (i := 13) rfl)
theorem mx_X8_ahead_39 : Cond.instanceMethod yX8_isCell ∈ wsX8_ahead := mb_X8_ahead_wsX8_ahead_r2 (List.mem_of_getElem? (i := 14) rfl)
theorem mx_X8_ahead_40 : Cond.selects RX8 yX8_isCell yX8_isCell ∈ wsX8_ahead := mb_X8_ahead_wsX8_ahead_r2 (List.mem_of_getElem? (i := 15) rfl)
theorem mx_X8_ahead_41 : Cond.code yX8_isCell cX8_isCell 2 (some .boolean) ∈ wsX8_ahead := mb_X8_ahead_wsX8_ahead_r2 (List.mem_of_getElem? (i := 16) rfl)
theorem mx_X8_ahead_11 : Cond.methodLink RX8 57 yX8_in ∈ wsX8_ahead := mb_X8_ahead_wsX8_ahead_r1 (List.mem_of_getElem? (i := 10) rfl)
theorem mx_X8_ahead_12 : Cond.static yX8_in ∈ wsX8_ahead := mb_X8_ahead_wsX8_ahead_r1 (List.mem_of_getElem? (i := 11) rfl)
theorem mx_X8_ahead_13 : Cond.code yX8_in cX8_in 6 (some .boolean) ∈ wsX8_ahead := mb_X8_ahead_wsX8_ahead_r1 (List.mem_of_getElem? (i := 12) rfl)
theorem mx_X8_ahead_42 : Cond.methodLink RX8 158 yX8_isAtMill ∈ wsX8_ahead := mb_X8_ahead_wsX8_ahead_r2 (List.mem_of_getElem? (i := 17) rfl)
theorem mx_X8_ahead_43 : Cond.instanceMethod yX8_isAtMill ∈ wsX8_ahead := mb_X8_ahead_wsX8_ahead_r2 (List.mem_of_getElem? (i := 18) rfl)
theorem mx_X8_ahead_44 : Cond.selects RX8 yX8_isAtMill yX8_isAtMill ∈ wsX8_ahead := mb_X8_ahead_wsX8_ahead_r2 (List.mem_of_getElem? (i := 19) rfl)
theorem mx_X8_ahead_45 : Cond.code yX8_isAtMill cX8_isAtMill 3 (some .boolean) ∈ wsX8_ahead := mb_X8_ahead_wsX8_ahead_r2 (List.mem_of_getElem? (i := 20) rfl)
theorem mb_X8_ahead_wsX80 {w : Cond} (h : w ∈ wsX80) : w ∈ wsX8_ahead := by unfold wsX8_ahead; exact List.mem_cons_of_mem _ (List.mem_append_right _ (h))
theorem ggX8_ahead_X8_goOn : GoodIn wsX8_ahead wsX8_goOn := goodIn_sub (by unfold wsX8_goOn; exact List.forall_mem_cons.mpr ⟨mx_X8_ahead_22, List.forall_mem_append.mpr ⟨List.forall_mem_append.mpr ⟨(by unfold wsX8_goOn_r1; exact List.forall_mem_cons.mpr ⟨mx_X8_ahead_23, List.forall_mem_cons.mpr ⟨mx_X8_ahead_24, List.forall_mem_cons.mpr ⟨mx_X8_ahead_25, List.forall_mem_cons.mpr ⟨mx_X8_ahead_9, List.forall_mem_cons.mpr ⟨mx_X8_ahead_26, List.forall_mem_cons.mpr ⟨mx_X8_ahead_4, List.forall_mem_cons.mpr ⟨mx_X8_ahead_27, List.forall_mem_cons.mpr ⟨mx_X8_ahead_28, List.forall_mem_cons.mpr ⟨mx_X8_ahead_29, List.forall_mem_cons.mpr ⟨mx_X8_ahead_30, List.forall_mem_cons.mpr ⟨mx_X8_ahead_31, List.forall_mem_cons.mpr ⟨mx_X8_ahead_32, List.forall_mem_cons.mpr ⟨mx_X8_ahead_33, List.forall_mem_cons.mpr ⟨mx_X8_ahead_34, List.forall_mem_cons.mpr ⟨mx_X8_ahead_35, List.forall_mem_cons.mpr ⟨mx_X8_ahead_36, List.forall_mem_cons.mpr ⟨mx_X8_ahead_37, List.forall_mem_cons.mpr ⟨mx_X8_ahead_38, List.forall_mem_cons.mpr ⟨mx_X8_ahead_39, List.forall_mem_cons.mpr ⟨mx_X8_ahead_40, List.forall_mem_cons.mpr ⟨mx_X8_ahead_41, List.forall_mem_cons.mpr ⟨mx_X8_ahead_11, List.forall_mem_cons.mpr ⟨mx_X8_ahead_12, List.forall_mem_cons.mpr ⟨mx_X8_ahead_13, fun _ h_ => absurd h_ List.not_mem_nil⟩⟩⟩⟩⟩⟩⟩⟩⟩⟩⟩⟩⟩⟩⟩⟩⟩⟩⟩⟩⟩⟩⟩⟩), (by unfold wsX8_goOn_r2; exact List.forall_mem_cons.mpr ⟨mx_X8_ahead_42, List.forall_mem_cons.mpr ⟨mx_X8_ahead_43, List.forall_mem_cons.mpr ⟨mx_X8_ahead_44, List.forall_mem_cons.mpr ⟨mx_X8_ahead_45, fun _ h_ => absurd h_ List.not_mem_nil⟩⟩⟩⟩)⟩, (fun _ h_ => mb_X8_ahead_wsX80 h_)⟩⟩) (by decide +kernel)
theorem mx_X8_ahead_19 : Cond.methodLink RX8 190 yX8_goOn ∈ wsX8_ahead := mb_X8_ahead_wsX8_ahead_r1 (List.mem_of_getElem? (i := 18) rfl)
theorem mx_X8_ahead_20 : Cond.instanceMethod yX8_goOn ∈ wsX8_ahead := mb_X8_ahead_wsX8_ahead_r1 (List.mem_of_getElem? (i := 19) rfl)
theorem mx_X8_ahead_21 : Cond.selects RX8 yX8_goOn yX8_goOn ∈ wsX8_ahead := mb_X8_ahead_wsX8_ahead_r1 (List.mem_of_getElem? (i := 20) rfl)
theorem gX8_ahead_X8_goOn : GoodIn wsX8_ahead (wsV RX8 190 RX8 yX8_goOn wsX8_goOn) := goodIn_app (goodIn_sub (List.forall_mem_cons.mpr ⟨mx_X8_ahead_19, List.forall_mem_cons.mpr ⟨mx_X8_ahead_20, List.forall_mem_cons.mpr ⟨mx_X8_ahead_21, List.forall_mem_cons.mpr ⟨mx_X8_ahead_9, fun _ h_ => absurd h_ List.not_mem_nil⟩⟩⟩⟩) (by decide +kernel)) ggX8_ahead_X8_goOn
theorem ggX8_ahead_X8_in : GoodIn wsX8_ahead wsX8_in := goodIn_sub (by unfold wsX8_in; exact List.forall_mem_cons.mpr ⟨mx_X8_ahead_13, fun _ h_ => absurd h_ List.not_mem_nil⟩) (by decide +kernel)
set_option maxRecDepth 20000 in
theorem gX8_ahead_X8_in : GoodIn wsX8_ahead (va_wsS RX8 57 yX8_in wsX8_in) := goodIn_app (goodIn_of _ (by decide +kernel)) ggX8_ahead_X8_in
theorem mx_X8_ahead_10 : Cond.code yX8_isSound cX8_isSound 2 (some .boolean) ∈ wsX8_ahead := mb_X8_ahead_wsX8_ahead_r1 (List.mem_of_getElem? (i := 9) rfl)
theorem ggX8_ahead_X8_isSound : GoodIn wsX8_ahead wsX8_isSound := goodIn_sub (by unfold wsX8_isSound; exact List.forall_mem_cons.mpr ⟨mx_X8_ahead_10, List.forall_mem_append.mpr ⟨List.forall_mem_cons.mpr ⟨mx_X8_ahead_4, List.forall_mem_cons.mpr ⟨mx_X8_ahead_11, List.forall_mem_cons.mpr ⟨mx_X8_ahead_12, List.forall_mem_cons.mpr ⟨mx_X8_ahead_9, List.forall_mem_cons.mpr ⟨mx_X8_ahead_13, fun _ h_ => absurd h_ List.not_mem_nil⟩⟩⟩⟩⟩, (fun _ h_ => mb_X8_ahead_wsX80 h_)⟩⟩) (by decide +kernel)
theorem mx_X8_ahead_6 : Cond.methodLink RX8 173 yX8_isSound ∈ wsX8_ahead := mb_X8_ahead_wsX8_ahead_r1 (List.mem_of_getElem? (i := 5) rfl)
theorem mx_X8_ahead_7 : Cond.instanceMethod yX8_isSound ∈ wsX8_ahead := mb_X8_ahead_wsX8_ahead_r1 (List.mem_of_getElem? (i := 6) rfl)
theorem mx_X8_ahead_8 : Cond.selects RX8 yX8_isSound yX8_isSound ∈ wsX8_ahead := mb_X8_ahead_wsX8_ahead_r1 (List.mem_of_getElem? (i := 7) rfl)
theorem gX8_ahead_X8_isSound : GoodIn wsX8_ahead (wsV RX8 173 RX8 yX8_isSound wsX8_isSound) := goodIn_app (goodIn_sub (List.forall_mem_cons.mpr ⟨mx_X8_ahead_6, List.forall_mem_cons.mpr ⟨mx_X8_ahead_7, List.forall_mem_cons.mpr ⟨mx_X8_ahead_8, List.forall_mem_cons.mpr ⟨mx_X8_ahead_9, fun _ h_ => absurd h_ List.not_mem_nil⟩⟩⟩⟩) (by decide +kernel)) ggX8_ahead_X8_isSound
theorem mx_X8_ahead_17 : Cond.code yX8_putAside cX8_putAside 2 none ∈ wsX8_ahead := mb_X8_ahead_wsX8_ahead_r1 (List.mem_of_getElem? (i := 16) rfl)
theorem mx_X8_ahead_18 : Cond.fieldLink RX8 34 "MillTalkModel" "aside" "[I" ∈ wsX8_ahead := mb_X8_ahead_wsX8_ahead_r1 (List.mem_of_getElem? (i := 17) rfl)
theorem ggX8_ahead_X8_putAside : GoodIn wsX8_ahead wsX8_putAside := goodIn_sub (by unfold wsX8_putAside; exact List.forall_mem_cons.mpr ⟨mx_X8_ahead_17, List.forall_mem_append.mpr ⟨List.forall_mem_cons.mpr ⟨mx_X8_ahead_18, List.forall_mem_cons.mpr ⟨mx_X8_ahead_4, fun _ h_ => absurd h_ List.not_mem_nil⟩⟩, (fun _ h_ => mb_X8_ahead_wsX80 h_)⟩⟩) (by decide +kernel)
theorem mx_X8_ahead_14 : Cond.methodLink RX8 197 yX8_putAside ∈ wsX8_ahead := mb_X8_ahead_wsX8_ahead_r1 (List.mem_of_getElem? (i := 13) rfl)
theorem mx_X8_ahead_15 : Cond.instanceMethod yX8_putAside ∈ wsX8_ahead := mb_X8_ahead_wsX8_ahead_r1 (List.mem_of_getElem? (i := 14) rfl)
theorem mx_X8_ahead_16 : Cond.selects RX8 yX8_putAside yX8_putAside ∈ wsX8_ahead := mb_X8_ahead_wsX8_ahead_r1 (List.mem_of_getElem? (i := 15) rfl)
theorem gX8_ahead_X8_putAside : GoodIn wsX8_ahead (wsV RX8 197 RX8 yX8_putAside wsX8_putAside) := goodIn_app (goodIn_sub (List.forall_mem_cons.mpr ⟨mx_X8_ahead_14, List.forall_mem_cons.mpr ⟨mx_X8_ahead_15, List.forall_mem_cons.mpr ⟨mx_X8_ahead_16, List.forall_mem_cons.mpr ⟨mx_X8_ahead_9, fun _ h_ => absurd h_ List.not_mem_nil⟩⟩⟩⟩) (by decide +kernel)) ggX8_ahead_X8_putAside
theorem mb_X8_ahead_wsX8_ahead_r3 {w : Cond} (h : w ∈ wsX8_ahead_r3) : w ∈ wsX8_ahead := by unfold wsX8_ahead; exact List.mem_cons_of_mem _ (List.mem_append_left _ (List.mem_append_right _ (List.mem_append_right _ (h))))
theorem mx_X8_ahead_49 : Cond.code yX8_takeBack cX8_takeBack 2 none ∈ wsX8_ahead := mb_X8_ahead_wsX8_ahead_r3 (List.mem_of_getElem? (i := 0) rfl)
theorem ggX8_ahead_X8_takeBack : GoodIn wsX8_ahead wsX8_takeBack := goodIn_sub (by unfold wsX8_takeBack; exact List.forall_mem_cons.mpr ⟨mx_X8_ahead_49, List.forall_mem_append.mpr ⟨List.forall_mem_cons.mpr ⟨mx_X8_ahead_4, List.forall_mem_cons.mpr ⟨mx_X8_ahead_18, fun _ h_ => absurd h_ List.not_mem_nil⟩⟩, (fun _ h_ => mb_X8_ahead_wsX80 h_)⟩⟩) (by decide +kernel)
theorem mx_X8_ahead_46 : Cond.methodLink RX8 194 yX8_takeBack ∈ wsX8_ahead := mb_X8_ahead_wsX8_ahead_r2 (List.mem_of_getElem? (i := 21) rfl)
theorem mx_X8_ahead_47 : Cond.instanceMethod yX8_takeBack ∈ wsX8_ahead := mb_X8_ahead_wsX8_ahead_r2 (List.mem_of_getElem? (i := 22) rfl)
theorem mx_X8_ahead_48 : Cond.selects RX8 yX8_takeBack yX8_takeBack ∈ wsX8_ahead := mb_X8_ahead_wsX8_ahead_r2 (List.mem_of_getElem? (i := 23) rfl)
theorem gX8_ahead_X8_takeBack : GoodIn wsX8_ahead (wsV RX8 194 RX8 yX8_takeBack wsX8_takeBack) := goodIn_app (goodIn_sub (List.forall_mem_cons.mpr ⟨mx_X8_ahead_46, List.forall_mem_cons.mpr ⟨mx_X8_ahead_47, List.forall_mem_cons.mpr ⟨mx_X8_ahead_48, List.forall_mem_cons.mpr ⟨mx_X8_ahead_9, fun _ h_ => absurd h_ List.not_mem_nil⟩⟩⟩⟩) (by decide +kernel)) ggX8_ahead_X8_takeBack
theorem mb_X8_caps_wsX8_caps_r1 {w : Cond} (h : w ∈ wsX8_caps_r1) : w ∈ wsX8_caps := by unfold wsX8_caps; exact List.mem_cons_of_mem _ (List.mem_append_left _ (List.mem_append_left _ (h)))
theorem mx_X8_caps_19 : Cond.code yX8_goTurning cX8_goTurning 6 (some .int) ∈ wsX8_caps := mb_X8_caps_wsX8_caps_r1 (List.mem_of_getElem? (i := 18) rfl)
theorem mx_X8_caps_5 : Cond.fieldLink RX8 19 "MillTalkModel" "st" "[I" ∈ wsX8_caps := mb_X8_caps_wsX8_caps_r1 (List.mem_of_getElem? (i := 4) rfl)
theorem mx_X8_caps_20 : Cond.methodLink RX8 167 yX8_oneHour ∈ wsX8_caps := mb_X8_caps_wsX8_caps_r1 (List.mem_of_getElem? (i := 19) rfl)
theorem mx_X8_caps_21 : Cond.instanceMethod yX8_oneHour ∈ wsX8_caps := mb_X8_caps_wsX8_caps_r1 (List.mem_of_getElem? (i := 20) rfl)
theorem mx_X8_caps_22 : Cond.selects RX8 yX8_oneHour yX8_oneHour ∈ wsX8_caps := mb_X8_caps_wsX8_caps_r1 (List.mem_of_getElem? (i := 21) rfl)
theorem mx_X8_caps_9 : Cond.initialized RX8 ∈ wsX8_caps := mb_X8_caps_wsX8_caps_r1 (List.mem_of_getElem? (i := 8) rfl)
theorem mx_X8_caps_23 : Cond.code yX8_oneHour cX8_oneHour 4 (some .int) ∈ wsX8_caps := mb_X8_caps_wsX8_caps_r1 (List.mem_of_getElem? (i := 22) rfl)
theorem mx_X8_caps_24 : Cond.methodLink RX8 151 yX8_gustOf ∈ wsX8_caps := mb_X8_caps_wsX8_caps_r1 (List.mem_of_getElem? (i := 23) rfl)
theorem mb_X8_caps_wsX8_caps_r2 {w : Cond} (h : w ∈ wsX8_caps_r2) : w ∈ wsX8_caps := by unfold wsX8_caps; exact List.mem_cons_of_mem _ (List.mem_append_left _ (List.mem_append_right _ (h)))
theorem mx_X8_caps_25 : Cond.instanceMethod yX8_gustOf ∈ wsX8_caps := mb_X8_caps_wsX8_caps_r2 (List.mem_of_getElem? (i := 0) rfl)
theorem mx_X8_caps_26 : Cond.selects RX8 yX8_gustOf yX8_gustOf ∈ wsX8_caps := mb_X8_caps_wsX8_caps_r2 (List.mem_of_getElem? (i := 1) rfl)
theorem mx_X8_caps_27 : Cond.code yX8_gustOf cX8_gustOf 2 (some .int) ∈ wsX8_caps := mb_X8_caps_wsX8_caps_r2 (List.mem_of_getElem? (i := 2) rfl)
theorem mx_X8_caps_28 : Cond.methodLink RX8 154 yX8_drift ∈ wsX8_caps := mb_X8_caps_wsX8_caps_r2 (List.mem_of_getElem? (i := 3) rfl)
theorem mx_X8_caps_29 : Cond.instanceMethod yX8_drift ∈ wsX8_caps := mb_X8_caps_wsX8_caps_r2 (List.mem_of_getElem? (i := 4) rfl)
theorem mx_X8_caps_30 : Cond.selects RX8 yX8_drift yX8_drift ∈ wsX8_caps := mb_X8_caps_wsX8_caps_r2 (List.mem_of_getElem? (i := 5) rfl)
theorem mx_X8_caps_31 : Cond.code yX8_drift cX8_drift 7 none ∈ wsX8_caps := mb_X8_caps_wsX8_caps_r2 (List.mem_of_getElem? (i := 6) rfl)
theorem mx_X8_caps_32 : Cond.methodLink RX8 145 yX8_drifts ∈ wsX8_caps := mb_X8_caps_wsX8_caps_r2 (List.mem_of_getElem? (i := 7) rfl)
theorem mx_X8_caps_33 : Cond.static yX8_drifts ∈ wsX8_caps := mb_X8_caps_wsX8_caps_r2 (List.mem_of_getElem? (i := 8) rfl)
theorem mx_X8_caps_34 : Cond.code yX8_drifts cX8_drifts 2 (some .int) ∈ wsX8_caps := mb_X8_caps_wsX8_caps_r2 (List.mem_of_getElem? (i := 9) rfl)
theorem mx_X8_caps_35 : Cond.methodLink RX8 148 yX8_isCell ∈ wsX8_caps := mb_X8_caps_wsX8_caps_r2 (List.mem_of_getElem? (i := 10) rfl)
theorem mx_X8_caps_36 : Cond.instanceMethod yX8_isCell ∈ wsX8_caps := mb_X8_caps_wsX8_caps_r2 (List.mem_of_getElem? (i := 11) rfl)
theorem mx_X8_caps_37 : Cond.selects RX8 yX8_isCell yX8_isCell ∈ wsX8_caps := mb_X8_caps_wsX8_caps_r2 (List.mem_of_getElem? (i := 12) rfl)
theorem mx_X8_caps_38 : Cond.code yX8_isCell cX8_isCell 2 (some .boolean) ∈ wsX8_caps := mb_X8_caps_wsX8_caps_r2 (List.mem_of_getElem? (i := 13) rfl)
theorem mx_X8_caps_7 : Cond.methodLink RX8 57 yX8_in ∈ wsX8_caps := mb_X8_caps_wsX8_caps_r1 (List.mem_of_getElem? (i := 6) rfl)
theorem mx_X8_caps_8 : Cond.static yX8_in ∈ wsX8_caps := mb_X8_caps_wsX8_caps_r1 (List.mem_of_getElem? (i := 7) rfl)
theorem mx_X8_caps_10 : Cond.code yX8_in cX8_in 6 (some .boolean) ∈ wsX8_caps := mb_X8_caps_wsX8_caps_r1 (List.mem_of_getElem? (i := 9) rfl)
theorem mx_X8_caps_39 : Cond.methodLink RX8 158 yX8_isAtMill ∈ wsX8_caps := mb_X8_caps_wsX8_caps_r2 (List.mem_of_getElem? (i := 14) rfl)
theorem mx_X8_caps_40 : Cond.instanceMethod yX8_isAtMill ∈ wsX8_caps := mb_X8_caps_wsX8_caps_r2 (List.mem_of_getElem? (i := 15) rfl)
theorem mx_X8_caps_41 : Cond.selects RX8 yX8_isAtMill yX8_isAtMill ∈ wsX8_caps := mb_X8_caps_wsX8_caps_r2 (List.mem_of_getElem? (i := 16) rfl)
theorem mx_X8_caps_42 : Cond.code yX8_isAtMill cX8_isAtMill 3 (some .boolean) ∈ wsX8_caps := mb_X8_caps_wsX8_caps_r2 (List.mem_of_getElem? (i := 17) rfl)
theorem mb_X8_caps_wsX80 {w : Cond} (h : w ∈ wsX80) : w ∈ wsX8_caps := by unfold wsX8_caps; exact List.mem_cons_of_mem _ (List.mem_append_right _ (h))
theorem ggX8_caps_X8_goTurning : GoodIn wsX8_caps wsX8_goTurning := goodIn_sub (by unfold wsX8_goTurning; exact List.forall_mem_cons.mpr ⟨mx_X8_caps_19, List.forall_mem_append.mpr ⟨List.forall_mem_append.mpr ⟨(by unfold wsX8_goTurning_r1; exact List.forall_mem_cons.mpr ⟨mx_X8_caps_5, List.forall_mem_cons.mpr ⟨mx_X8_caps_20, List.forall_mem_cons.mpr ⟨mx_X8_caps_21, List.forall_mem_cons.mpr ⟨mx_X8_caps_22, List.forall_mem_cons.mpr ⟨mx_X8_caps_9, List.forall_mem_cons.mpr ⟨mx_X8_caps_23, List.forall_mem_cons.mpr ⟨mx_X8_caps_24, List.forall_mem_cons.mpr ⟨mx_X8_caps_25, List.forall_mem_cons.mpr ⟨mx_X8_caps_26, List.forall_mem_cons.mpr ⟨mx_X8_caps_27, List.forall_mem_cons.mpr ⟨mx_X8_caps_28, List.forall_mem_cons.mpr ⟨mx_X8_caps_29, List.forall_mem_cons.mpr ⟨mx_X8_caps_30, List.forall_mem_cons.mpr ⟨mx_X8_caps_31, List.forall_mem_cons.mpr ⟨mx_X8_caps_32, List.forall_mem_cons.mpr ⟨mx_X8_caps_33, List.forall_mem_cons.mpr ⟨mx_X8_caps_34, List.forall_mem_cons.mpr ⟨mx_X8_caps_35, List.forall_mem_cons.mpr ⟨mx_X8_caps_36, List.forall_mem_cons.mpr ⟨mx_X8_caps_37, List.forall_mem_cons.mpr ⟨mx_X8_caps_38, List.forall_mem_cons.mpr ⟨mx_X8_caps_7, List.forall_mem_cons.mpr ⟨mx_X8_caps_8, List.forall_mem_cons.mpr ⟨mx_X8_caps_10, fun _ h_ => absurd h_ List.not_mem_nil⟩⟩⟩⟩⟩⟩⟩⟩⟩⟩⟩⟩⟩⟩⟩⟩⟩⟩⟩⟩⟩⟩⟩⟩), (by unfold wsX8_goTurning_r2; exact List.forall_mem_cons.mpr ⟨mx_X8_caps_39, List.forall_mem_cons.mpr ⟨mx_X8_caps_40, List.forall_mem_cons.mpr ⟨mx_X8_caps_41, List.forall_mem_cons.mpr ⟨mx_X8_caps_42, fun _ h_ => absurd h_ List.not_mem_nil⟩⟩⟩⟩)⟩, (fun _ h_ => mb_X8_caps_wsX80 h_)⟩⟩) (by decide +kernel)
theorem mx_X8_caps_16 : Cond.methodLink RX8 205 yX8_goTurning ∈ wsX8_caps := mb_X8_caps_wsX8_caps_r1 (List.mem_of_getElem? (i := 15) rfl)
theorem mx_X8_caps_17 : Cond.instanceMethod yX8_goTurning ∈ wsX8_caps := mb_X8_caps_wsX8_caps_r1 (List.mem_of_getElem? (i := 16) rfl)
theorem mx_X8_caps_18 : Cond.selects RX8 yX8_goTurning yX8_goTurning ∈ wsX8_caps := mb_X8_caps_wsX8_caps_r1 (List.mem_of_getElem? (i := 17) rfl)
theorem gX8_caps_X8_goTurning : GoodIn wsX8_caps (wsV RX8 205 RX8 yX8_goTurning wsX8_goTurning) := goodIn_app (goodIn_sub (List.forall_mem_cons.mpr ⟨mx_X8_caps_16, List.forall_mem_cons.mpr ⟨mx_X8_caps_17, List.forall_mem_cons.mpr ⟨mx_X8_caps_18, List.forall_mem_cons.mpr ⟨mx_X8_caps_9, fun _ h_ => absurd h_ List.not_mem_nil⟩⟩⟩⟩) (by decide +kernel)) ggX8_caps_X8_goTurning
theorem ggX8_caps_X8_in : GoodIn wsX8_caps wsX8_in := goodIn_sub (by unfold wsX8_in; exact List.forall_mem_cons.mpr ⟨mx_X8_caps_10, fun _ h_ => absurd h_ List.not_mem_nil⟩) (by decide +kernel)
set_option maxRecDepth 20000 in
theorem gX8_caps_X8_in : GoodIn wsX8_caps (va_wsS RX8 57 yX8_in wsX8_in) := goodIn_app (goodIn_of _ (by decide +kernel)) ggX8_caps_X8_in
theorem mx_X8_caps_14 : Cond.code yX8_putAside cX8_putAside 2 none ∈ wsX8_caps := mb_X8_caps_wsX8_caps_r1 (List.mem_of_getElem? (i := 13) rfl)
theorem mx_X8_caps_15 : Cond.fieldLink RX8 34 "MillTalkModel" "aside" "[I" ∈ wsX8_caps := mb_X8_caps_wsX8_caps_r1 (List.mem_of_getElem? (i := 14) rfl)
theorem ggX8_caps_X8_putAside : GoodIn wsX8_caps wsX8_putAside := goodIn_sub (by unfold wsX8_putAside; exact List.forall_mem_cons.mpr ⟨mx_X8_caps_14, List.forall_mem_append.mpr ⟨List.forall_mem_cons.mpr ⟨mx_X8_caps_15, List.forall_mem_cons.mpr ⟨mx_X8_caps_5, fun _ h_ => absurd h_ List.not_mem_nil⟩⟩, (fun _ h_ => mb_X8_caps_wsX80 h_)⟩⟩) (by decide +kernel)
theorem mx_X8_caps_11 : Cond.methodLink RX8 197 yX8_putAside ∈ wsX8_caps := mb_X8_caps_wsX8_caps_r1 (List.mem_of_getElem? (i := 10) rfl)
theorem mx_X8_caps_12 : Cond.instanceMethod yX8_putAside ∈ wsX8_caps := mb_X8_caps_wsX8_caps_r1 (List.mem_of_getElem? (i := 11) rfl)
theorem mx_X8_caps_13 : Cond.selects RX8 yX8_putAside yX8_putAside ∈ wsX8_caps := mb_X8_caps_wsX8_caps_r1 (List.mem_of_getElem? (i := 12) rfl)
theorem gX8_caps_X8_putAside : GoodIn wsX8_caps (wsV RX8 197 RX8 yX8_putAside wsX8_putAside) := goodIn_app (goodIn_sub (List.forall_mem_cons.mpr ⟨mx_X8_caps_11, List.forall_mem_cons.mpr ⟨mx_X8_caps_12, List.forall_mem_cons.mpr ⟨mx_X8_caps_13, List.forall_mem_cons.mpr ⟨mx_X8_caps_9, fun _ h_ => absurd h_ List.not_mem_nil⟩⟩⟩⟩) (by decide +kernel)) ggX8_caps_X8_putAside
theorem mx_X8_caps_46 : Cond.code yX8_takeBack cX8_takeBack 2 none ∈ wsX8_caps := mb_X8_caps_wsX8_caps_r2 (List.mem_of_getElem? (i := 21) rfl)
theorem ggX8_caps_X8_takeBack : GoodIn wsX8_caps wsX8_takeBack := goodIn_sub (by unfold wsX8_takeBack; exact List.forall_mem_cons.mpr ⟨mx_X8_caps_46, List.forall_mem_append.mpr ⟨List.forall_mem_cons.mpr ⟨mx_X8_caps_5, List.forall_mem_cons.mpr ⟨mx_X8_caps_15, fun _ h_ => absurd h_ List.not_mem_nil⟩⟩, (fun _ h_ => mb_X8_caps_wsX80 h_)⟩⟩) (by decide +kernel)
theorem mx_X8_caps_43 : Cond.methodLink RX8 194 yX8_takeBack ∈ wsX8_caps := mb_X8_caps_wsX8_caps_r2 (List.mem_of_getElem? (i := 18) rfl)
theorem mx_X8_caps_44 : Cond.instanceMethod yX8_takeBack ∈ wsX8_caps := mb_X8_caps_wsX8_caps_r2 (List.mem_of_getElem? (i := 19) rfl)
theorem mx_X8_caps_45 : Cond.selects RX8 yX8_takeBack yX8_takeBack ∈ wsX8_caps := mb_X8_caps_wsX8_caps_r2 (List.mem_of_getElem? (i := 20) rfl)
theorem gX8_caps_X8_takeBack : GoodIn wsX8_caps (wsV RX8 194 RX8 yX8_takeBack wsX8_takeBack) := goodIn_app (goodIn_sub (List.forall_mem_cons.mpr ⟨mx_X8_caps_43, List.forall_mem_cons.mpr ⟨mx_X8_caps_44, List.forall_mem_cons.mpr ⟨mx_X8_caps_45, List.forall_mem_cons.mpr ⟨mx_X8_caps_9, fun _ h_ => absurd h_ List.not_mem_nil⟩⟩⟩⟩) (by decide +kernel)) ggX8_caps_X8_takeBack
theorem mb_X8_goOn_wsX8_goOn_r1 {w : Cond} (h : w ∈ wsX8_goOn_r1) : w ∈ wsX8_goOn := by unfold wsX8_goOn; exact List.mem_cons_of_mem _ (List.mem_append_left _ (List.mem_append_left _ (h)))
theorem mx_X8_goOn_5 : Cond.code yX8_oneHour cX8_oneHour 4 (some .int) ∈ wsX8_goOn := mb_X8_goOn_wsX8_goOn_r1 (List.mem_of_getElem? (i := 4) rfl)
theorem mx_X8_goOn_6 : Cond.fieldLink RX8 19 "MillTalkModel" "st" "[I" ∈ wsX8_goOn := mb_X8_goOn_wsX8_goOn_r1 (List.mem_of_getElem? (i := 5) rfl)
theorem mx_X8_goOn_7 : Cond.methodLink RX8 151 yX8_gustOf ∈ wsX8_goOn := mb_X8_goOn_wsX8_goOn_r1 (List.mem_of_getElem? (i := 6) rfl)
theorem mx_X8_goOn_8 : Cond.instanceMethod yX8_gustOf ∈ wsX8_goOn := mb_X8_goOn_wsX8_goOn_r1 (List.mem_of_getElem? (i := 7) rfl)
theorem mx_X8_goOn_9 : Cond.selects RX8 yX8_gustOf yX8_gustOf ∈ wsX8_goOn := mb_X8_goOn_wsX8_goOn_r1 (List.mem_of_getElem? (i := 8) rfl)
theorem mx_X8_goOn_4 : Cond.initialized RX8 ∈ wsX8_goOn := mb_X8_goOn_wsX8_goOn_r1 (List.mem_of_getElem? (i := 3) rfl)
theorem mx_X8_goOn_10 : Cond.code yX8_gustOf cX8_gustOf 2 (some .int) ∈ wsX8_goOn := mb_X8_goOn_wsX8_goOn_r1 (List.mem_of_getElem? (i := 9) rfl)
theorem mx_X8_goOn_11 : Cond.methodLink RX8 154 yX8_drift ∈ wsX8_goOn := mb_X8_goOn_wsX8_goOn_r1 (List.mem_of_getElem? (i := 10) rfl)
theorem mx_X8_goOn_12 : Cond.instanceMethod yX8_drift ∈ wsX8_goOn := mb_X8_goOn_wsX8_goOn_r1 (List.mem_of_getElem? (i := 11) rfl)
theorem mx_X8_goOn_13 : Cond.selects RX8 yX8_drift yX8_drift ∈ wsX8_goOn := mb_X8_goOn_wsX8_goOn_r1 (List.mem_of_getElem? (i := 12) rfl)
theorem mx_X8_goOn_14 : Cond.code yX8_drift cX8_drift 7 none ∈ wsX8_goOn := mb_X8_goOn_wsX8_goOn_r1 (List.mem_of_getElem? (i := 13) rfl)
theorem mx_X8_goOn_15 : Cond.methodLink RX8 145 yX8_drifts ∈ wsX8_goOn := mb_X8_goOn_wsX8_goOn_r1 (List.mem_of_getElem? (i := 14) rfl)
theorem mx_X8_goOn_16 : Cond.static yX8_drifts ∈ wsX8_goOn := mb_X8_goOn_wsX8_goOn_r1 (List.mem_of_getElem? (i := 15) rfl)
theorem mx_X8_goOn_17 : Cond.code yX8_drifts cX8_drifts 2 (some .int) ∈ wsX8_goOn := mb_X8_goOn_wsX8_goOn_r1 (List.mem_of_getElem? (i := 16) rfl)
theorem mx_X8_goOn_18 : Cond.methodLink RX8 148 yX8_isCell ∈ wsX8_goOn := mb_X8_goOn_wsX8_goOn_r1 (List.mem_of_getElem? (i := 17) rfl)
theorem mx_X8_goOn_19 : Cond.instanceMethod yX8_isCell ∈ wsX8_goOn := mb_X8_goOn_wsX8_goOn_r1 (List.mem_of_getElem? (i := 18) rfl)
theorem mx_X8_goOn_20 : Cond.selects RX8 yX8_isCell yX8_isCell ∈ wsX8_goOn := mb_X8_goOn_wsX8_goOn_r1 (List.mem_of_getElem? (i := 19) rfl)
theorem mx_X8_goOn_21 : Cond.code yX8_isCell cX8_isCell 2 (some .boolean) ∈ wsX8_goOn := mb_X8_goOn_wsX8_goOn_r1 (List.mem_of_getElem? (i := 20) rfl)
theorem mx_X8_goOn_22 : Cond.methodLink RX8 57 yX8_in ∈ wsX8_goOn := mb_X8_goOn_wsX8_goOn_r1 (List.mem_of_getElem? (i := 21) rfl)
theorem mx_X8_goOn_23 : Cond.static yX8_in ∈ wsX8_goOn := mb_X8_goOn_wsX8_goOn_r1 (List.mem_of_getElem? (i := 22) rfl)
theorem mx_X8_goOn_24 : Cond.code yX8_in cX8_in 6 (some .boolean) ∈ wsX8_goOn := mb_X8_goOn_wsX8_goOn_r1 (List.mem_of_getElem? (i := 23) rfl)
theorem mb_X8_goOn_wsX8_goOn_r2 {w : Cond} (h : w ∈ wsX8_goOn_r2) : w ∈ wsX8_goOn := by unfold wsX8_goOn; exact List.mem_cons_of_mem _ (List.mem_append_left _ (List.mem_append_right _ (h)))
theorem mx_X8_goOn_25 : Cond.methodLink RX8 158 yX8_isAtMill ∈ wsX8_goOn := mb_X8_goOn_wsX8_goOn_r2 (List.mem_of_getElem? (i := 0) rfl)
theorem mx_X8_goOn_26 : Cond.instanceMethod yX8_isAtMill ∈ wsX8_goOn := mb_X8_goOn_wsX8_goOn_r2 (List.mem_of_getElem? (i := 1) rfl)
theorem mx_X8_goOn_27 : Cond.selects RX8 yX8_isAtMill yX8_isAtMill ∈ wsX8_goOn := mb_X8_goOn_wsX8_goOn_r2 (List.mem_of_getElem? (i := 2) rfl)
theorem mx_X8_goOn_28 : Cond.code yX8_isAtMill cX8_isAtMill 3 (some .boolean) ∈ wsX8_goOn := mb_X8_goOn_wsX8_goOn_r2 (List.mem_of_getElem? (i := 3) rfl)
theorem mb_X8_goOn_wsX80 {w : Cond} (h : w ∈ wsX80) : w ∈ wsX8_goOn := by unfold wsX8_goOn; exact List.mem_cons_of_mem _ (List.mem_append_right _ (h))
theorem ggX8_goOn_X8_oneHour : GoodIn wsX8_goOn wsX8_oneHour := goodIn_sub (by unfold wsX8_oneHour; exact List.forall_mem_cons.mpr ⟨mx_X8_goOn_5, List.forall_mem_append.mpr ⟨List.forall_mem_cons.mpr ⟨mx_X8_goOn_6, List.forall_mem_cons.mpr ⟨mx_X8_goOn_7, List.forall_mem_cons.mpr ⟨mx_X8_goOn_8, List.forall_mem_cons.mpr ⟨mx_X8_goOn_9, List.forall_mem_cons.mpr ⟨mx_X8_goOn_4, List.forall_mem_cons.mpr ⟨mx_X8_goOn_10, List.forall_mem_cons.mpr ⟨mx_X8_goOn_11, List.forall_mem_cons.mpr ⟨mx_X8_goOn_12, List.forall_mem_cons.mpr ⟨mx_X8_goOn_13, List.forall_mem_cons.mpr ⟨mx_X8_goOn_14, List.forall_mem_cons.mpr ⟨mx_X8_goOn_15, List.forall_mem_cons.mpr ⟨mx_X8_goOn_16, List.forall_mem_cons.mpr ⟨mx_X8_goOn_17, List.forall_mem_cons.mpr ⟨mx_X8_goOn_18, List.forall_mem_cons.mpr ⟨mx_X8_goOn_19, List.forall_mem_cons.mpr ⟨mx_X8_goOn_20, List.forall_mem_cons.mpr ⟨mx_X8_goOn_21, List.forall_mem_cons.mpr ⟨mx_X8_goOn_22, List.forall_mem_cons.mpr ⟨mx_X8_goOn_23, List.forall_mem_cons.mpr ⟨mx_X8_goOn_24, List.forall_mem_cons.mpr ⟨mx_X8_goOn_25, List.forall_mem_cons.mpr ⟨mx_X8_goOn_26, List.forall_mem_cons.mpr ⟨mx_X8_goOn_27, List.forall_mem_cons.mpr ⟨mx_X8_goOn_28, fun _ h_ => absurd h_ List.not_mem_nil⟩⟩⟩⟩⟩⟩⟩⟩⟩⟩⟩⟩⟩⟩⟩⟩⟩⟩⟩⟩⟩⟩⟩⟩, (fun _ h_ => mb_X8_goOn_wsX80 h_)⟩⟩) (by decide +kernel)
theorem mx_X8_goOn_1 : Cond.methodLink RX8 167 yX8_oneHour ∈ wsX8_goOn := mb_X8_goOn_wsX8_goOn_r1 (List.mem_of_getElem? (i := 0) rfl)
theorem mx_X8_goOn_2 : Cond.instanceMethod yX8_oneHour ∈ wsX8_goOn := mb_X8_goOn_wsX8_goOn_r1 (List.mem_of_getElem? (i := 1) rfl)
theorem mx_X8_goOn_3 : Cond.selects RX8 yX8_oneHour yX8_oneHour ∈ wsX8_goOn := mb_X8_goOn_wsX8_goOn_r1 (List.mem_of_getElem? (i := 2) rfl)
theorem gX8_goOn_X8_oneHour : GoodIn wsX8_goOn (wsV RX8 167 RX8 yX8_oneHour wsX8_oneHour) := goodIn_app (goodIn_sub (List.forall_mem_cons.mpr ⟨mx_X8_goOn_1, List.forall_mem_cons.mpr ⟨mx_X8_goOn_2, List.forall_mem_cons.mpr ⟨mx_X8_goOn_3, List.forall_mem_cons.mpr ⟨mx_X8_goOn_4, fun _ h_ => absurd h_ List.not_mem_nil⟩⟩⟩⟩) (by decide +kernel)) ggX8_goOn_X8_oneHour
theorem mb_X8_goTurning_wsX8_goTurning_r1 {w : Cond} (h : w ∈ wsX8_goTurning_r1) : w ∈ wsX8_goTurning := by unfold wsX8_goTurning; exact List.mem_cons_of_mem _ (List.mem_append_left _ (List.mem_append_left _ (h)))
theorem mx_X8_goTurning_6 : Cond.code yX8_oneHour cX8_oneHour 4 (some .int) ∈ wsX8_goTurning := mb_X8_goTurning_wsX8_goTurning_r1 (List.mem_of_getElem? (i := 5) rfl)
theorem mx_X8_goTurning_1 : Cond.fieldLink RX8 19 "MillTalkModel" "st" "[I" ∈ wsX8_goTurning := mb_X8_goTurning_wsX8_goTurning_r1 (List.mem_of_getElem? (i := 0) rfl)
theorem mx_X8_goTurning_7 : Cond.methodLink RX8 151 yX8_gustOf ∈ wsX8_goTurning := mb_X8_goTurning_wsX8_goTurning_r1 (List.mem_of_getElem? (i := 6) rfl)
theorem mx_X8_goTurning_8 : Cond.instanceMethod yX8_gustOf ∈ wsX8_goTurning := mb_X8_goTurning_wsX8_goTurning_r1 (List.mem_of_getElem? (i := 7) rfl)
theorem mx_X8_goTurning_9 : Cond.selects RX8 yX8_gustOf yX8_gustOf ∈ wsX8_goTurning := mb_X8_goTurning_wsX8_goTurning_r1 (List.mem_of_getElem? (i := 8) rfl)
theorem mx_X8_goTurning_5 : Cond.initialized RX8 ∈ wsX8_goTurning := mb_X8_goTurning_wsX8_goTurning_r1 (List.mem_of_getElem? (i := 4) rfl)
theorem mx_X8_goTurning_10 : Cond.code yX8_gustOf cX8_gustOf 2 (some .int) ∈ wsX8_goTurning := mb_X8_goTurning_wsX8_goTurning_r1 (List.mem_of_getElem? (i := 9) rfl)
theorem mx_X8_goTurning_11 : Cond.methodLink RX8 154 yX8_drift ∈ wsX8_goTurning := mb_X8_goTurning_wsX8_goTurning_r1 (List.mem_of_getElem? (i := 10) rfl)
theorem mx_X8_goTurning_12 : Cond.instanceMethod yX8_drift ∈ wsX8_goTurning := mb_X8_goTurning_wsX8_goTurning_r1 (List.mem_of_getElem? (i := 11) rfl)
theorem mx_X8_goTurning_13 : Cond.selects RX8 yX8_drift yX8_drift ∈ wsX8_goTurning := mb_X8_goTurning_wsX8_goTurning_r1 (List.mem_of_getElem? (i := 12) rfl)
theorem mx_X8_goTurning_14 : Cond.code yX8_drift cX8_drift 7 none ∈ wsX8_goTurning := mb_X8_goTurning_wsX8_goTurning_r1 (List.mem_of_getElem? (i := 13) rfl)
theorem mx_X8_goTurning_15 : Cond.methodLink RX8 145 yX8_drifts ∈ wsX8_goTurning := mb_X8_goTurning_wsX8_goTurning_r1 (List.mem_of_getElem? (i := 14) rfl)
theorem mx_X8_goTurning_16 : Cond.static yX8_drifts ∈ wsX8_goTurning := mb_X8_goTurning_wsX8_goTurning_r1 (List.mem_of_getElem? (i := 15) rfl)
theorem mx_X8_goTurning_17 : Cond.code yX8_drifts cX8_drifts 2 (some .int) ∈ wsX8_goTurning := mb_X8_goTurning_wsX8_goTurning_r1 (List.mem_of_getElem? (i := 16) rfl)
theorem mx_X8_goTurning_18 : Cond.methodLink RX8 148 yX8_isCell ∈ wsX8_goTurning := mb_X8_goTurning_wsX8_goTurning_r1 (List.mem_of_getElem? (i := 17) rfl)
theorem mx_X8_goTurning_19 : Cond.instanceMethod yX8_isCell ∈ wsX8_goTurning := mb_X8_goTurning_wsX8_goTurning_r1 (List.mem_of_getElem? (i := 18) rfl)
theorem mx_X8_goTurning_20 : Cond.selects RX8 yX8_isCell yX8_isCell ∈ wsX8_goTurning := mb_X8_goTurning_wsX8_goTurning_r1 (List.mem_of_getElem? (i := 19) rfl)
theorem mx_X8_goTurning_21 : Cond.code yX8_isCell cX8_isCell 2 (some .boolean) ∈ wsX8_goTurning := mb_X8_goTurning_wsX8_goTurning_r1 (List.mem_of_getElem? (i := 20) rfl)
theorem mx_X8_goTurning_22 : Cond.methodLink RX8 57 yX8_in ∈ wsX8_goTurning := mb_X8_goTurning_wsX8_goTurning_r1 (List.mem_of_getElem? (i := 21) rfl)
theorem mx_X8_goTurning_23 : Cond.static yX8_in ∈ wsX8_goTurning := mb_X8_goTurning_wsX8_goTurning_r1 (List.mem_of_getElem? (i := 22) rfl)
theorem mx_X8_goTurning_24 : Cond.code yX8_in cX8_in 6 (some .boolean) ∈ wsX8_goTurning := mb_X8_goTurning_wsX8_goTurning_r1 (List.mem_of_getElem? (i := 23) rfl)
theorem mb_X8_goTurning_wsX8_goTurning_r2 {w : Cond} (h : w ∈ wsX8_goTurning_r2) : w ∈ wsX8_goTurning := by unfold wsX8_goTurning; exact List.mem_cons_of_mem _ (List.mem_append_left _ (List.mem_append_right _ (h)))
theorem mx_X8_goTurning_25 : Cond.methodLink RX8 158 yX8_isAtMill ∈ wsX8_goTurning := mb_X8_goTurning_wsX8_goTurning_r2 (List.mem_of_getElem? (i := 0) rfl)
theorem mx_X8_goTurning_26 : Cond.instanceMethod yX8_isAtMill ∈ wsX8_goTurning := mb_X8_goTurning_wsX8_goTurning_r2 (List.mem_of_getElem? (i := 1) rfl)
theorem mx_X8_goTurning_27 : Cond.selects RX8 yX8_isAtMill yX8_isAtMill ∈ wsX8_goTurning := mb_X8_goTurning_wsX8_goTurning_r2 (List.mem_of_getElem? (i := 2) rfl)
theorem mx_X8_goTurning_28 : Cond.code yX8_isAtMill cX8_isAtMill 3 (some .boolean) ∈ wsX8_goTurning := mb_X8_goTurning_wsX8_goTurning_r2 (List.mem_of_getElem? (i := 3) rfl)
theorem mb_X8_goTurning_wsX80 {w : Cond} (h : w ∈ wsX80) : w ∈ wsX8_goTurning := by unfold wsX8_goTurning; exact List.mem_cons_of_mem _ (List.mem_append_right _ (h))
theorem ggX8_goTurning_X8_oneHour : GoodIn wsX8_goTurning wsX8_oneHour := goodIn_sub (by unfold wsX8_oneHour; exact List.forall_mem_cons.mpr ⟨mx_X8_goTurning_6, List.forall_mem_append.mpr ⟨List.forall_mem_cons.mpr ⟨mx_X8_goTurning_1, List.forall_mem_cons.mpr ⟨mx_X8_goTurning_7, List.forall_mem_cons.mpr ⟨mx_X8_goTurning_8, List.forall_mem_cons.mpr ⟨mx_X8_goTurning_9, List.forall_mem_cons.mpr ⟨mx_X8_goTurning_5, List.forall_mem_cons.mpr ⟨mx_X8_goTurning_10, List.forall_mem_cons.mpr ⟨mx_X8_goTurning_11, List.forall_mem_cons.mpr ⟨mx_X8_goTurning_12, List.forall_mem_cons.mpr ⟨mx_X8_goTurning_13, List.forall_mem_cons.mpr ⟨mx_X8_goTurning_14, List.forall_mem_cons.mpr ⟨mx_X8_goTurning_15, List.forall_mem_cons.mpr ⟨mx_X8_goTurning_16, List.forall_mem_cons.mpr ⟨mx_X8_goTurning_17, List.forall_mem_cons.mpr ⟨mx_X8_goTurning_18, List.forall_mem_cons.mpr ⟨mx_X8_goTurning_19, List.forall_mem_cons.mpr ⟨mx_X8_goTurning_20, List.forall_mem_cons.mpr ⟨mx_X8_goTurning_21, List.forall_mem_cons.mpr ⟨mx_X8_goTurning_22, List.forall_mem_cons.mpr ⟨mx_X8_goTurning_23, List.forall_mem_cons.mpr ⟨mx_X8_goTurning_24, List.forall_mem_cons.mpr ⟨mx_X8_goTurning_25, List.forall_mem_cons.mpr ⟨mx_X8_goTurning_26, List.forall_mem_cons.mpr ⟨mx_X8_goTurning_27, List.forall_mem_cons.mpr ⟨mx_X8_goTurning_28, fun _ h_ => absurd h_ List.not_mem_nil⟩⟩⟩⟩⟩⟩⟩⟩⟩⟩⟩⟩⟩⟩⟩⟩⟩⟩⟩⟩⟩⟩⟩⟩, (fun _ h_ => mb_X8_goTurning_wsX80 h_)⟩⟩) (by decide +kernel)
theorem mx_X8_goTurning_2 : Cond.methodLink RX8 167 yX8_oneHour ∈ wsX8_goTurning := mb_X8_goTurning_wsX8_goTurning_r1 (List.mem_of_getElem? (i := 1) rfl)
theorem mx_X8_goTurning_3 : Cond.instanceMethod yX8_oneHour ∈ wsX8_goTurning := mb_X8_goTurning_wsX8_goTurning_r1 (List.mem_of_getElem? (i := 2) rfl)
theorem mx_X8_goTurning_4 : Cond.selects RX8 yX8_oneHour yX8_oneHour ∈ wsX8_goTurning := mb_X8_goTurning_wsX8_goTurning_r1 (List.mem_of_getElem? (i := 3) rfl)
theorem gX8_goTurning_X8_oneHour : GoodIn wsX8_goTurning (wsV RX8 167 RX8 yX8_oneHour wsX8_oneHour) := goodIn_app (goodIn_sub (List.forall_mem_cons.mpr ⟨mx_X8_goTurning_2, List.forall_mem_cons.mpr ⟨mx_X8_goTurning_3, List.forall_mem_cons.mpr ⟨mx_X8_goTurning_4, List.forall_mem_cons.mpr ⟨mx_X8_goTurning_5, fun _ h_ => absurd h_ List.not_mem_nil⟩⟩⟩⟩) (by decide +kernel)) ggX8_goTurning_X8_oneHour
theorem mx_X8_gust_13 : Cond.code yX8_gustOf cX8_gustOf 2 (some .int) ∈ wsX8_gust := by unfold wsX8_gust; exact List.mem_cons_of_mem _ (List.mem_append_left _ (List.mem_of_getElem? (i := 12) rfl))
theorem mx_X8_gust_4 : Cond.fieldLink RX8 19 "MillTalkModel" "st" "[I" ∈ wsX8_gust := by unfold wsX8_gust; exact List.mem_cons_of_mem _ (List.mem_append_left _ (List.mem_of_getElem? (i := 3) rfl))
theorem mb_X8_gust_wsX80 {w : Cond} (h : w ∈ wsX80) : w ∈ wsX8_gust := by unfold wsX8_gust; exact List.mem_cons_of_mem _ (List.mem_append_right _ (h))
theorem ggX8_gust_X8_gustOf : GoodIn wsX8_gust wsX8_gustOf := goodIn_sub (by unfold wsX8_gustOf; exact List.forall_mem_cons.mpr ⟨mx_X8_gust_13, List.forall_mem_append.mpr ⟨List.forall_mem_cons.mpr ⟨mx_X8_gust_4, fun _ h_ => absurd h_ List.not_mem_nil⟩, (fun _ h_ => mb_X8_gust_wsX80 h_)⟩⟩) (by decide +kernel)
theorem mx_X8_gust_10 : Cond.methodLink RX8 151 yX8_gustOf ∈ wsX8_gust := by unfold wsX8_gust; exact List.mem_cons_of_mem _ (List.mem_append_left _ (List.mem_of_getElem? (i := 9) rfl))
theorem mx_X8_gust_11 : Cond.instanceMethod yX8_gustOf ∈ wsX8_gust := by unfold wsX8_gust; exact List.mem_cons_of_mem _ (List.mem_append_left _ (List.mem_of_getElem? (i := 10) rfl))
theorem mx_X8_gust_12 : Cond.selects RX8 yX8_gustOf yX8_gustOf ∈ wsX8_gust := by unfold wsX8_gust; exact List.mem_cons_of_mem _ (List.mem_append_left _ (List.mem_of_getElem? (i := 11) rfl))
theorem mx_X8_gust_8 : Cond.initialized RX8 ∈ wsX8_gust := by unfold wsX8_gust; exact List.mem_cons_of_mem _ (List.mem_append_left _ (List.mem_of_getElem? (i := 7) rfl))
theorem gX8_gust_X8_gustOf : GoodIn wsX8_gust (wsV RX8 151 RX8 yX8_gustOf wsX8_gustOf) := goodIn_app (goodIn_sub (List.forall_mem_cons.mpr ⟨mx_X8_gust_10, List.forall_mem_cons.mpr ⟨mx_X8_gust_11, List.forall_mem_cons.mpr ⟨mx_X8_gust_12, List.forall_mem_cons.mpr ⟨mx_X8_gust_8, fun _ h_ => absurd h_ List.not_mem_nil⟩⟩⟩⟩) (by decide +kernel)) ggX8_gust_X8_gustOf
theorem mx_X8_gust_9 : Cond.code yX8_in cX8_in 6 (some .boolean) ∈ wsX8_gust := by unfold wsX8_gust; exact List.mem_cons_of_mem _ (List.mem_append_left _ (List.mem_of_getElem? (i := 8) rfl))
theorem ggX8_gust_X8_in : GoodIn wsX8_gust wsX8_in := goodIn_sub (by unfold wsX8_in; exact List.forall_mem_cons.mpr ⟨mx_X8_gust_9, fun _ h_ => absurd h_ List.not_mem_nil⟩) (by decide +kernel)
set_option maxRecDepth 20000 in
theorem gX8_gust_X8_in : GoodIn wsX8_gust (va_wsS RX8 57 yX8_in wsX8_in) := goodIn_app (goodIn_of _ (by decide +kernel)) ggX8_gust_X8_in
theorem mb_X8_had_wsX8_had_r1 {w : Cond} (h : w ∈ wsX8_had_r1) : w ∈ wsX8_had := by unfold wsX8_had; exact List.mem_cons_of_mem _ (List.mem_append_left _ (List.mem_append_left _ (h)))
theorem mx_X8_had_19 : Cond.code yX8_goTurning cX8_goTurning 6 (some .int) ∈ wsX8_had := mb_X8_had_wsX8_had_r1 (List.mem_of_getElem? (i := 18) rfl)
theorem mx_X8_had_3 : Cond.fieldLink RX8 19 "MillTalkModel" "st" "[I" ∈ wsX8_had := mb_X8_had_wsX8_had_r1 (List.mem_of_getElem? (i := 2) rfl)
theorem mx_X8_had_20 : Cond.methodLink RX8 167 yX8_oneHour ∈ wsX8_had := mb_X8_had_wsX8_had_r1 (List.mem_of_getElem? (i := 19) rfl)
theorem mx_X8_had_21 : Cond.instanceMethod yX8_oneHour ∈ wsX8_had := mb_X8_had_wsX8_had_r1 (List.mem_of_getElem? (i := 20) rfl)
theorem mx_X8_had_22 : Cond.selects RX8 yX8_oneHour yX8_oneHour ∈ wsX8_had := mb_X8_had_wsX8_had_r1 (List.mem_of_getElem? (i := 21) rfl)
theorem mx_X8_had_9 : Cond.initialized RX8 ∈ wsX8_had := mb_X8_had_wsX8_had_r1 (List.mem_of_getElem? (i := 8) rfl)
theorem mx_X8_had_23 : Cond.code yX8_oneHour cX8_oneHour 4 (some .int) ∈ wsX8_had := mb_X8_had_wsX8_had_r1 (List.mem_of_getElem? (i := 22) rfl)
theorem mx_X8_had_24 : Cond.methodLink RX8 151 yX8_gustOf ∈ wsX8_had := mb_X8_had_wsX8_had_r1 (List.mem_of_getElem? (i := 23) rfl)
theorem mb_X8_had_wsX8_had_r2 {w : Cond} (h : w ∈ wsX8_had_r2) : w ∈ wsX8_had := by unfold wsX8_had; exact List.mem_cons_of_mem _ (List.mem_append_left _ (List.mem_append_right _ (List.mem_append_left _ (h))))
theorem mx_X8_had_25 : Cond.instanceMethod yX8_gustOf ∈ wsX8_had := mb_X8_had_wsX8_had_r2 (List.mem_of_getElem? (i := 0) rfl)
theorem mx_X8_had_26 : Cond.selects RX8 yX8_gustOf yX8_gustOf ∈ wsX8_had := mb_X8_had_wsX8_had_r2 (List.mem_of_getElem? (i := 1) rfl)
theorem mx_X8_had_27 : Cond.code yX8_gustOf cX8_gustOf 2 (some .int) ∈ wsX8_had := mb_X8_had_wsX8_had_r2 (List.mem_of_getElem? (i := 2) rfl)
theorem mx_X8_had_28 : Cond.methodLink RX8 154 yX8_drift ∈ wsX8_had := mb_X8_had_wsX8_had_r2 (List.mem_of_getElem? (i := 3) rfl)
theorem mx_X8_had_29 : Cond.instanceMethod yX8_drift ∈ wsX8_had := mb_X8_had_wsX8_had_r2 (List.mem_of_getElem? (i := 4) rfl)
theorem mx_X8_had_30 : Cond.selects RX8 yX8_drift yX8_drift ∈ wsX8_had := mb_X8_had_wsX8_had_r2 (List.mem_of_getElem? (i := 5) rfl)
theorem mx_X8_had_31 : Cond.code yX8_drift cX8_drift 7 none ∈ wsX8_had := mb_X8_had_wsX8_had_r2 (List.mem_of_getElem? (i := 6) rfl)
theorem mx_X8_had_32 : Cond.methodLink RX8 145 yX8_drifts ∈ wsX8_had := mb_X8_had_wsX8_had_r2 (List.mem_of_getElem? (i := 7) rfl)
theorem mx_X8_had_33 : Cond.static yX8_drifts ∈ wsX8_had := mb_X8_had_wsX8_had_r2 (List.mem_of_getElem? (i := 8) rfl)
theorem mx_X8_had_34 : Cond.code yX8_drifts cX8_drifts 2 (some .int) ∈ wsX8_had := mb_X8_had_wsX8_had_r2 (List.mem_of_getElem? (i := 9) rfl)
theorem mx_X8_had_35 : Cond.methodLink RX8 148 yX8_isCell ∈ wsX8_had := mb_X8_had_wsX8_had_r2 (List.mem_of_getElem? (i := 10) rfl)
theorem mx_X8_had_36 : Cond.instanceMethod yX8_isCell ∈ wsX8_had := mb_X8_had_wsX8_had_r2 (List.mem_of_getElem? (i := 11) rfl)
theorem mx_X8_had_37 : Cond.selects RX8 yX8_isCell yX8_isCell ∈ wsX8_had := mb_X8_had_wsX8_had_r2 (List.mem_of_getElem? (i := 12) rfl)
theorem mx_X8_had_38 : Cond.code yX8_isCell cX8_isCell 2 (some .boolean) ∈ wsX8_had := mb_X8_had_wsX8_had_r2 (List.mem_of_getElem? (i := 13) rfl)
theorem mx_X8_had_7 : Cond.methodLink RX8 57 yX8_in ∈ wsX8_had := mb_X8_had_wsX8_had_r1 (List.mem_of_getElem? (i := 6) rfl)
theorem mx_X8_had_8 : Cond.static yX8_in ∈ wsX8_had := mb_X8_had_wsX8_had_r1 (List.mem_of_getElem? (i := 7) rfl)
theorem mx_X8_had_10 : Cond.code yX8_in cX8_in 6 (some .boolean) ∈ wsX8_had := mb_X8_had_wsX8_had_r1 (List.mem_of_getElem? (i := 9) rfl)
theorem mx_X8_had_39 : Cond.methodLink RX8 158 yX8_isAtMill ∈ wsX8_had := mb_X8_had_wsX8_had_r2 (List.mem_of_getElem? (i := 14) rfl)
theorem mx_X8_had_40 : Cond.instanceMethod yX8_isAtMill ∈ wsX8_had := mb_X8_had_wsX8_had_r2 (List.mem_of_getElem? (i := 15) rfl)
theorem mx_X8_had_41 : Cond.selects RX8 yX8_isAtMill yX8_isAtMill ∈ wsX8_had := mb_X8_had_wsX8_had_r2 (List.mem_of_getElem? (i := 16) rfl)
theorem mx_X8_had_42 : Cond.code yX8_isAtMill cX8_isAtMill 3 (some .boolean) ∈ wsX8_had := mb_X8_had_wsX8_had_r2 (List.mem_of_getElem? (i := 17) rfl)
theorem mb_X8_had_wsX80 {w : Cond} (h : w ∈ wsX80) : w ∈ wsX8_had := by unfold wsX8_had; exact List.mem_cons_of_mem _ (List.mem_append_right _ (h))
theorem ggX8_had_X8_goTurning : GoodIn wsX8_had wsX8_goTurning := goodIn_sub (by unfold wsX8_goTurning; exact List.forall_mem_cons.mpr ⟨mx_X8_had_19, List.forall_mem_append.mpr ⟨List.forall_mem_append.mpr ⟨(by unfold wsX8_goTurning_r1; exact List.forall_mem_cons.mpr ⟨mx_X8_had_3, List.forall_mem_cons.mpr ⟨mx_X8_had_20, List.forall_mem_cons.mpr ⟨mx_X8_had_21, List.forall_mem_cons.mpr ⟨mx_X8_had_22, List.forall_mem_cons.mpr ⟨mx_X8_had_9, List.forall_mem_cons.mpr ⟨mx_X8_had_23, List.forall_mem_cons.mpr ⟨mx_X8_had_24, List.forall_mem_cons.mpr ⟨mx_X8_had_25, List.forall_mem_cons.mpr ⟨mx_X8_had_26, List.forall_mem_cons.mpr ⟨mx_X8_had_27, List.forall_mem_cons.mpr ⟨mx_X8_had_28, List.forall_mem_cons.mpr ⟨mx_X8_had_29, List.forall_mem_cons.mpr ⟨mx_X8_had_30, List.forall_mem_cons.mpr ⟨mx_X8_had_31, List.forall_mem_cons.mpr ⟨mx_X8_had_32, List.forall_mem_cons.mpr ⟨mx_X8_had_33, List.forall_mem_cons.mpr ⟨mx_X8_had_34, List.forall_mem_cons.mpr ⟨mx_X8_had_35, List.forall_mem_cons.mpr ⟨mx_X8_had_36, List.forall_mem_cons.mpr ⟨mx_X8_had_37, List.forall_mem_cons.mpr ⟨mx_X8_had_38, List.forall_mem_cons.mpr ⟨mx_X8_had_7, List.forall_mem_cons.mpr ⟨mx_X8_had_8, List.forall_mem_cons.mpr ⟨mx_X8_had_10, fun _ h_ => absurd h_ List.not_mem_nil⟩⟩⟩⟩⟩⟩⟩⟩⟩⟩⟩⟩⟩⟩⟩⟩⟩⟩⟩⟩⟩⟩⟩⟩), (by unfold wsX8_goTurning_r2; exact List.forall_mem_cons.mpr ⟨mx_X8_had_39, List.forall_mem_cons.mpr ⟨mx_X8_had_40, List.forall_mem_cons.mpr ⟨mx_X8_had_41, List.forall_mem_cons.mpr ⟨mx_X8_had_42, fun _ h_ => absurd h_ List.not_mem_nil⟩⟩⟩⟩)⟩, (fun _ h_ => mb_X8_had_wsX80 h_)⟩⟩) (by decide +kernel)
theorem mx_X8_had_16 : Cond.methodLink RX8 205 yX8_goTurning ∈ wsX8_had := mb_X8_had_wsX8_had_r1 (List.mem_of_getElem? (i := 15) rfl)
theorem mx_X8_had_17 : Cond.instanceMethod yX8_goTurning ∈ wsX8_had := mb_X8_had_wsX8_had_r1 (List.mem_of_getElem? (i := 16) rfl)
theorem mx_X8_had_18 : Cond.selects RX8 yX8_goTurning yX8_goTurning ∈ wsX8_had := mb_X8_had_wsX8_had_r1 (List.mem_of_getElem? (i := 17) rfl)
theorem gX8_had_X8_goTurning : GoodIn wsX8_had (wsV RX8 205 RX8 yX8_goTurning wsX8_goTurning) := goodIn_app (goodIn_sub (List.forall_mem_cons.mpr ⟨mx_X8_had_16, List.forall_mem_cons.mpr ⟨mx_X8_had_17, List.forall_mem_cons.mpr ⟨mx_X8_had_18, List.forall_mem_cons.mpr ⟨mx_X8_had_9, fun _ h_ => absurd h_ List.not_mem_nil⟩⟩⟩⟩) (by decide +kernel)) ggX8_had_X8_goTurning
theorem ggX8_had_X8_in : GoodIn wsX8_had wsX8_in := goodIn_sub (by unfold wsX8_in; exact List.forall_mem_cons.mpr ⟨mx_X8_had_10, fun _ h_ => absurd h_ List.not_mem_nil⟩) (by decide +kernel)
set_option maxRecDepth 20000 in
theorem gX8_had_X8_in : GoodIn wsX8_had (va_wsS RX8 57 yX8_in wsX8_in) := goodIn_app (goodIn_of _ (by decide +kernel)) ggX8_had_X8_in
theorem mx_X8_had_14 : Cond.code yX8_putAside cX8_putAside 2 none ∈ wsX8_had := mb_X8_had_wsX8_had_r1 (List.mem_of_getElem? (i := 13) rfl)
theorem mx_X8_had_15 : Cond.fieldLink RX8 34 "MillTalkModel" "aside" "[I" ∈ wsX8_had := mb_X8_had_wsX8_had_r1 (List.mem_of_getElem? (i := 14) rfl)
theorem ggX8_had_X8_putAside : GoodIn wsX8_had wsX8_putAside := goodIn_sub (by unfold wsX8_putAside; exact List.forall_mem_cons.mpr ⟨mx_X8_had_14, List.forall_mem_append.mpr ⟨List.forall_mem_cons.mpr ⟨mx_X8_had_15, List.forall_mem_cons.mpr ⟨mx_X8_had_3, fun _ h_ => absurd h_ List.not_mem_nil⟩⟩, (fun _ h_ => mb_X8_had_wsX80 h_)⟩⟩) (by decide +kernel)
theorem mx_X8_had_11 : Cond.methodLink RX8 197 yX8_putAside ∈ wsX8_had := mb_X8_had_wsX8_had_r1 (List.mem_of_getElem? (i := 10) rfl)
theorem mx_X8_had_12 : Cond.instanceMethod yX8_putAside ∈ wsX8_had := mb_X8_had_wsX8_had_r1 (List.mem_of_getElem? (i := 11) rfl)
theorem mx_X8_had_13 : Cond.selects RX8 yX8_putAside yX8_putAside ∈ wsX8_had := mb_X8_had_wsX8_had_r1 (List.mem_of_getElem? (i := 12) rfl)
theorem gX8_had_X8_putAside : GoodIn wsX8_had (wsV RX8 197 RX8 yX8_putAside wsX8_putAside) := goodIn_app (goodIn_sub (List.forall_mem_cons.mpr ⟨mx_X8_had_11, List.forall_mem_cons.mpr ⟨mx_X8_had_12, List.forall_mem_cons.mpr ⟨mx_X8_had_13, List.forall_mem_cons.mpr ⟨mx_X8_had_9, fun _ h_ => absurd h_ List.not_mem_nil⟩⟩⟩⟩) (by decide +kernel)) ggX8_had_X8_putAside
theorem mb_X8_had_wsX8_had_r3 {w : Cond} (h : w ∈ wsX8_had_r3) : w ∈ wsX8_had := by unfold wsX8_had; exact List.mem_cons_of_mem _ (List.mem_append_left _ (List.mem_append_right _ (List.mem_append_right _ (h))))
theorem mx_X8_had_50 : Cond.code yX8_takeBack cX8_takeBack 2 none ∈ wsX8_had := mb_X8_had_wsX8_had_r3 (List.mem_of_getElem? (i := 1) rfl)
theorem ggX8_had_X8_takeBack : GoodIn wsX8_had wsX8_takeBack := goodIn_sub (by unfold wsX8_takeBack; exact List.forall_mem_cons.mpr ⟨mx_X8_had_50, List.forall_mem_append.mpr ⟨List.forall_mem_cons.mpr ⟨mx_X8_had_3, List.forall_mem_cons.mpr ⟨mx_X8_had_15, fun _ h_ => absurd h_ List.not_mem_nil⟩⟩, (fun _ h_ => mb_X8_had_wsX80 h_)⟩⟩) (by decide +kernel)
theorem mx_X8_had_47 : Cond.methodLink RX8 194 yX8_takeBack ∈ wsX8_had := mb_X8_had_wsX8_had_r2 (List.mem_of_getElem? (i := 22) rfl)
theorem mx_X8_had_48 : Cond.instanceMethod yX8_takeBack ∈ wsX8_had := mb_X8_had_wsX8_had_r2 (List.mem_of_getElem? (i := 23) rfl)
theorem mx_X8_had_49 : Cond.selects RX8 yX8_takeBack yX8_takeBack ∈ wsX8_had := mb_X8_had_wsX8_had_r3 (List.mem_of_getElem? (i := 0) rfl)
theorem gX8_had_X8_takeBack : GoodIn wsX8_had (wsV RX8 194 RX8 yX8_takeBack wsX8_takeBack) := goodIn_app (goodIn_sub (List.forall_mem_cons.mpr ⟨mx_X8_had_47, List.forall_mem_cons.mpr ⟨mx_X8_had_48, List.forall_mem_cons.mpr ⟨mx_X8_had_49, List.forall_mem_cons.mpr ⟨mx_X8_had_9, fun _ h_ => absurd h_ List.not_mem_nil⟩⟩⟩⟩) (by decide +kernel)) ggX8_had_X8_takeBack
theorem mx_X8_had_46 : Cond.code yX8_those cX8_those 4 (some .int) ∈ wsX8_had := mb_X8_had_wsX8_had_r2 (List.mem_of_getElem? (i := 21) rfl)
theorem ggX8_had_X8_those : GoodIn wsX8_had wsX8_those := goodIn_sub (by unfold wsX8_those; exact List.forall_mem_cons.mpr ⟨mx_X8_had_46, List.forall_mem_append.mpr ⟨List.forall_mem_cons.mpr ⟨mx_X8_had_3, fun _ h_ => absurd h_ List.not_mem_nil⟩, (fun _ h_ => mb_X8_had_wsX80 h_)⟩⟩) (by decide +kernel)
theorem mx_X8_had_43 : Cond.methodLink RX8 182 yX8_those ∈ wsX8_had := mb_X8_had_wsX8_had_r2 (List.mem_of_getElem? (i := 18) rfl)
theorem mx_X8_had_44 : Cond.instanceMethod yX8_those ∈ wsX8_had := mb_X8_had_wsX8_had_r2 (List.mem_of_getElem? (i := 19) rfl)
theorem mx_X8_had_45 : Cond.selects RX8 yX8_those yX8_those ∈ wsX8_had := mb_X8_had_wsX8_had_r2 (List.mem_of_getElem? (i := 20) rfl)
theorem gX8_had_X8_those : GoodIn wsX8_had (wsV RX8 182 RX8 yX8_those wsX8_those) := goodIn_app (goodIn_sub (List.forall_mem_cons.mpr ⟨mx_X8_had_43, List.forall_mem_cons.mpr ⟨mx_X8_had_44, List.forall_mem_cons.mpr ⟨mx_X8_had_45, List.forall_mem_cons.mpr ⟨mx_X8_had_9, fun _ h_ => absurd h_ List.not_mem_nil⟩⟩⟩⟩) (by decide +kernel)) ggX8_had_X8_those
theorem mx_X8_kind_7 : Cond.code yX8_isSound cX8_isSound 2 (some .boolean) ∈ wsX8_kind := by unfold wsX8_kind; exact List.mem_cons_of_mem _ (List.mem_append_left _ (List.mem_of_getElem? (i := 6) rfl))
theorem mx_X8_kind_1 : Cond.fieldLink RX8 19 "MillTalkModel" "st" "[I" ∈ wsX8_kind := by unfold wsX8_kind; exact List.mem_cons_of_mem _ (List.mem_append_left _ (List.mem_of_getElem? (i := 0) rfl))
theorem mx_X8_kind_8 : Cond.methodLink RX8 57 yX8_in ∈ wsX8_kind := by unfold wsX8_kind; exact List.mem_cons_of_mem _ (List.mem_append_left _ (List.mem_of_getElem? (i := 7) rfl))
theorem mx_X8_kind_9 : Cond.static yX8_in ∈ wsX8_kind := by unfold wsX8_kind; exact List.mem_cons_of_mem _ (List.mem_append_left _ (List.mem_of_getElem? (i := 8) rfl))
theorem mx_X8_kind_6 : Cond.initialized RX8 ∈ wsX8_kind := by unfold wsX8_kind; exact List.mem_cons_of_mem _ (List.mem_append_left _ (List.mem_of_getElem? (i := 5) rfl))
theorem mx_X8_kind_10 : Cond.code yX8_in cX8_in 6 (some .boolean) ∈ wsX8_kind := by unfold wsX8_kind; exact List.mem_cons_of_mem _ (List.mem_append_left _ (List.mem_of_getElem? (i := 9) rfl))
theorem mb_X8_kind_wsX80 {w : Cond} (h : w ∈ wsX80) : w ∈ wsX8_kind := by unfold wsX8_kind; exact List.mem_cons_of_mem _ (List.mem_append_right _ (h))
theorem ggX8_kind_X8_isSound : GoodIn wsX8_kind wsX8_isSound := goodIn_sub (by unfold wsX8_isSound; exact List.forall_mem_cons.mpr ⟨mx_X8_kind_7, List.forall_mem_append.mpr ⟨List.forall_mem_cons.mpr ⟨mx_X8_kind_1, List.forall_mem_cons.mpr ⟨mx_X8_kind_8, List.forall_mem_cons.mpr ⟨mx_X8_kind_9, List.forall_mem_cons.mpr ⟨mx_X8_kind_6, List.forall_mem_cons.mpr ⟨mx_X8_kind_10, fun _ h_ => absurd h_ List.not_mem_nil⟩⟩⟩⟩⟩, (fun _ h_ => mb_X8_kind_wsX80 h_)⟩⟩) (by decide +kernel)
theorem mx_X8_kind_3 : Cond.methodLink RX8 173 yX8_isSound ∈ wsX8_kind := by unfold wsX8_kind; exact List.mem_cons_of_mem _ (List.mem_append_left _ (List.mem_of_getElem? (i := 2) rfl))
theorem mx_X8_kind_4 : Cond.instanceMethod yX8_isSound ∈ wsX8_kind := by unfold wsX8_kind; exact List.mem_cons_of_mem _ (List.mem_append_left _ (List.mem_of_getElem? (i := 3) rfl))
theorem mx_X8_kind_5 : Cond.selects RX8 yX8_isSound yX8_isSound ∈ wsX8_kind := by unfold wsX8_kind; exact List.mem_cons_of_mem _ (List.mem_append_left _ (List.mem_of_getElem? (i := 4) rfl))
theorem gX8_kind_X8_isSound : GoodIn wsX8_kind (wsV RX8 173 RX8 yX8_isSound wsX8_isSound) := goodIn_app (goodIn_sub (List.forall_mem_cons.mpr ⟨mx_X8_kind_3, List.forall_mem_cons.mpr ⟨mx_X8_kind_4, List.forall_mem_cons.mpr ⟨mx_X8_kind_5, List.forall_mem_cons.mpr ⟨mx_X8_kind_6, fun _ h_ => absurd h_ List.not_mem_nil⟩⟩⟩⟩) (by decide +kernel)) ggX8_kind_X8_isSound
theorem mb_X8_mealBehind_wsX8_mealBehind_r1 {w : Cond} (h : w ∈ wsX8_mealBehind_r1) : w ∈ wsX8_mealBehind := by unfold wsX8_mealBehind; exact List.mem_cons_of_mem _ (List.mem_append_left _ (List.mem_append_left _ (h)))
theorem mx_X8_mealBehind_6 : Cond.code yX8_goOn cX8_goOn 3 none ∈ wsX8_mealBehind := mb_X8_mealBehind_wsX8_mealBehind_r1 (List.mem_of_getElem? (i := 5) rfl)
theorem mx_X8_mealBehind_7 : Cond.methodLink RX8 167 yX8_oneHour ∈ wsX8_mealBehind := mb_X8_mealBehind_wsX8_mealBehind_r1 (List.mem_of_getElem? (i := 6) rfl)
theorem mx_X8_mealBehind_8 : Cond.instanceMethod yX8_oneHour ∈ wsX8_mealBehind := mb_X8_mealBehind_wsX8_mealBehind_r1 (List.mem_of_getElem? (i := 7) rfl)
theorem mx_X8_mealBehind_9 : Cond.selects RX8 yX8_oneHour yX8_oneHour ∈ wsX8_mealBehind := mb_X8_mealBehind_wsX8_mealBehind_r1 (List.mem_of_getElem? (i := 8) rfl)
theorem mx_X8_mealBehind_5 : Cond.initialized RX8 ∈ wsX8_mealBehind := mb_X8_mealBehind_wsX8_mealBehind_r1 (List.mem_of_getElem? (i := 4) rfl)
theorem mx_X8_mealBehind_10 : Cond.code yX8_oneHour cX8_oneHour 4 (some .int) ∈ wsX8_mealBehind := mb_X8_mealBehind_wsX8_mealBehind_r1 (List.mem_of_getElem? (i := 9) rfl)
theorem mx_X8_mealBehind_1 : Cond.fieldLink RX8 19 "MillTalkModel" "st" "[I" ∈ wsX8_mealBehind := mb_X8_mealBehind_wsX8_mealBehind_r1 (List.mem_of_getElem? (i := 0) rfl)
theorem mx_X8_mealBehind_11 : Cond.methodLink RX8 151 yX8_gustOf ∈ wsX8_mealBehind := mb_X8_mealBehind_wsX8_mealBehind_r1 (List.mem_of_getElem? (i := 10) rfl)
theorem mx_X8_mealBehind_12 : Cond.instanceMethod yX8_gustOf ∈ wsX8_mealBehind := mb_X8_mealBehind_wsX8_mealBehind_r1 (List.mem_of_getElem? (i := 11) rfl)
theorem mx_X8_mealBehind_13 : Cond.selects RX8 yX8_gustOf yX8_gustOf ∈ wsX8_mealBehind := mb_X8_mealBehind_wsX8_mealBehind_r1 (List.mem_of_getElem? (i := 12) rfl)
theorem mx_X8_mealBehind_14 : Cond.code yX8_gustOf cX8_gustOf 2 (some .int) ∈ wsX8_mealBehind := mb_X8_mealBehind_wsX8_mealBehind_r1 (List.mem_of_getElem? (i := 13) rfl)
theorem mx_X8_mealBehind_15 : Cond.methodLink RX8 154 yX8_drift ∈ wsX8_mealBehind := mb_X8_mealBehind_wsX8_mealBehind_r1 (List.mem_of_getElem? (i := 14) rfl)
theorem mx_X8_mealBehind_16 : Cond.instanceMethod yX8_drift ∈ wsX8_mealBehind := mb_X8_mealBehind_wsX8_mealBehind_r1 (List.mem_of_getElem? (i := 15) rfl)
theorem mx_X8_mealBehind_17 : Cond.selects RX8 yX8_drift yX8_drift ∈ wsX8_mealBehind := mb_X8_mealBehind_wsX8_mealBehind_r1 (List.mem_of_getElem? (i := 16) rfl)
theorem mx_X8_mealBehind_18 : Cond.code yX8_drift cX8_drift 7 none ∈ wsX8_mealBehind := mb_X8_mealBehind_wsX8_mealBehind_r1 (List.mem_of_getElem? (i := 17) rfl)
theorem mx_X8_mealBehind_19 : Cond.methodLink RX8 145 yX8_drifts ∈ wsX8_mealBehind := mb_X8_mealBehind_wsX8_mealBehind_r1 (List.mem_of_getElem? (i := 18) rfl)
theorem mx_X8_mealBehind_20 : Cond.static yX8_drifts ∈ wsX8_mealBehind := mb_X8_mealBehind_wsX8_mealBehind_r1 (List.mem_of_getElem? (i := 19) rfl)
theorem mx_X8_mealBehind_21 : Cond.code yX8_drifts cX8_drifts 2 (some .int) ∈ wsX8_mealBehind := mb_X8_mealBehind_wsX8_mealBehind_r1 (List.mem_of_getElem? (i := 20) rfl)
theorem mx_X8_mealBehind_22 : Cond.methodLink RX8 148 yX8_isCell ∈ wsX8_mealBehind := mb_X8_mealBehind_wsX8_mealBehind_r1 (List.mem_of_getElem? (i := 21) rfl)
theorem mx_X8_mealBehind_23 : Cond.instanceMethod yX8_isCell ∈ wsX8_mealBehind := mb_X8_mealBehind_wsX8_mealBehind_r1 (List.mem_of_getElem? (i := 22) rfl)
theorem mx_X8_mealBehind_24 : Cond.selects RX8 yX8_isCell yX8_isCell ∈ wsX8_mealBehind := mb_X8_mealBehind_wsX8_mealBehind_r1 (List.mem_of_getElem? (i := 23) rfl)
theorem mb_X8_mealBehind_wsX8_mealBehind_r2 {w : Cond} (h : w ∈ wsX8_mealBehind_r2) : w ∈ wsX8_mealBehind := by unfold wsX8_mealBehind; exact List.mem_cons_of_mem _ (List.mem_append_left _ (List.mem_append_right _ (h)))
theorem mx_X8_mealBehind_25 : Cond.code yX8_isCell cX8_isCell 2 (some .boolean) ∈ wsX8_mealBehind := mb_X8_mealBehind_wsX8_mealBehind_r2 (List.mem_of_getElem? (i := 0) rfl)
theorem mx_X8_mealBehind_26 : Cond.methodLink RX8 57 yX8_in ∈ wsX8_mealBehind := mb_X8_mealBehind_wsX8_mealBehind_r2 (List.mem_of_getElem? (i := 1) rfl)
theorem mx_X8_mealBehind_27 : Cond.static yX8_in ∈ wsX8_mealBehind := mb_X8_mealBehind_wsX8_mealBehind_r2 (List.mem_of_getElem? (i := 2) rfl)
theorem mx_X8_mealBehind_28 : Cond.code yX8_in cX8_in 6 (some .boolean) ∈ wsX8_mealBehind := mb_X8_mealBehind_wsX8_mealBehind_r2 (List.mem_of_getElem? (i := 3) rfl)
theorem mx_X8_mealBehind_29 : Cond.methodLink RX8 158 yX8_isAtMill ∈ wsX8_mealBehind := mb_X8_mealBehind_wsX8_mealBehind_r2 (List.mem_of_getElem? (i := 4) rfl)
theorem mx_X8_mealBehind_30 : Cond.instanceMethod yX8_isAtMill ∈ wsX8_mealBehind := mb_X8_mealBehind_wsX8_mealBehind_r2 (List.mem_of_getElem? (i := 5) rfl)
theorem mx_X8_mealBehind_31 : Cond.selects RX8 yX8_isAtMill yX8_isAtMill ∈ wsX8_mealBehind := mb_X8_mealBehind_wsX8_mealBehind_r2 (List.mem_of_getElem? (i := 6) rfl)
theorem mx_X8_mealBehind_32 : Cond.code yX8_isAtMill cX8_isAtMill 3 (some .boolean) ∈ wsX8_mealBehind := mb_X8_mealBehind_wsX8_mealBehind_r2 (List.mem_of_getElem? (i := 7) rfl)
theorem mb_X8_mealBehind_wsX80 {w : Cond} (h : w ∈ wsX80) : w ∈ wsX8_mealBehind := by unfold wsX8_mealBehind; exact List.mem_cons_of_mem _ (List.mem_append_right _ (h))
theorem ggX8_mealBehind_X8_goOn : GoodIn wsX8_mealBehind wsX8_goOn := goodIn_sub (by unfold wsX8_goOn; exact List.forall_mem_cons.mpr ⟨mx_X8_mealBehind_6, List.forall_mem_append.mpr ⟨List.forall_mem_append.mpr ⟨(by unfold wsX8_goOn_r1; exact List.forall_mem_cons.mpr ⟨mx_X8_mealBehind_7, List.forall_mem_cons.mpr ⟨mx_X8_mealBehind_8, List.forall_mem_cons.mpr ⟨mx_X8_mealBehind_9, List.forall_mem_cons.mpr ⟨mx_X8_mealBehind_5, List.forall_mem_cons.mpr ⟨mx_X8_mealBehind_10, List.forall_mem_cons.mpr ⟨mx_X8_mealBehind_1, List.forall_mem_cons.mpr ⟨mx_X8_mealBehind_11, List.forall_mem_cons.mpr ⟨mx_X8_mealBehind_12, List.forall_mem_cons.mpr ⟨mx_X8_mealBehind_13, List.forall_mem_cons.mpr ⟨mx_X8_mealBehind_14, List.forall_mem_cons.mpr ⟨mx_X8_mealBehind_15, List.forall_mem_cons.mpr ⟨mx_X8_mealBehind_16, List.forall_mem_cons.mpr ⟨mx_X8_mealBehind_17, List.forall_mem_cons.mpr ⟨mx_X8_mealBehind_18, List.forall_mem_cons.mpr ⟨mx_X8_mealBehind_19, List.forall_mem_cons.mpr ⟨mx_X8_mealBehind_20, List.forall_mem_cons.mpr ⟨mx_X8_mealBehind_21, List.forall_mem_cons.mpr ⟨mx_X8_mealBehind_22, List.forall_mem_cons.mpr ⟨mx_X8_mealBehind_23, List.forall_mem_cons.mpr ⟨mx_X8_mealBehind_24, List.forall_mem_cons.mpr ⟨mx_X8_mealBehind_25, List.forall_mem_cons.mpr ⟨mx_X8_mealBehind_26, List.forall_mem_cons.mpr ⟨mx_X8_mealBehind_27, List.forall_mem_cons.mpr ⟨mx_X8_mealBehind_28, fun _ h_ => absurd h_ List.not_mem_nil⟩⟩⟩⟩⟩⟩⟩⟩⟩⟩⟩⟩⟩⟩⟩⟩⟩⟩⟩⟩⟩⟩⟩⟩), (by unfold wsX8_goOn_r2; exact List.forall_mem_cons.mpr ⟨mx_X8_mealBehind_29, List.forall_mem_cons.mpr ⟨mx_X8_mealBehind_30, List.forall_mem_cons.mpr ⟨mx_X8_mealBehind_31, List.forall_mem_cons.mpr ⟨mx_X8_mealBehind_32, fun _ h_ => absurd h_ List.not_mem_nil⟩⟩⟩⟩)⟩, (fun _ h_ => mb_X8_mealBehind_wsX80 h_)⟩⟩) (by decide +kernel)
theorem mx_X8_mealBehind_2 : Cond.methodLink RX8 190 yX8_goOn ∈ wsX8_mealBehind := mb_X8_mealBehind_wsX8_mealBehind_r1 (List.mem_of_getElem? (i := 1) rfl)
theorem mx_X8_mealBehind_3 : Cond.instanceMethod yX8_goOn ∈ wsX8_mealBehind := mb_X8_mealBehind_wsX8_mealBehind_r1 (List.mem_of_getElem? (i := 2) rfl)
theorem mx_X8_mealBehind_4 : Cond.selects RX8 yX8_goOn yX8_goOn ∈ wsX8_mealBehind := mb_X8_mealBehind_wsX8_mealBehind_r1 (List.mem_of_getElem? (i := 3) rfl)
theorem gX8_mealBehind_X8_goOn : GoodIn wsX8_mealBehind (wsV RX8 190 RX8 yX8_goOn wsX8_goOn) := goodIn_app (goodIn_sub (List.forall_mem_cons.mpr ⟨mx_X8_mealBehind_2, List.forall_mem_cons.mpr ⟨mx_X8_mealBehind_3, List.forall_mem_cons.mpr ⟨mx_X8_mealBehind_4, List.forall_mem_cons.mpr ⟨mx_X8_mealBehind_5, fun _ h_ => absurd h_ List.not_mem_nil⟩⟩⟩⟩) (by decide +kernel)) ggX8_mealBehind_X8_goOn
theorem mx_X8_mealBehind_36 : Cond.code yX8_takeBack cX8_takeBack 2 none ∈ wsX8_mealBehind := mb_X8_mealBehind_wsX8_mealBehind_r2 (List.mem_of_getElem? (i := 11) rfl)
theorem mx_X8_mealBehind_37 : Cond.fieldLink RX8 34 "MillTalkModel" "aside" "[I" ∈ wsX8_mealBehind := mb_X8_mealBehind_wsX8_mealBehind_r2 (List.mem_of_getElem? (i := 12) rfl)
theorem ggX8_mealBehind_X8_takeBack : GoodIn wsX8_mealBehind wsX8_takeBack := goodIn_sub (by unfold wsX8_takeBack; exact List.forall_mem_cons.mpr ⟨mx_X8_mealBehind_36, List.forall_mem_append.mpr ⟨List.forall_mem_cons.mpr ⟨mx_X8_mealBehind_1, List.forall_mem_cons.mpr ⟨mx_X8_mealBehind_37, fun _ h_ => absurd h_ List.not_mem_nil⟩⟩, (fun _ h_ => mb_X8_mealBehind_wsX80 h_)⟩⟩) (by decide +kernel)
theorem mx_X8_mealBehind_33 : Cond.methodLink RX8 194 yX8_takeBack ∈ wsX8_mealBehind := mb_X8_mealBehind_wsX8_mealBehind_r2 (List.mem_of_getElem? (i := 8) rfl)
theorem mx_X8_mealBehind_34 : Cond.instanceMethod yX8_takeBack ∈ wsX8_mealBehind := mb_X8_mealBehind_wsX8_mealBehind_r2 (List.mem_of_getElem? (i := 9) rfl)
theorem mx_X8_mealBehind_35 : Cond.selects RX8 yX8_takeBack yX8_takeBack ∈ wsX8_mealBehind := mb_X8_mealBehind_wsX8_mealBehind_r2 (List.mem_of_getElem? (i := 10) rfl)
theorem gX8_mealBehind_X8_takeBack : GoodIn wsX8_mealBehind (wsV RX8 194 RX8 yX8_takeBack wsX8_takeBack) := goodIn_app (goodIn_sub (List.forall_mem_cons.mpr ⟨mx_X8_mealBehind_33, List.forall_mem_cons.mpr ⟨mx_X8_mealBehind_34, List.forall_mem_cons.mpr ⟨mx_X8_mealBehind_35, List.forall_mem_cons.mpr ⟨mx_X8_mealBehind_5, fun _ h_ => absurd h_ List.not_mem_nil⟩⟩⟩⟩) (by decide +kernel)) ggX8_mealBehind_X8_takeBack
theorem mb_X8_meal_wsX8_meal_r1 {w : Cond} (h : w ∈ wsX8_meal_r1) : w ∈ wsX8_meal := by unfold wsX8_meal; exact List.mem_cons_of_mem _ (List.mem_append_left _ (List.mem_append_left _ (h)))
theorem mx_X8_meal_8 : Cond.code yX8_in cX8_in 6 (some .boolean) ∈ wsX8_meal := mb_X8_meal_wsX8_meal_r1 (List.mem_of_getElem? (i := 7) rfl)
theorem ggX8_meal_X8_in : GoodIn wsX8_meal wsX8_in := goodIn_sub (by unfold wsX8_in; exact List.forall_mem_cons.mpr ⟨mx_X8_meal_8, fun _ h_ => absurd h_ List.not_mem_nil⟩) (by decide +kernel)
set_option maxRecDepth 20000 in
theorem gX8_meal_X8_in : GoodIn wsX8_meal (va_wsS RX8 57 yX8_in wsX8_in) := goodIn_app (goodIn_of _ (by decide +kernel)) ggX8_meal_X8_in
theorem mx_X8_meal_18 : Cond.code yX8_mealBehind cX8_mealBehind 3 (some .int) ∈ wsX8_meal := mb_X8_meal_wsX8_meal_r1 (List.mem_of_getElem? (i := 17) rfl)
theorem mx_X8_meal_14 : Cond.fieldLink RX8 19 "MillTalkModel" "st" "[I" ∈ wsX8_meal := mb_X8_meal_wsX8_meal_r1 (List.mem_of_getElem? (i := 13) rfl)
theorem mx_X8_meal_19 : Cond.methodLink RX8 190 yX8_goOn ∈ wsX8_meal := mb_X8_meal_wsX8_meal_r1 (List.mem_of_getElem? (i := 18) rfl)
theorem mx_X8_meal_20 : Cond.instanceMethod yX8_goOn ∈ wsX8_meal := mb_X8_meal_wsX8_meal_r1 (List.mem_of_getElem? (i := 19) rfl)
theorem mx_X8_meal_21 : Cond.selects RX8 yX8_goOn yX8_goOn ∈ wsX8_meal := mb_X8_meal_wsX8_meal_r1 (List.mem_of_getElem? (i := 20) rfl)
theorem mx_X8_meal_7 : Cond.initialized RX8 ∈ wsX8_meal := mb_X8_meal_wsX8_meal_r1 (List.mem_of_getElem? (i := 6) rfl)
theorem mx_X8_meal_22 : Cond.code yX8_goOn cX8_goOn 3 none ∈ wsX8_meal := mb_X8_meal_wsX8_meal_r1 (List.mem_of_getElem? (i := 21) rfl)
theorem mx_X8_meal_23 : Cond.methodLink RX8 167 yX8_oneHour ∈ wsX8_meal := mb_X8_meal_wsX8_meal_r1 (List.mem_of_getElem? (i := 22) rfl)
theorem mx_X8_meal_24 : Cond.instanceMethod yX8_oneHour ∈ wsX8_meal := mb_X8_meal_wsX8_meal_r1 (List.mem_of_getElem? (i := 23) rfl)
theorem mb_X8_meal_wsX8_meal_r2 {w : Cond} (h : w ∈ wsX8_meal_r2) : w ∈ wsX8_meal := by unfold wsX8_meal; exact List.mem_cons_of_mem _ (List.mem_append_left _ (List.mem_append_right _ (List.mem_append_left _ (h))))
theorem mx_X8_meal_25 : Cond.selects RX8 yX8_oneHour yX8_oneHour ∈ wsX8_meal := mb_X8_meal_wsX8_meal_r2 (List.mem_of_getElem? (i := 0) rfl)
theorem mx_X8_meal_26 : Cond.code yX8_oneHour cX8_oneHour 4 (some .int) ∈ wsX8_meal := mb_X8_meal_wsX8_meal_r2 (List.mem_of_getElem? (i := 1) rfl)
theorem mx_X8_meal_27 : Cond.methodLink RX8 151 yX8_gustOf ∈ wsX8_meal := mb_X8_meal_wsX8_meal_r2 (List.mem_of_getElem? (i := 2) rfl)
theorem mx_X8_meal_28 : Cond.instanceMethod yX8_gustOf ∈ wsX8_meal := mb_X8_meal_wsX8_meal_r2 (List.mem_of_getElem? (i := 3) rfl)
theorem mx_X8_meal_29 : Cond.selects RX8 yX8_gustOf yX8_gustOf ∈ wsX8_meal := mb_X8_meal_wsX8_meal_r2 (List.mem_of_getElem? (i := 4) rfl)
theorem mx_X8_meal_30 : Cond.code yX8_gustOf cX8_gustOf 2 (some .int) ∈ wsX8_meal := mb_X8_meal_wsX8_meal_r2 (List.mem_of_getElem? (i := 5) rfl)
theorem mx_X8_meal_31 : Cond.methodLink RX8 154 yX8_drift ∈ wsX8_meal := mb_X8_meal_wsX8_meal_r2 (List.mem_of_getElem? (i := 6) rfl)
theorem mx_X8_meal_32 : Cond.instanceMethod yX8_drift ∈ wsX8_meal := mb_X8_meal_wsX8_meal_r2 (List.mem_of_getElem? (i := 7) rfl)
theorem mx_X8_meal_33 : Cond.selects RX8 yX8_drift yX8_drift ∈ wsX8_meal := mb_X8_meal_wsX8_meal_r2 (List.mem_of_getElem? (i := 8) rfl)
theorem mx_X8_meal_34 : Cond.code yX8_drift cX8_drift 7 none ∈ wsX8_meal := mb_X8_meal_wsX8_meal_r2 (List.mem_of_getElem? (i := 9) rfl)
theorem mx_X8_meal_35 : Cond.methodLink RX8 145 yX8_drifts ∈ wsX8_meal := mb_X8_meal_wsX8_meal_r2 (List.mem_of_getElem? (i := 10) rfl)
theorem mx_X8_meal_36 : Cond.static yX8_drifts ∈ wsX8_meal := mb_X8_meal_wsX8_meal_r2 (List.mem_of_getElem? (i := 11) rfl)
theorem mx_X8_meal_37 : Cond.code yX8_drifts cX8_drifts 2 (some .int) ∈ wsX8_meal := mb_X8_meal_wsX8_meal_r2 (List.mem_of_getElem? (i := 12) rfl)
theorem mx_X8_meal_38 : Cond.methodLink RX8 148 yX8_isCell ∈ wsX8_meal := mb_X8_meal_wsX8_meal_r2 (List.mem_of_getElem? (i := 13) rfl)
theorem mx_X8_meal_39 : Cond.instanceMethod yX8_isCell ∈ wsX8_meal := mb_X8_meal_wsX8_meal_r2 (List.mem_of_getElem? (i := 14) rfl)
theorem mx_X8_meal_40 : Cond.selects RX8 yX8_isCell yX8_isCell ∈ wsX8_meal := mb_X8_meal_wsX8_meal_r2 (List.mem_of_getElem? (i := 15) rfl)
theorem mx_X8_meal_41 : Cond.code yX8_isCell cX8_isCell 2 (some .boolean) ∈ wsX8_meal := mb_X8_meal_wsX8_meal_r2 (List.mem_of_getElem? (i := 16) rfl)
theorem mx_X8_meal_5 : Cond.methodLink RX8 57 yX8_in ∈ wsX8_meal := mb_X8_meal_wsX8_meal_r1 (List.mem_of_getElem? (i := 4) rfl)
theorem mx_X8_meal_6 : Cond.static yX8_in ∈ wsX8_meal := mb_X8_meal_wsX8_meal_r1 (List.mem_of_getElem? (i := 5) rfl)
theorem mx_X8_meal_42 : Cond.methodLink RX8 158 yX8_isAtMill ∈ wsX8_meal := mb_X8_meal_wsX8_meal_r2 (List.mem_of_getElem? (i := 17) rfl)
theorem mx_X8_meal_43 : Cond.instanceMethod yX8_isAtMill ∈ wsX8_meal := mb_X8_meal_wsX8_meal_r2 (List.mem_of_getElem? (i := 18) rfl)
theorem mx_X8_meal_44 : Cond.selects RX8 yX8_isAtMill yX8_isAtMill ∈ wsX8_meal := mb_X8_meal_wsX8_meal_r2 (List.mem_of_getElem? (i := 19) rfl)
theorem mx_X8_meal_45 : Cond.code yX8_isAtMill cX8_isAtMill 3 (some .boolean) ∈ wsX8_meal := mb_X8_meal_wsX8_meal_r2 (List.mem_of_getElem? (i := 20) rfl)
theorem mx_X8_meal_46 : Cond.methodLink RX8 194 yX8_takeBack ∈ wsX8_meal := mb_X8_meal_wsX8_meal_r2 (List.mem_of_getElem? (i := 21) rfl)
theorem mx_X8_meal_47 : Cond.instanceMethod yX8_takeBack ∈ wsX8_meal := mb_X8_meal_wsX8_meal_r2 (List.mem_of_getElem? (i := 22) rfl)
theorem mx_X8_meal_48 : Cond.selects RX8 yX8_takeBack yX8_takeBack ∈ wsX8_meal := mb_X8_meal_wsX8_meal_r2 (List.mem_of_getElem? (i := 23) rfl)
theorem mb_X8_meal_wsX8_meal_r3 {w : Cond} (h : w ∈ wsX8_meal_r3) : w ∈ wsX8_meal := by unfold wsX8_meal; exact List.mem_cons_of_mem _ (List.mem_append_left _ (List.mem_append_right _ (List.mem_append_right _ (h))))
theorem mx_X8_meal_49 : Cond.code yX8_takeBack cX8_takeBack 2 none ∈ wsX8_meal := mb_X8_meal_wsX8_meal_r3 (List.mem_of_getElem? (i := 0) rfl)
theorem mx_X8_meal_13 : Cond.fieldLink RX8 34 "MillTalkModel" "aside" "[I" ∈ wsX8_meal := mb_X8_meal_wsX8_meal_r1 (List.mem_of_getElem? (i := 12) rfl)
theorem mb_X8_meal_wsX80 {w : Cond} (h : w ∈ wsX80) : w ∈ wsX8_meal := by unfold wsX8_meal; exact List.mem_cons_of_mem _ (List.mem_append_right _ (h))
theorem ggX8_meal_X8_mealBehind : GoodIn wsX8_meal wsX8_mealBehind := goodIn_sub (by unfold wsX8_mealBehind; exact List.forall_mem_cons.mpr ⟨mx_X8_meal_18, List.forall_mem_append.mpr ⟨List.forall_mem_append.mpr ⟨(by unfold wsX8_mealBehind_r1; exact List.forall_mem_cons.mpr ⟨mx_X8_meal_14, List.forall_mem_cons.mpr ⟨mx_X8_meal_19, List.forall_mem_cons.mpr ⟨mx_X8_meal_20, List.forall_mem_cons.mpr ⟨mx_X8_meal_21, List.forall_mem_cons.mpr ⟨mx_X8_meal_7, List.forall_mem_cons.mpr ⟨mx_X8_meal_22, List.forall_mem_cons.mpr ⟨mx_X8_meal_23, List.forall_mem_cons.mpr ⟨mx_X8_meal_24, List.forall_mem_cons.mpr ⟨mx_X8_meal_25, List.forall_mem_cons.mpr ⟨mx_X8_meal_26, List.forall_mem_cons.mpr ⟨mx_X8_meal_27, List.forall_mem_cons.mpr ⟨mx_X8_meal_28, List.forall_mem_cons.mpr ⟨mx_X8_meal_29, List.forall_mem_cons.mpr ⟨mx_X8_meal_30, List.forall_mem_cons.mpr ⟨mx_X8_meal_31, List.forall_mem_cons.mpr ⟨mx_X8_meal_32, List.forall_mem_cons.mpr ⟨mx_X8_meal_33, List.forall_mem_cons.mpr ⟨mx_X8_meal_34, List.forall_mem_cons.mpr ⟨mx_X8_meal_35, List.forall_mem_cons.mpr ⟨mx_X8_meal_36, List.forall_mem_cons.mpr ⟨mx_X8_meal_37, List.forall_mem_cons.mpr ⟨mx_X8_meal_38, List.forall_mem_cons.mpr ⟨mx_X8_meal_39, List.forall_mem_cons.mpr ⟨mx_X8_meal_40, fun _ h_ => absurd h_ List.not_mem_nil⟩⟩⟩⟩⟩⟩⟩⟩⟩⟩⟩⟩⟩⟩⟩⟩⟩⟩⟩⟩⟩⟩⟩⟩), (by unfold wsX8_mealBehind_r2; exact List.forall_mem_cons.mpr ⟨mx_X8_meal_41, List.forall_mem_cons.mpr ⟨mx_X8_meal_5, List.forall_mem_cons.mpr ⟨mx_X8_meal_6, List.forall_mem_cons.mpr ⟨mx_X8_meal_8, List.forall_mem_cons.mpr ⟨mx_X8_meal_42, List.forall_mem_cons.mpr ⟨mx_X8_meal_43, List.forall_mem_cons.mpr ⟨mx_X8_meal_44, List.forall_mem_cons.mpr ⟨mx_X8_meal_45, List.forall_mem_cons.mpr ⟨mx_X8_meal_46, List.forall_mem_cons.mpr ⟨mx_X8_meal_47, List.forall_mem_cons.mpr ⟨mx_X8_meal_48, List.forall_mem_cons.mpr ⟨mx_X8_meal_49, List.forall_mem_cons.mpr ⟨mx_X8_meal_13, fun _ h_ => absurd h_ List.not_mem_nil⟩⟩⟩⟩⟩⟩⟩⟩⟩⟩⟩⟩⟩)⟩, (fun _ h_ => mb_X8_meal_wsX80 h_)⟩⟩) (by decide +kernel)
theorem mx_X8_meal_15 : Cond.methodLink RX8 200 yX8_mealBehind ∈ wsX8_meal := mb_X8_meal_wsX8_meal_r1 (List.mem_of_getElem? (i := 14) rfl)
theorem mx_X8_meal_16 : Cond.instanceMethod yX8_mealBehind ∈ wsX8_meal := mb_X8_meal_wsX8_meal_r1 (List.mem_of_getElem? (i := 15) rfl)
theorem mx_X8_meal_17 : Cond.selects RX8 yX8_mealBehind yX8_mealBehind ∈ wsX8_meal := mb_X8_meal_wsX8_meal_r1 (List.mem_of_getElem? (i := 16) rfl)
theorem gX8_meal_X8_mealBehind : GoodIn wsX8_meal (wsV RX8 200 RX8 yX8_mealBehind wsX8_mealBehind) := goodIn_app (goodIn_sub (List.forall_mem_cons.mpr ⟨mx_X8_meal_15, List.forall_mem_cons.mpr ⟨mx_X8_meal_16, List.forall_mem_cons.mpr ⟨mx_X8_meal_17, List.forall_mem_cons.mpr ⟨mx_X8_meal_7, fun _ h_ => absurd h_ List.not_mem_nil⟩⟩⟩⟩) (by decide +kernel)) ggX8_meal_X8_mealBehind
theorem mx_X8_meal_12 : Cond.code yX8_putAside cX8_putAside 2 none ∈ wsX8_meal := mb_X8_meal_wsX8_meal_r1 (List.mem_of_getElem? (i := 11) rfl)
theorem ggX8_meal_X8_putAside : GoodIn wsX8_meal wsX8_putAside := goodIn_sub (by unfold wsX8_putAside; exact List.forall_mem_cons.mpr ⟨mx_X8_meal_12, List.forall_mem_append.mpr ⟨List.forall_mem_cons.mpr ⟨mx_X8_meal_13, List.forall_mem_cons.mpr ⟨mx_X8_meal_14, fun _ h_ => absurd h_ List.not_mem_nil⟩⟩, (fun _ h_ => mb_X8_meal_wsX80 h_)⟩⟩) (by decide +kernel)
theorem mx_X8_meal_9 : Cond.methodLink RX8 197 yX8_putAside ∈ wsX8_meal := mb_X8_meal_wsX8_meal_r1 (List.mem_of_getElem? (i := 8) rfl)
theorem mx_X8_meal_10 : Cond.instanceMethod yX8_putAside ∈ wsX8_meal := mb_X8_meal_wsX8_meal_r1 (List.mem_of_getElem? (i := 9) rfl)
theorem mx_X8_meal_11 : Cond.selects RX8 yX8_putAside yX8_putAside ∈ wsX8_meal := mb_X8_meal_wsX8_meal_r1 (List.mem_of_getElem? (i := 10) rfl)
theorem gX8_meal_X8_putAside : GoodIn wsX8_meal (wsV RX8 197 RX8 yX8_putAside wsX8_putAside) := goodIn_app (goodIn_sub (List.forall_mem_cons.mpr ⟨mx_X8_meal_9, List.forall_mem_cons.mpr ⟨mx_X8_meal_10, List.forall_mem_cons.mpr ⟨mx_X8_meal_11, List.forall_mem_cons.mpr ⟨mx_X8_meal_7, fun _ h_ => absurd h_ List.not_mem_nil⟩⟩⟩⟩) (by decide +kernel)) ggX8_meal_X8_putAside
theorem mx_X8_sack_9 : Cond.code yX8_in cX8_in 6 (some .boolean) ∈ wsX8_sack := by unfold wsX8_sack; exact List.mem_cons_of_mem _ (List.mem_append_left _ (List.mem_of_getElem? (i := 8) rfl))
theorem ggX8_sack_X8_in : GoodIn wsX8_sack wsX8_in := goodIn_sub (by unfold wsX8_in; exact List.forall_mem_cons.mpr ⟨mx_X8_sack_9, fun _ h_ => absurd h_ List.not_mem_nil⟩) (by decide +kernel)
set_option maxRecDepth 20000 in
theorem gX8_sack_X8_in : GoodIn wsX8_sack (va_wsS RX8 57 yX8_in wsX8_in) := goodIn_app (goodIn_of _ (by decide +kernel)) ggX8_sack_X8_in
theorem mx_X8_sack_18 : Cond.code yX8_loudOf cX8_loudOf 4 (some .int) ∈ wsX8_sack := by unfold wsX8_sack; exact List.mem_cons_of_mem _ (List.mem_append_left _ (List.mem_of_getElem? (i := 17) rfl))
theorem mx_X8_sack_14 : Cond.fieldLink RX8 19 "MillTalkModel" "st" "[I" ∈ wsX8_sack := by unfold wsX8_sack; exact List.mem_cons_of_mem _ (List.mem_append_left _ (List.mem_of_getElem? (i := 13) rfl))
theorem mx_X8_sack_19 : Cond.methodLink RX8 213 yX8_has ∈ wsX8_sack := by unfold wsX8_sack; exact List.mem_cons_of_mem _ (List.mem_append_left _ (List.mem_of_getElem? (i := 18) rfl))
theorem mx_X8_sack_20 : Cond.static yX8_has ∈ wsX8_sack := by unfold wsX8_sack; exact List.mem_cons_of_mem _ (List.mem_append_left _ (List.mem_of_getElem? (i := 19) rfl))
theorem mx_X8_sack_8 : Cond.initialized RX8 ∈ wsX8_sack := by unfold wsX8_sack; exact List.mem_cons_of_mem _ (List.mem_append_left _ (List.mem_of_getElem? (i := 7) rfl))
theorem mx_X8_sack_21 : Cond.code yX8_has cX8_has 2 (some .boolean) ∈ wsX8_sack := by unfold wsX8_sack; exact List.mem_cons_of_mem _ (List.mem_append_left _ (List.mem_of_getElem? (i := 20) rfl))
theorem mb_X8_sack_wsX80 {w : Cond} (h : w ∈ wsX80) : w ∈ wsX8_sack := by unfold wsX8_sack; exact List.mem_cons_of_mem _ (List.mem_append_right _ (h))
theorem ggX8_sack_X8_loudOf : GoodIn wsX8_sack wsX8_loudOf := goodIn_sub (by unfold wsX8_loudOf; exact List.forall_mem_cons.mpr ⟨mx_X8_sack_18, List.forall_mem_append.mpr ⟨List.forall_mem_cons.mpr ⟨mx_X8_sack_14, List.forall_mem_cons.mpr ⟨mx_X8_sack_19, List.forall_mem_cons.mpr ⟨mx_X8_sack_20, List.forall_mem_cons.mpr ⟨mx_X8_sack_8, List.forall_mem_cons.mpr ⟨mx_X8_sack_21, fun _ h_ => absurd h_ List.not_mem_nil⟩⟩⟩⟩⟩, (fun _ h_ => mb_X8_sack_wsX80 h_)⟩⟩) (by decide +kernel)
theorem mx_X8_sack_15 : Cond.methodLink RX8 219 yX8_loudOf ∈ wsX8_sack := by unfold wsX8_sack; exact List.mem_cons_of_mem _ (List.mem_append_left _ (List.mem_of_getElem? (i := 14) rfl))
theorem mx_X8_sack_16 : Cond.instanceMethod yX8_loudOf ∈ wsX8_sack := by unfold wsX8_sack; exact List.mem_cons_of_mem _ (List.mem_append_left _ (List.mem_of_getElem? (i := 15) rfl))
theorem mx_X8_sack_17 : Cond.selects RX8 yX8_loudOf yX8_loudOf ∈ wsX8_sack := by unfold wsX8_sack; exact List.mem_cons_of_mem _ (List.mem_append_left _ (List.mem_of_getElem? (i := 16) rfl))
theorem gX8_sack_X8_loudOf : GoodIn wsX8_sack (wsV RX8 219 RX8 yX8_loudOf wsX8_loudOf) := goodIn_app (goodIn_sub (List.forall_mem_cons.mpr ⟨mx_X8_sack_15, List.forall_mem_cons.mpr ⟨mx_X8_sack_16, List.forall_mem_cons.mpr ⟨mx_X8_sack_17, List.forall_mem_cons.mpr ⟨mx_X8_sack_8, fun _ h_ => absurd h_ List.not_mem_nil⟩⟩⟩⟩) (by decide +kernel)) ggX8_sack_X8_loudOf
theorem mx_X8_sack_13 : Cond.code yX8_those cX8_those 4 (some .int) ∈ wsX8_sack := by unfold wsX8_sack; exact List.mem_cons_of_mem _ (List.mem_append_left _ (List.mem_of_getElem? (i := 12) rfl))
theorem ggX8_sack_X8_those : GoodIn wsX8_sack wsX8_those := goodIn_sub (by unfold wsX8_those; exact List.forall_mem_cons.mpr ⟨mx_X8_sack_13, List.forall_mem_append.mpr ⟨List.forall_mem_cons.mpr ⟨mx_X8_sack_14, fun _ h_ => absurd h_ List.not_mem_nil⟩, (fun _ h_ => mb_X8_sack_wsX80 h_)⟩⟩) (by decide +kernel)
theorem mx_X8_sack_10 : Cond.methodLink RX8 182 yX8_those ∈ wsX8_sack := by unfold wsX8_sack; exact List.mem_cons_of_mem _ (List.mem_append_left _ (List.mem_of_getElem? (i := 9) rfl))
theorem mx_X8_sack_11 : Cond.instanceMethod yX8_those ∈ wsX8_sack := by unfold wsX8_sack; exact List.mem_cons_of_mem _ (List.mem_append_left _ (List.mem_of_getElem? (i := 10) rfl))
theorem mx_X8_sack_12 : Cond.selects RX8 yX8_those yX8_those ∈ wsX8_sack := by unfold wsX8_sack; exact List.mem_cons_of_mem _ (List.mem_append_left _ (List.mem_of_getElem? (i := 11) rfl))
theorem gX8_sack_X8_those : GoodIn wsX8_sack (wsV RX8 182 RX8 yX8_those wsX8_those) := goodIn_app (goodIn_sub (List.forall_mem_cons.mpr ⟨mx_X8_sack_10, List.forall_mem_cons.mpr ⟨mx_X8_sack_11, List.forall_mem_cons.mpr ⟨mx_X8_sack_12, List.forall_mem_cons.mpr ⟨mx_X8_sack_8, fun _ h_ => absurd h_ List.not_mem_nil⟩⟩⟩⟩) (by decide +kernel)) ggX8_sack_X8_those
theorem mb_X8_site_wsX8_site_r1 {w : Cond} (h : w ∈ wsX8_site_r1) : w ∈ wsX8_site := by unfold wsX8_site; exact List.mem_cons_of_mem _ (List.mem_append_left _ (List.mem_append_left _ (h)))
theorem mx_X8_site_10 : Cond.code yX8_in cX8_in 6 (some .boolean) ∈ wsX8_site := mb_X8_site_wsX8_site_r1 (List.mem_of_getElem? (i := 9) rfl)
theorem ggX8_site_X8_in : GoodIn wsX8_site wsX8_in := goodIn_sub (by unfold wsX8_in; exact List.forall_mem_cons.mpr ⟨mx_X8_site_10, fun _ h_ => absurd h_ List.not_mem_nil⟩) (by decide +kernel)
set_option maxRecDepth 20000 in
theorem gX8_site_X8_in : GoodIn wsX8_site (va_wsS RX8 57 yX8_in wsX8_in) := goodIn_app (goodIn_of _ (by decide +kernel)) ggX8_site_X8_in
theorem mx_X8_site_13 : Cond.code yX8_isWhat cX8_isWhat 1 (some .boolean) ∈ wsX8_site := mb_X8_site_wsX8_site_r1 (List.mem_of_getElem? (i := 12) rfl)
theorem mx_X8_site_7 : Cond.methodLink RX8 57 yX8_in ∈ wsX8_site := mb_X8_site_wsX8_site_r1 (List.mem_of_getElem? (i := 6) rfl)
theorem mx_X8_site_8 : Cond.static yX8_in ∈ wsX8_site := mb_X8_site_wsX8_site_r1 (List.mem_of_getElem? (i := 7) rfl)
theorem mx_X8_site_9 : Cond.initialized RX8 ∈ wsX8_site := mb_X8_site_wsX8_site_r1 (List.mem_of_getElem? (i := 8) rfl)
theorem ggX8_site_X8_isWhat : GoodIn wsX8_site wsX8_isWhat := goodIn_sub (by unfold wsX8_isWhat; exact List.forall_mem_cons.mpr ⟨mx_X8_site_13, List.forall_mem_cons.mpr ⟨mx_X8_site_7, List.forall_mem_cons.mpr ⟨mx_X8_site_8, List.forall_mem_cons.mpr ⟨mx_X8_site_9, List.forall_mem_cons.mpr ⟨mx_X8_site_10, fun _ h_ => absurd h_ List.not_mem_nil⟩⟩⟩⟩⟩) (by decide +kernel)
set_option maxRecDepth 20000 in
theorem gX8_site_X8_isWhat : GoodIn wsX8_site (va_wsS RX8 210 yX8_isWhat wsX8_isWhat) := goodIn_app (goodIn_of _ (by decide +kernel)) ggX8_site_X8_isWhat
theorem mx_X8_site_21 : Cond.code yX8_mealBehind cX8_mealBehind 3 (some .int) ∈ wsX8_site := mb_X8_site_wsX8_site_r1 (List.mem_of_getElem? (i := 20) rfl)
theorem mx_X8_site_6 : Cond.fieldLink RX8 19 "MillTalkModel" "st" "[I" ∈ wsX8_site := mb_X8_site_wsX8_site_r1 (List.mem_of_getElem? (i := 5) rfl)
theorem mx_X8_site_22 : Cond.methodLink RX8 190 yX8_goOn ∈ wsX8_site := mb_X8_site_wsX8_site_r1 (List.mem_of_getElem? (i := 21) rfl)
theorem mx_X8_site_23 : Cond.instanceMethod yX8_goOn ∈ wsX8_site := mb_X8_site_wsX8_site_r1 (List.mem_of_getElem? (i := 22) rfl)
theorem mx_X8_site_24 : Cond.selects RX8 yX8_goOn yX8_goOn ∈ wsX8_site := mb_X8_site_wsX8_site_r1 (List.mem_of_getElem? (i := 23) rfl)
theorem mb_X8_site_wsX8_site_r2 {w : Cond} (h : w ∈ wsX8_site_r2) : w ∈ wsX8_site := by unfold wsX8_site; exact List.mem_cons_of_mem _ (List.mem_append_left _ (List.mem_append_right _ (List.mem_append_left _ (h))))
theorem mx_X8_site_25 : Cond.code yX8_goOn cX8_goOn 3 none ∈ wsX8_site := mb_X8_site_wsX8_site_r2 (List.mem_of_getElem? (i := 0) rfl)
theorem mx_X8_site_26 : Cond.methodLink RX8 167 yX8_oneHour ∈ wsX8_site := mb_X8_site_wsX8_site_r2 (List.mem_of_getElem? (i := 1) rfl)
theorem mx_X8_site_27 : Cond.instanceMethod yX8_oneHour ∈ wsX8_site := mb_X8_site_wsX8_site_r2 (List.mem_of_getElem? (i := 2) rfl)
theorem mx_X8_site_28 : Cond.selects RX8 yX8_oneHour yX8_oneHour ∈ wsX8_site := mb_X8_site_wsX8_site_r2 (List.mem_of_getElem? (i := 3) rfl)
theorem mx_X8_site_29 : Cond.code yX8_oneHour cX8_oneHour 4 (some .int) ∈ wsX8_site := mb_X8_site_wsX8_site_r2 (List.mem_of_getElem? (i := 4) rfl)
theorem mx_X8_site_30 : Cond.methodLink RX8 151 yX8_gustOf ∈ wsX8_site := mb_X8_site_wsX8_site_r2 (List.mem_of_getElem? (i := 5) rfl)
theorem mx_X8_site_31 : Cond.instanceMethod yX8_gustOf ∈ wsX8_site := mb_X8_site_wsX8_site_r2 (List.mem_of_getElem? (i := 6) rfl)
theorem mx_X8_site_32 : Cond.selects RX8 yX8_gustOf yX8_gustOf ∈ wsX8_site := mb_X8_site_wsX8_site_r2 (List.mem_of_getElem? (i := 7) rfl)
theorem mx_X8_site_33 : Cond.code yX8_gustOf cX8_gustOf 2 (some .int) ∈ wsX8_site := mb_X8_site_wsX8_site_r2 (List.mem_of_getElem? (i := 8) rfl)
theorem mx_X8_site_34 : Cond.methodLink RX8 154 yX8_drift ∈ wsX8_site := mb_X8_site_wsX8_site_r2 (List.mem_of_getElem? (i := 9) rfl)
theorem mx_X8_site_35 : Cond.instanceMethod yX8_drift ∈ wsX8_site := mb_X8_site_wsX8_site_r2 (List.mem_of_getElem? (i := 10) rfl)
theorem mx_X8_site_36 : Cond.selects RX8 yX8_drift yX8_drift ∈ wsX8_site := mb_X8_site_wsX8_site_r2 (List.mem_of_getElem? (i := 11) rfl)
theorem mx_X8_site_37 : Cond.code yX8_drift cX8_drift 7 none ∈ wsX8_site := mb_X8_site_wsX8_site_r2 (List.mem_of_getElem? (i := 12) rfl)
theorem mx_X8_site_38 : Cond.methodLink RX8 145 yX8_drifts ∈ wsX8_site := mb_X8_site_wsX8_site_r2 (List.mem_of_getElem? (i := 13) rfl)
theorem mx_X8_site_39 : Cond.static yX8_drifts ∈ wsX8_site := mb_X8_site_wsX8_site_r2 (List.mem_of_getElem? (i := 14) rfl)
theorem mx_X8_site_40 : Cond.code yX8_drifts cX8_drifts 2 (some .int) ∈ wsX8_site := mb_X8_site_wsX8_site_r2 (List.mem_of_getElem? (i := 15) rfl)
theorem mx_X8_site_41 : Cond.methodLink RX8 148 yX8_isCell ∈ wsX8_site := mb_X8_site_wsX8_site_r2 (List.mem_of_getElem? (i := 16) rfl)
theorem mx_X8_site_42 : Cond.instanceMethod yX8_isCell ∈ wsX8_site := mb_X8_site_wsX8_site_r2 (List.mem_of_getElem? (i := 17) rfl)
theorem mx_X8_site_43 : Cond.selects RX8 yX8_isCell yX8_isCell ∈ wsX8_site := mb_X8_site_wsX8_site_r2 (List.mem_of_getElem? (i := 18) rfl)
theorem mx_X8_site_44 : Cond.code yX8_isCell cX8_isCell 2 (some .boolean) ∈ wsX8_site := mb_X8_site_wsX8_site_r2 (List.mem_of_getElem? (i := 19) rfl)
theorem mx_X8_site_45 : Cond.methodLink RX8 158 yX8_isAtMill ∈ wsX8_site := mb_X8_site_wsX8_site_r2 (List.mem_of_getElem? (i := 20) rfl)
theorem mx_X8_site_46 : Cond.instanceMethod yX8_isAtMill ∈ wsX8_site := mb_X8_site_wsX8_site_r2 (List.mem_of_getElem? (i := 21) rfl)
theorem mx_X8_site_47 : Cond.selects RX8 yX8_isAtMill yX8_isAtMill ∈ wsX8_site := mb_X8_site_wsX8_site_r2 (List.mem_of_getElem? (i := 22) rfl)
theorem mx_X8_site_48 : Cond.code yX8_isAtMill cX8_isAtMill 3 (some .boolean) ∈ wsX8_site := mb_X8_site_wsX8_site_r2 (List.mem_of_getElem? (i := 23) rfl)
theorem mb_X8_site_wsX8_site_r3 {w : Cond} (h : w ∈ wsX8_site_r3) : w ∈ wsX8_site := by unfold wsX8_site; exact List.mem_cons_of_mem _ (List.mem_append_left _ (List.mem_append_right _ (List.mem_append_right _ (h))))
theorem mx_X8_site_49 : Cond.methodLink RX8 194 yX8_takeBack ∈ wsX8_site := mb_X8_site_wsX8_site_r3 (List.mem_of_getElem? (i := 0) rfl)
theorem mx_X8_site_50 : Cond.instanceMethod yX8_takeBack ∈ wsX8_site := mb_X8_site_wsX8_site_r3 (List.mem_of_getElem? (i := 1) rfl)
theorem mx_X8_site_51 : Cond.selects RX8 yX8_takeBack yX8_takeBack ∈ wsX8_site := mb_X8_site_wsX8_site_r3 (List.mem_of_getElem? (i := 2) rfl)
theorem mx_X8_site_52 : Cond.code yX8_takeBack cX8_takeBack 2 none ∈ wsX8_site := mb_X8_site_wsX8_site_r3 (List.mem_of_getElem? (i := 3) rfl)
theorem mx_X8_site_5 : Cond.fieldLink RX8 34 "MillTalkModel" "aside" "[I" ∈ wsX8_site := mb_X8_site_wsX8_site_r1 (List.mem_of_getElem? (i := 4) rfl)
theorem mb_X8_site_wsX80 {w : Cond} (h : w ∈ wsX80) : w ∈ wsX8_site := by unfold wsX8_site; exact List.mem_cons_of_mem _ (List.mem_append_right _ (h))
theorem ggX8_site_X8_mealBehind : GoodIn wsX8_site wsX8_mealBehind := goodIn_sub (by unfold wsX8_mealBehind; exact List.forall_mem_cons.mpr ⟨mx_X8_site_21, List.forall_mem_append.mpr ⟨List.forall_mem_append.mpr ⟨(by unfold wsX8_mealBehind_r1; exact List.forall_mem_cons.mpr ⟨mx_X8_site_6, List.forall_mem_cons.mpr ⟨mx_X8_site_22, List.forall_mem_cons.mpr ⟨mx_X8_site_23, List.forall_mem_cons.mpr ⟨mx_X8_site_24, List.forall_mem_cons.mpr ⟨mx_X8_site_9, List.forall_mem_cons.mpr ⟨mx_X8_site_25, List.forall_mem_cons.mpr ⟨mx_X8_site_26, List.forall_mem_cons.mpr ⟨mx_X8_site_27, List.forall_mem_cons.mpr ⟨mx_X8_site_28, List.forall_mem_cons.mpr ⟨mx_X8_site_29, List.forall_mem_cons.mpr ⟨mx_X8_site_30, List.forall_mem_cons.mpr ⟨mx_X8_site_31, List.forall_mem_cons.mpr ⟨mx_X8_site_32, List.forall_mem_cons.mpr ⟨mx_X8_site_33, List.forall_mem_cons.mpr ⟨mx_X8_site_34, List.forall_mem_cons.mpr ⟨mx_X8_site_35, List.forall_mem_cons.mpr ⟨mx_X8_site_36, List.forall_mem_cons.mpr ⟨mx_X8_site_37, List.forall_mem_cons.mpr ⟨mx_X8_site_38, List.forall_mem_cons.mpr ⟨mx_X8_site_39, List.forall_mem_cons.mpr ⟨mx_X8_site_40, List.forall_mem_cons.mpr ⟨mx_X8_site_41, List.forall_mem_cons.mpr ⟨mx_X8_site_42, List.forall_mem_cons.mpr ⟨mx_X8_site_43, fun _ h_ => absurd h_ List.not_mem_nil⟩⟩⟩⟩⟩⟩⟩⟩⟩⟩⟩⟩⟩⟩⟩⟩⟩⟩⟩⟩⟩⟩⟩⟩), (by unfold wsX8_mealBehind_r2; exact List.forall_mem_cons.mpr ⟨mx_X8_site_44, List.forall_mem_cons.mpr ⟨mx_X8_site_7, List.forall_mem_cons.mpr ⟨mx_X8_site_8, List.forall_mem_cons.mpr ⟨mx_X8_site_10, List.forall_mem_cons.mpr ⟨mx_X8_site_45, List.forall_mem_cons.mpr ⟨mx_X8_site_46, List.forall_mem_cons.mpr ⟨mx_X8_site_47, List.forall_mem_cons.mpr ⟨mx_X8_site_48, List.forall_mem_cons.mpr ⟨mx_X8_site_49, List.forall_mem_cons.mpr ⟨mx_X8_site_50, List.forall_mem_cons.mpr ⟨mx_X8_site_51, List.forall_mem_cons.mpr ⟨mx_X8_site_52, List.forall_mem_cons.mpr ⟨mx_X8_site_5, fun _ h_ => absurd h_ List.not_mem_nil⟩⟩⟩⟩⟩⟩⟩⟩⟩⟩⟩⟩⟩)⟩, (fun _ h_ => mb_X8_site_wsX80 h_)⟩⟩) (by decide +kernel)
theorem mx_X8_site_18 : Cond.methodLink RX8 200 yX8_mealBehind ∈ wsX8_site := mb_X8_site_wsX8_site_r1 (List.mem_of_getElem? (i := 17) rfl)
theorem mx_X8_site_19 : Cond.instanceMethod yX8_mealBehind ∈ wsX8_site := mb_X8_site_wsX8_site_r1 (List.mem_of_getElem? (i := 18) rfl)
theorem mx_X8_site_20 : Cond.selects RX8 yX8_mealBehind yX8_mealBehind ∈ wsX8_site := mb_X8_site_wsX8_site_r1 (List.mem_of_getElem? (i := 19) rfl)
theorem gX8_site_X8_mealBehind : GoodIn wsX8_site (wsV RX8 200 RX8 yX8_mealBehind wsX8_mealBehind) := goodIn_app (goodIn_sub (List.forall_mem_cons.mpr ⟨mx_X8_site_18, List.forall_mem_cons.mpr ⟨mx_X8_site_19, List.forall_mem_cons.mpr ⟨mx_X8_site_20, List.forall_mem_cons.mpr ⟨mx_X8_site_9, fun _ h_ => absurd h_ List.not_mem_nil⟩⟩⟩⟩) (by decide +kernel)) ggX8_site_X8_mealBehind
theorem mx_X8_site_17 : Cond.code yX8_putAside cX8_putAside 2 none ∈ wsX8_site := mb_X8_site_wsX8_site_r1 (List.mem_of_getElem? (i := 16) rfl)
theorem ggX8_site_X8_putAside : GoodIn wsX8_site wsX8_putAside := goodIn_sub (by unfold wsX8_putAside; exact List.forall_mem_cons.mpr ⟨mx_X8_site_17, List.forall_mem_append.mpr ⟨List.forall_mem_cons.mpr ⟨mx_X8_site_5, List.forall_mem_cons.mpr ⟨mx_X8_site_6, fun _ h_ => absurd h_ List.not_mem_nil⟩⟩, (fun _ h_ => mb_X8_site_wsX80 h_)⟩⟩) (by decide +kernel)
theorem mx_X8_site_14 : Cond.methodLink RX8 197 yX8_putAside ∈ wsX8_site := mb_X8_site_wsX8_site_r1 (List.mem_of_getElem? (i := 13) rfl)
theorem mx_X8_site_15 : Cond.instanceMethod yX8_putAside ∈ wsX8_site := mb_X8_site_wsX8_site_r1 (List.mem_of_getElem? (i := 14) rfl)
theorem mx_X8_site_16 : Cond.selects RX8 yX8_putAside yX8_putAside ∈ wsX8_site := mb_X8_site_wsX8_site_r1 (List.mem_of_getElem? (i := 15) rfl)
theorem gX8_site_X8_putAside : GoodIn wsX8_site (wsV RX8 197 RX8 yX8_putAside wsX8_putAside) := goodIn_app (goodIn_sub (List.forall_mem_cons.mpr ⟨mx_X8_site_14, List.forall_mem_cons.mpr ⟨mx_X8_site_15, List.forall_mem_cons.mpr ⟨mx_X8_site_16, List.forall_mem_cons.mpr ⟨mx_X8_site_9, fun _ h_ => absurd h_ List.not_mem_nil⟩⟩⟩⟩) (by decide +kernel)) ggX8_site_X8_putAside
theorem mx_X8_sound_18 : Cond.code yX8_drifts cX8_drifts 2 (some .int) ∈ wsX8_sound := by unfold wsX8_sound; exact List.mem_cons_of_mem _ (List.mem_append_left _ (List.mem_of_getElem? (i := 17) rfl))
theorem ggX8_sound_X8_drifts : GoodIn wsX8_sound wsX8_drifts := goodIn_sub (by unfold wsX8_drifts; exact List.forall_mem_cons.mpr ⟨mx_X8_sound_18, fun _ h_ => absurd h_ List.not_mem_nil⟩) (by decide +kernel)
set_option maxRecDepth 20000 in
theorem gX8_sound_X8_drifts : GoodIn wsX8_sound (va_wsS RX8 145 yX8_drifts wsX8_drifts) := goodIn_app (goodIn_of _ (by decide +kernel)) ggX8_sound_X8_drifts
theorem mx_X8_sound_15 : Cond.code yX8_gustOf cX8_gustOf 2 (some .int) ∈ wsX8_sound := by unfold wsX8_sound; exact List.mem_cons_of_mem _ (List.mem_append_left _ (List.mem_of_getElem? (i := 14) rfl))
theorem mx_X8_sound_2 : Cond.fieldLink RX8 19 "MillTalkModel" "st" "[I" ∈ wsX8_sound := by unfold wsX8_sound; exact List.mem_cons_of_mem _ (List.mem_append_left _ (List.mem_of_getElem? (i := 1) rfl))
theorem mb_X8_sound_wsX80 {w : Cond} (h : w ∈ wsX80) : w ∈ wsX8_sound := by unfold wsX8_sound; exact List.mem_cons_of_mem _ (List.mem_append_right _ (h))
theorem ggX8_sound_X8_gustOf : GoodIn wsX8_sound wsX8_gustOf := goodIn_sub (by unfold wsX8_gustOf; exact List.forall_mem_cons.mpr ⟨mx_X8_sound_15, List.forall_mem_append.mpr ⟨List.forall_mem_cons.mpr ⟨mx_X8_sound_2, fun _ h_ => absurd h_ List.not_mem_nil⟩, (fun _ h_ => mb_X8_sound_wsX80 h_)⟩⟩) (by decide +kernel)
theorem mx_X8_sound_12 : Cond.methodLink RX8 151 yX8_gustOf ∈ wsX8_sound := by unfold wsX8_sound; exact List.mem_cons_of_mem _ (List.mem_append_left _ (List.mem_of_getElem? (i := 11) rfl))
theorem mx_X8_sound_13 : Cond.instanceMethod yX8_gustOf ∈ wsX8_sound := by unfold wsX8_sound; exact List.mem_cons_of_mem _ (List.mem_append_left _ (List.mem_of_getElem? (i := 12) rfl))
theorem mx_X8_sound_14 : Cond.selects RX8 yX8_gustOf yX8_gustOf ∈ wsX8_sound := by unfold wsX8_sound; exact List.mem_cons_of_mem _ (List.mem_append_left _ (List.mem_of_getElem? (i := 13) rfl))
theorem mx_X8_sound_7 : Cond.initialized RX8 ∈ wsX8_sound := by unfold wsX8_sound; exact List.mem_cons_of_mem _ (List.mem_append_left _ (List.mem_of_getElem? (i := 6) rfl))
theorem gX8_sound_X8_gustOf : GoodIn wsX8_sound (wsV RX8 151 RX8 yX8_gustOf wsX8_gustOf) := goodIn_app (goodIn_sub (List.forall_mem_cons.mpr ⟨mx_X8_sound_12, List.forall_mem_cons.mpr ⟨mx_X8_sound_13, List.forall_mem_cons.mpr ⟨mx_X8_sound_14, List.forall_mem_cons.mpr ⟨mx_X8_sound_7, fun _ h_ => absurd h_ List.not_mem_nil⟩⟩⟩⟩) (by decide +kernel)) ggX8_sound_X8_gustOf
theorem mx_X8_sound_8 : Cond.code yX8_isSound cX8_isSound 2 (some .boolean) ∈ wsX8_sound := by unfold wsX8_sound; exact List.mem_cons_of_mem _ (List.mem_append_left _ (List.mem_of_getElem? (i := 7) rfl))
theorem mx_X8_sound_9 : Cond.methodLink RX8 57 yX8_in ∈ wsX8_sound := by unfold wsX8_sound; exact List.mem_cons_of_mem _ (List.mem_append_left _ (List.mem_of_getElem? (i := 8) rfl))
theorem mx_X8_sound_10 : Cond.static yX8_in ∈ wsX8_sound := by unfold wsX8_sound; exact List.mem_cons_of_mem _ (List.mem_append_left _ (List.mem_of_getElem? (i := 9) rfl))
theorem mx_X8_sound_11 : Cond.code yX8_in cX8_in 6 (some .boolean) ∈ wsX8_sound := by unfold wsX8_sound; exact List.mem_cons_of_mem _ (List.mem_append_left _ (List.mem_of_getElem? (i := 10) rfl))
theorem ggX8_sound_X8_isSound : GoodIn wsX8_sound wsX8_isSound := goodIn_sub (by unfold wsX8_isSound; exact List.forall_mem_cons.mpr ⟨mx_X8_sound_8, List.forall_mem_append.mpr ⟨List.forall_mem_cons.mpr ⟨mx_X8_sound_2, List.forall_mem_cons.mpr ⟨mx_X8_sound_9, List.forall_mem_cons.mpr ⟨mx_X8_sound_10, List.forall_mem_cons.mpr ⟨mx_X8_sound_7, List.forall_mem_cons.mpr ⟨mx_X8_sound_11, fun _ h_ => absurd h_ List.not_mem_nil⟩⟩⟩⟩⟩, (fun _ h_ => mb_X8_sound_wsX80 h_)⟩⟩) (by decide +kernel)
theorem mx_X8_sound_4 : Cond.methodLink RX8 173 yX8_isSound ∈ wsX8_sound := by unfold wsX8_sound; exact List.mem_cons_of_mem _ (List.mem_append_left _ (List.mem_of_getElem? (i := 3) rfl))
theorem mx_X8_sound_5 : Cond.instanceMethod yX8_isSound ∈ wsX8_sound := by unfold wsX8_sound; exact List.mem_cons_of_mem _ (List.mem_append_left _ (List.mem_of_getElem? (i := 4) rfl))
theorem mx_X8_sound_6 : Cond.selects RX8 yX8_isSound yX8_isSound ∈ wsX8_sound := by unfold wsX8_sound; exact List.mem_cons_of_mem _ (List.mem_append_left _ (List.mem_of_getElem? (i := 5) rfl))
theorem gX8_sound_X8_isSound : GoodIn wsX8_sound (wsV RX8 173 RX8 yX8_isSound wsX8_isSound) := goodIn_app (goodIn_sub (List.forall_mem_cons.mpr ⟨mx_X8_sound_4, List.forall_mem_cons.mpr ⟨mx_X8_sound_5, List.forall_mem_cons.mpr ⟨mx_X8_sound_6, List.forall_mem_cons.mpr ⟨mx_X8_sound_7, fun _ h_ => absurd h_ List.not_mem_nil⟩⟩⟩⟩) (by decide +kernel)) ggX8_sound_X8_isSound
theorem mx_X8_stand_9 : Cond.code yX8_those cX8_those 4 (some .int) ∈ wsX8_stand := by unfold wsX8_stand; exact List.mem_cons_of_mem _ (List.mem_append_left _ (List.mem_of_getElem? (i := 8) rfl))
theorem mx_X8_stand_3 : Cond.fieldLink RX8 19 "MillTalkModel" "st" "[I" ∈ wsX8_stand := by unfold wsX8_stand; exact List.mem_cons_of_mem _ (List.mem_append_left _ (List.mem_of_getElem? (i := 2) rfl))
theorem mb_X8_stand_wsX80 {w : Cond} (h : w ∈ wsX80) : w ∈ wsX8_stand := by unfold wsX8_stand; exact List.mem_cons_of_mem _ (List.mem_append_right _ (h))
theorem ggX8_stand_X8_those : GoodIn wsX8_stand wsX8_those := goodIn_sub (by unfold wsX8_those; exact List.forall_mem_cons.mpr ⟨mx_X8_stand_9, List.forall_mem_append.mpr ⟨List.forall_mem_cons.mpr ⟨mx_X8_stand_3, fun _ h_ => absurd h_ List.not_mem_nil⟩, (fun _ h_ => mb_X8_stand_wsX80 h_)⟩⟩) (by decide +kernel)
theorem mx_X8_stand_5 : Cond.methodLink RX8 182 yX8_those ∈ wsX8_stand := by unfold wsX8_stand; exact List.mem_cons_of_mem _ (List.mem_append_left _ (List.mem_of_getElem? (i := 4) rfl))
theorem mx_X8_stand_6 : Cond.instanceMethod yX8_those ∈ wsX8_stand := by unfold wsX8_stand; exact List.mem_cons_of_mem _ (List.mem_append_left _ (List.mem_of_getElem? (i := 5) rfl))
theorem mx_X8_stand_7 : Cond.selects RX8 yX8_those yX8_those ∈ wsX8_stand := by unfold wsX8_stand; exact List.mem_cons_of_mem _ (List.mem_append_left _ (List.mem_of_getElem? (i := 6) rfl))
theorem mx_X8_stand_8 : Cond.initialized RX8 ∈ wsX8_stand := by unfold wsX8_stand; exact List.mem_cons_of_mem _ (List.mem_append_left _ (List.mem_of_getElem? (i := 7) rfl))
theorem gX8_stand_X8_those : GoodIn wsX8_stand (wsV RX8 182 RX8 yX8_those wsX8_those) := goodIn_app (goodIn_sub (List.forall_mem_cons.mpr ⟨mx_X8_stand_5, List.forall_mem_cons.mpr ⟨mx_X8_stand_6, List.forall_mem_cons.mpr ⟨mx_X8_stand_7, List.forall_mem_cons.mpr ⟨mx_X8_stand_8, fun _ h_ => absurd h_ List.not_mem_nil⟩⟩⟩⟩) (by decide +kernel)) ggX8_stand_X8_those
theorem mb_X8_when_wsX8_when_r1 {w : Cond} (h : w ∈ wsX8_when_r1) : w ∈ wsX8_when := by unfold wsX8_when; exact List.mem_cons_of_mem _ (List.mem_append_left _ (List.mem_append_left _ (h)))
theorem mx_X8_when_12 : Cond.code yX8_in cX8_in 6 (some .boolean) ∈ wsX8_when := mb_X8_when_wsX8_when_r1 (List.mem_of_getElem? (i := 11) rfl)
theorem ggX8_when_X8_in : GoodIn wsX8_when wsX8_in := goodIn_sub (by unfold wsX8_in; exact List.forall_mem_cons.mpr ⟨mx_X8_when_12, fun _ h_ => absurd h_ List.not_mem_nil⟩) (by decide +kernel)
set_option maxRecDepth 20000 in
theorem gX8_when_X8_in : GoodIn wsX8_when (va_wsS RX8 57 yX8_in wsX8_in) := goodIn_app (goodIn_of _ (by decide +kernel)) ggX8_when_X8_in
theorem mx_X8_when_9 : Cond.code yX8_isSound cX8_isSound 2 (some .boolean) ∈ wsX8_when := mb_X8_when_wsX8_when_r1 (List.mem_of_getElem? (i := 8) rfl)
theorem mx_X8_when_3 : Cond.fieldLink RX8 19 "MillTalkModel" "st" "[I" ∈ wsX8_when := mb_X8_when_wsX8_when_r1 (List.mem_of_getElem? (i := 2) rfl)
theorem mx_X8_when_10 : Cond.methodLink RX8 57 yX8_in ∈ wsX8_when := mb_X8_when_wsX8_when_r1 (List.mem_of_getElem? (i := 9) rfl)
theorem mx_X8_when_11 : Cond.static yX8_in ∈ wsX8_when := mb_X8_when_wsX8_when_r1 (List.mem_of_getElem? (i := 10) rfl)
theorem mx_X8_when_8 : Cond.initialized RX8 ∈ wsX8_when := mb_X8_when_wsX8_when_r1 (List.mem_of_getElem? (i := 7) rfl)
theorem mb_X8_when_wsX80 {w : Cond} (h : w ∈ wsX80) : w ∈ wsX8_when := by unfold wsX8_when; exact List.mem_cons_of_mem _ (List.mem_append_right _ (h))
theorem ggX8_when_X8_isSound : GoodIn wsX8_when wsX8_isSound := goodIn_sub (by unfold wsX8_isSound; exact List.forall_mem_cons.mpr ⟨mx_X8_when_9, List.forall_mem_append.mpr ⟨List.forall_mem_cons.mpr ⟨mx_X8_when_3, List.forall_mem_cons.mpr ⟨mx_X8_when_10, List.forall_mem_cons.mpr ⟨mx_X8_when_11, List.forall_mem_cons.mpr ⟨mx_X8_when_8, List.forall_mem_cons.mpr ⟨mx_X8_when_12, fun _ h_ => absurd h_ List.not_mem_nil⟩⟩⟩⟩⟩, (fun _ h_ => mb_X8_when_wsX80 h_)⟩⟩) (by decide +kernel)
theorem mx_X8_when_5 : Cond.methodLink RX8 173 yX8_isSound ∈ wsX8_when := mb_X8_when_wsX8_when_r1 (List.mem_of_getElem? (i := 4) rfl)
theorem mx_X8_when_6 : Cond.instanceMethod yX8_isSound ∈ wsX8_when := mb_X8_when_wsX8_when_r1 (List.mem_of_getElem? (i := 5) rfl)
theorem mx_X8_when_7 : Cond.selects RX8 yX8_isSound yX8_isSound ∈ wsX8_when := mb_X8_when_wsX8_when_r1 (List.mem_of_getElem? (i := 6) rfl)
theorem gX8_when_X8_isSound : GoodIn wsX8_when (wsV RX8 173 RX8 yX8_isSound wsX8_isSound) := goodIn_app (goodIn_sub (List.forall_mem_cons.mpr ⟨mx_X8_when_5, List.forall_mem_cons.mpr ⟨mx_X8_when_6, List.forall_mem_cons.mpr ⟨mx_X8_when_7, List.forall_mem_cons.mpr ⟨mx_X8_when_8, fun _ h_ => absurd h_ List.not_mem_nil⟩⟩⟩⟩) (by decide +kernel)) ggX8_when_X8_isSound
theorem mx_X8_when_21 : Cond.code yX8_oneHour cX8_oneHour 4 (some .int) ∈ wsX8_when := mb_X8_when_wsX8_when_r1 (List.mem_of_getElem? (i := 20) rfl)
theorem mx_X8_when_22 : Cond.methodLink RX8 151 yX8_gustOf ∈ wsX8_when := mb_X8_when_wsX8_when_r1 (List.mem_of_getElem? (i := 21) rfl)
theorem mx_X8_when_23 : Cond.instanceMethod yX8_gustOf ∈ wsX8_when := mb_X8_when_wsX8_when_r1 (List.mem_of_getElem? (i := 22) rfl)
theorem mx_X8_when_24 : Cond.selects RX8 yX8_gustOf yX8_gustOf ∈ wsX8_when := mb_X8_when_wsX8_when_r1 (List.mem_of_getElem? (i := 23) rfl)
theorem mb_X8_when_wsX8_when_r2 {w : Cond} (h : w ∈ wsX8_when_r2) : w ∈ wsX8_when := by unfold wsX8_when; exact List.mem_cons_of_mem _ (List.mem_append_left _ (List.mem_append_right _ (h)))
theorem mx_X8_when_25 : Cond.code yX8_gustOf cX8_gustOf 2 (some .int) ∈ wsX8_when := mb_X8_when_wsX8_when_r2 (List.mem_of_getElem? (i := 0) rfl)
theorem mx_X8_when_26 : Cond.methodLink RX8 154 yX8_drift ∈ wsX8_when := mb_X8_when_wsX8_when_r2 (List.mem_of_getElem? (i := 1) rfl)
theorem mx_X8_when_27 : Cond.instanceMethod yX8_drift ∈ wsX8_when := mb_X8_when_wsX8_when_r2 (List.mem_of_getElem? (i := 2) rfl)
theorem mx_X8_when_28 : Cond.selects RX8 yX8_drift yX8_drift ∈ wsX8_when := mb_X8_when_wsX8_when_r2 (List.mem_of_getElem? (i := 3) rfl)
theorem mx_X8_when_29 : Cond.code yX8_drift cX8_drift 7 none ∈ wsX8_when := mb_X8_when_wsX8_when_r2 (List.mem_of_getElem? (i := 4) rfl)
theorem mx_X8_when_30 : Cond.methodLink RX8 145 yX8_drifts ∈ wsX8_when := mb_X8_when_wsX8_when_r2 (List.mem_of_getElem? (i := 5) rfl)
theorem mx_X8_when_31 : Cond.static yX8_drifts ∈ wsX8_when := mb_X8_when_wsX8_when_r2 (List.mem_of_getElem? (i := 6) rfl)
theorem mx_X8_when_32 : Cond.code yX8_drifts cX8_drifts 2 (some .int) ∈ wsX8_when := mb_X8_when_wsX8_when_r2 (List.mem_of_getElem? (i := 7) rfl)
theorem mx_X8_when_33 : Cond.methodLink RX8 148 yX8_isCell ∈ wsX8_when := mb_X8_when_wsX8_when_r2 (List.mem_of_getElem? (i := 8) rfl)
theorem mx_X8_when_34 : Cond.instanceMethod yX8_isCell ∈ wsX8_when := mb_X8_when_wsX8_when_r2 (List.mem_of_getElem? (i := 9) rfl)
theorem mx_X8_when_35 : Cond.selects RX8 yX8_isCell yX8_isCell ∈ wsX8_when := mb_X8_when_wsX8_when_r2 (List.mem_of_getElem? (i := 10) rfl)
theorem mx_X8_when_36 : Cond.code yX8_isCell cX8_isCell 2 (some .boolean) ∈ wsX8_when := mb_X8_when_wsX8_when_r2 (List.mem_of_getElem? (i := 11) rfl)
theorem mx_X8_when_37 : Cond.methodLink RX8 158 yX8_isAtMill ∈ wsX8_when := mb_X8_when_wsX8_when_r2 (List.mem_of_getElem? (i := 12) rfl)
theorem mx_X8_when_38 : Cond.instanceMethod yX8_isAtMill ∈ wsX8_when := mb_X8_when_wsX8_when_r2 (List.mem_of_getElem? (i := 13) rfl)
theorem mx_X8_when_39 : Cond.selects RX8 yX8_isAtMill yX8_isAtMill ∈ wsX8_when := mb_X8_when_wsX8_when_r2 (List.mem_of_getElem? (i := 14) rfl)
theorem mx_X8_when_40 : Cond.code yX8_isAtMill cX8_isAtMill 3 (some .boolean) ∈ wsX8_when := mb_X8_when_wsX8_when_r2 (List.mem_of_getElem? (i := 15) rfl)
theorem ggX8_when_X8_oneHour : GoodIn wsX8_when wsX8_oneHour := goodIn_sub (by unfold wsX8_oneHour; exact List.forall_mem_cons.mpr ⟨mx_X8_when_21, List.forall_mem_append.mpr ⟨List.forall_mem_cons.mpr ⟨mx_X8_when_3, List.forall_mem_cons.mpr ⟨mx_X8_when_22, List.forall_mem_cons.mpr ⟨mx_X8_when_23, List.forall_mem_cons.mpr ⟨mx_X8_when_24, List.forall_mem_cons.mpr ⟨mx_X8_when_8, List.forall_mem_cons.mpr ⟨mx_X8_when_25, List.forall_mem_cons.mpr ⟨mx_X8_when_26, List.forall_mem_cons.mpr ⟨mx_X8_when_27, List.forall_mem_cons.mpr ⟨mx_X8_when_28, List.forall_mem_cons.mpr ⟨mx_X8_when_29, List.forall_mem_cons.mpr ⟨mx_X8_when_30, List.forall_mem_cons.mpr ⟨mx_X8_when_31, List.forall_mem_cons.mpr ⟨mx_X8_when_32, List.forall_mem_cons.mpr ⟨mx_X8_when_33, List.forall_mem_cons.mpr ⟨mx_X8_when_34, List.forall_mem_cons.mpr ⟨mx_X8_when_35, List.forall_mem_cons.mpr ⟨mx_X8_when_36, List.forall_mem_cons.mpr ⟨mx_X8_when_10, List.forall_mem_cons.mpr ⟨mx_X8_when_11, List.forall_mem_cons.mpr ⟨mx_X8_when_12, List.forall_mem_cons.mpr ⟨mx_X8_when_37, List.forall_mem_cons.mpr ⟨mx_X8_when_38, List.forall_mem_cons.mpr ⟨mx_X8_when_39, List.forall_mem_cons.mpr ⟨mx_X8_when_40, fun _ h_ => absurd h_ List.not_mem_nil⟩⟩⟩⟩⟩⟩⟩⟩⟩⟩⟩⟩⟩⟩⟩⟩⟩⟩⟩⟩⟩⟩⟩⟩, (fun _ h_ => mb_X8_when_wsX80 h_)⟩⟩) (by decide +kernel)
theorem mx_X8_when_18 : Cond.methodLink RX8 167 yX8_oneHour ∈ wsX8_when := mb_X8_when_wsX8_when_r1 (List.mem_of_getElem? (i := 17) rfl)
theorem mx_X8_when_19 : Cond.instanceMethod yX8_oneHour ∈ wsX8_when := mb_X8_when_wsX8_when_r1 (List.mem_of_getElem? (i := 18) rfl)
theorem mx_X8_when_20 : Cond.selects RX8 yX8_oneHour yX8_oneHour ∈ wsX8_when := mb_X8_when_wsX8_when_r1 (List.mem_of_getElem? (i := 19) rfl)
theorem gX8_when_X8_oneHour : GoodIn wsX8_when (wsV RX8 167 RX8 yX8_oneHour wsX8_oneHour) := goodIn_app (goodIn_sub (List.forall_mem_cons.mpr ⟨mx_X8_when_18, List.forall_mem_cons.mpr ⟨mx_X8_when_19, List.forall_mem_cons.mpr ⟨mx_X8_when_20, List.forall_mem_cons.mpr ⟨mx_X8_when_8, fun _ h_ => absurd h_ List.not_mem_nil⟩⟩⟩⟩) (by decide +kernel)) ggX8_when_X8_oneHour
theorem mx_X8_when_16 : Cond.code yX8_putAside cX8_putAside 2 none ∈ wsX8_when := mb_X8_when_wsX8_when_r1 (List.mem_of_getElem? (i := 15) rfl)
theorem mx_X8_when_17 : Cond.fieldLink RX8 34 "MillTalkModel" "aside" "[I" ∈ wsX8_when := mb_X8_when_wsX8_when_r1 (List.mem_of_getElem? (i := 16) rfl)
theorem ggX8_when_X8_putAside : GoodIn wsX8_when wsX8_putAside := goodIn_sub (by unfold wsX8_putAside; exact List.forall_mem_cons.mpr ⟨mx_X8_when_16, List.forall_mem_append.mpr ⟨List.forall_mem_cons.mpr ⟨mx_X8_when_17, List.forall_mem_cons.mpr ⟨mx_X8_when_3, fun _ h_ => absurd h_ List.not_mem_nil⟩⟩, (fun _ h_ => mb_X8_when_wsX80 h_)⟩⟩) (by decide +kernel)
theorem mx_X8_when_13 : Cond.methodLink RX8 197 yX8_putAside ∈ wsX8_when := mb_X8_when_wsX8_when_r1 (List.mem_of_getElem? (i := 12) rfl)
theorem mx_X8_when_14 : Cond.instanceMethod yX8_putAside ∈ wsX8_when := mb_X8_when_wsX8_when_r1 (List.mem_of_getElem? (i := 13) rfl)
theorem mx_X8_when_15 : Cond.selects RX8 yX8_putAside yX8_putAside ∈ wsX8_when := mb_X8_when_wsX8_when_r1 (List.mem_of_getElem? (i := 14) rfl)
theorem gX8_when_X8_putAside : GoodIn wsX8_when (wsV RX8 197 RX8 yX8_putAside wsX8_putAside) := goodIn_app (goodIn_sub (List.forall_mem_cons.mpr ⟨mx_X8_when_13, List.forall_mem_cons.mpr ⟨mx_X8_when_14, List.forall_mem_cons.mpr ⟨mx_X8_when_15, List.forall_mem_cons.mpr ⟨mx_X8_when_8, fun _ h_ => absurd h_ List.not_mem_nil⟩⟩⟩⟩) (by decide +kernel)) ggX8_when_X8_putAside
theorem mx_X8_when_44 : Cond.code yX8_takeBack cX8_takeBack 2 none ∈ wsX8_when := mb_X8_when_wsX8_when_r2 (List.mem_of_getElem? (i := 19) rfl)
theorem ggX8_when_X8_takeBack : GoodIn wsX8_when wsX8_takeBack := goodIn_sub (by unfold wsX8_takeBack; exact List.forall_mem_cons.mpr ⟨mx_X8_when_44, List.forall_mem_append.mpr ⟨List.forall_mem_cons.mpr ⟨mx_X8_when_3, List.forall_mem_cons.mpr ⟨mx_X8_when_17, fun _ h_ => absurd h_ List.not_mem_nil⟩⟩, (fun _ h_ => mb_X8_when_wsX80 h_)⟩⟩) (by decide +kernel)
theorem mx_X8_when_41 : Cond.methodLink RX8 194 yX8_takeBack ∈ wsX8_when := mb_X8_when_wsX8_when_r2 (List.mem_of_getElem? (i := 16) rfl)
theorem mx_X8_when_42 : Cond.instanceMethod yX8_takeBack ∈ wsX8_when := mb_X8_when_wsX8_when_r2 (List.mem_of_getElem? (i := 17) rfl)
theorem mx_X8_when_43 : Cond.selects RX8 yX8_takeBack yX8_takeBack ∈ wsX8_when := mb_X8_when_wsX8_when_r2 (List.mem_of_getElem? (i := 18) rfl)
theorem gX8_when_X8_takeBack : GoodIn wsX8_when (wsV RX8 194 RX8 yX8_takeBack wsX8_takeBack) := goodIn_app (goodIn_sub (List.forall_mem_cons.mpr ⟨mx_X8_when_41, List.forall_mem_cons.mpr ⟨mx_X8_when_42, List.forall_mem_cons.mpr ⟨mx_X8_when_43, List.forall_mem_cons.mpr ⟨mx_X8_when_8, fun _ h_ => absurd h_ List.not_mem_nil⟩⟩⟩⟩) (by decide +kernel)) ggX8_when_X8_takeBack
set_option maxRecDepth 20000 in
theorem i_X8_ahead_X8 : ∀ w ∈ u_ws RX8 TX8 24, w ∈ wsX8_ahead := by decide +kernel
set_option maxRecDepth 20000 in
theorem i_X8_caps_X8 : ∀ w ∈ u_ws RX8 TX8 24, w ∈ wsX8_caps := by decide +kernel
set_option maxRecDepth 20000 in
theorem i_X8_goTurning_X8 : ∀ w ∈ u_ws RX8 TX8 24, w ∈ wsX8_goTurning := by decide +kernel
set_option maxRecDepth 20000 in
theorem i_X8_gust_X8 : ∀ w ∈ u_ws RX8 TX8 24, w ∈ wsX8_gust := by decide +kernel
set_option maxRecDepth 20000 in
theorem i_X8_had_X8 : ∀ w ∈ u_ws RX8 TX8 24, w ∈ wsX8_had := by decide +kernel
set_option maxRecDepth 20000 in
theorem i_X8_kind_X8 : ∀ w ∈ u_ws RX8 TX8 24, w ∈ wsX8_kind := by decide +kernel
set_option maxRecDepth 20000 in
theorem i_X8_meal_X8 : ∀ w ∈ u_ws RX8 TX8 24, w ∈ wsX8_meal := by decide +kernel
set_option maxRecDepth 20000 in
theorem i_X8_mealBehind_X8 : ∀ w ∈ u_ws RX8 TX8 24, w ∈ wsX8_mealBehind := by decide +kernel
set_option maxRecDepth 20000 in
theorem i_X8_putAside_X8 : ∀ w ∈ u_ws RX8 TX8 24, w ∈ wsX8_putAside := by decide +kernel
set_option maxRecDepth 20000 in
theorem i_X8_sack_X8 : ∀ w ∈ u_ws RX8 TX8 24, w ∈ wsX8_sack := by decide +kernel
set_option maxRecDepth 20000 in
theorem i_X8_site_X8 : ∀ w ∈ u_ws RX8 TX8 24, w ∈ wsX8_site := by decide +kernel
set_option maxRecDepth 20000 in
theorem i_X8_sound_X8 : ∀ w ∈ u_ws RX8 TX8 24, w ∈ wsX8_sound := by decide +kernel
set_option maxRecDepth 20000 in
theorem i_X8_stand_X8 : ∀ w ∈ u_ws RX8 TX8 24, w ∈ wsX8_stand := by decide +kernel
set_option maxRecDepth 20000 in
theorem i_X8_takeBack_X8 : ∀ w ∈ u_ws RX8 TX8 24, w ∈ wsX8_takeBack := by decide +kernel
set_option maxRecDepth 20000 in
theorem i_X8_when_X8 : ∀ w ∈ u_ws RX8 TX8 24, w ∈ wsX8_when := by decide +kernel
