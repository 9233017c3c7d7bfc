section MS
variable {p : Program} {l : Launch} {e : Env} {R : Room} {s : State} {m : MethodId} {args : Array Value} {below : List Frame} {meth : Method} {c : Code} {H : Heap} {locs : List Loc} {cells slots : Nat} {Q : State → Prop} {pc : Nat} {ls : Array Slot}
/-- a loop whose head is at pc, with a measure -/
theorem lp_ms {σ : Type} (I : σ → Heap → List Loc → Array Slot → Prop) (μ : σ → Nat)
    (hs : ∀ (st : σ) (H : Heap) (locs : List Loc) (ls : Array Slot), I st H locs ls → (∀ (st2 : σ) (H2 : Heap) (locs2 : List Loc) (ls2 : Array Slot), μ st2 < μ st → I st2 H2 locs2 ls2 → W p l e R s m args below meth c H2 locs2 cells slots Q (F0 m pc ls2 [])) → W p l e R s m args below meth c H locs cells slots Q (F0 m pc ls []))
    (st : σ) (h : I st H locs ls) : W p l e R s m args below meth c H locs cells slots Q (F0 m pc ls []) := by
  have key : ∀ (n : Nat) (st : σ) (H : Heap) (locs : List Loc) (ls : Array Slot), μ st < n → I st H locs ls → W p l e R s m args below meth c H locs cells slots Q (F0 m pc ls []) := by
    intro n
    induction n with
    | zero => intro st H locs ls hn _; omega
    | succ n ih =>
      intro st H locs ls hn h
      exact hs st H locs ls h (fun st2 H2 locs2 ls2 hm h2 => ih st2 H2 locs2 ls2 (by omega) h2)
  exact key (μ st + 1) st H locs ls (by omega) h
end MS
/-- the model's level: winds, sounds, hour and cells in their bounds, every sound's loudness 1 to 20 -/
noncomputable def okM (f : Nat → Int32) (w k h : Nat) : Prop := f 3 = nI w ∧ f 4 = nI k ∧ f 5 = nI h ∧ w ≤ 6 ∧ k ≤ 6 ∧ (1 ≤ k ↔ 1 ≤ w) ∧ (∃ c : Nat, c ≤ 15 ∧ (1 ≤ k → 1 ≤ c) ∧ f 0 = nI c) ∧ ∀ s : Nat, s < k → ∃ L : Nat, 1 ≤ L ∧ L ≤ 20 ∧ f (32 + s) = nI L
theorem okM_same {f g : Nat → Int32} {w k h : Nat} (hM : okM f w k h) (o : ∀ j : Nat, j = 0 ∨ j = 3 ∨ j = 4 ∨ j = 5 ∨ 32 ≤ j ∧ j < 38 → g j = f j) : okM g w k h := by
  obtain ⟨a3, a4, a5, a6, a7, a8, ⟨c, c1, c2, c3⟩, a9⟩ := hM
  exact ⟨by rw [o 3 (by omega)]; exact a3, by rw [o 4 (by omega)]; exact a4, by rw [o 5 (by omega)]; exact a5, a6, a7, a8, ⟨c, c1, c2, by rw [o 0 (by omega)]; exact c3⟩, fun s hs => by rw [o _ (by omega)]; exact a9 s hs⟩
theorem okM_off {f g : Nat → Int32} {w k h i : Nat} {v : Int32} (hM : okM f w k h) (e : upd f (nI i).toNatClampNeg v = g) (hi : i < 32) (h0 : i ≠ 0) (h3 : i ≠ 3) (h4 : i ≠ 4) (h5 : i ≠ 5) : okM g w k h := by
  rw [nI_clamp (by omega)] at e
  refine okM_same hM (fun j hj => ?_)
  rw [← e]
  unfold upd
  rw [if_neg (by omega)]
theorem okM_loud {f g : Nat → Int32} {w k h i L : Nat} (hM : okM f w k h) (e : upd f (nI (32 + i)).toNatClampNeg (nI L) = g) (hi : i < 6) (h1 : 1 ≤ L) (h2 : L ≤ 20) : okM g w k h := by
  obtain ⟨a3, a4, a5, a6, a7, a8, ⟨c, c1, c2, c3⟩, a9⟩ := hM
  rw [nI_clamp (by omega)] at e
  have o : ∀ j : Nat, j ≠ 32 + i → g j = f j := fun j hj => by rw [← e]; unfold upd; rw [if_neg hj]
  refine ⟨by rw [o 3 (by omega)]; exact a3, by rw [o 4 (by omega)]; exact a4, by rw [o 5 (by omega)]; exact a5, a6, a7, a8, ⟨c, c1, c2, by rw [o 0 (by omega)]; exact c3⟩, fun s hs => ?_⟩
  by_cases q : s = i
  · subst q
    exact ⟨L, h1, h2, by rw [← e]; unfold upd; rw [if_pos rfl]⟩
  · rw [o _ (by omega)]
    exact a9 s hs
theorem okM_hour {f g : Nat → Int32} {w k h h2 : Nat} (hM : okM f w k h) (e : upd f (5 : Int32).toNatClampNeg (nI h2) = g) : okM g w k h2 := by
  obtain ⟨a3, a4, a5, a6, a7, a8, ⟨c, c1, c2, c3⟩, a9⟩ := hM
  have e5 : upd f 5 (nI h2) = g := e
  have o : ∀ j : Nat, j ≠ 5 → g j = f j := fun j hj => by rw [← e5]; unfold upd; rw [if_neg hj]
  exact ⟨by rw [o 3 (by omega)]; exact a3, by rw [o 4 (by omega)]; exact a4, by rw [← e5]; unfold upd; rw [if_pos rfl], a6, a7, a8, ⟨c, c1, c2, by rw [o 0 (by omega)]; exact c3⟩, fun s hs => by rw [o _ (by omega)]; exact a9 s hs⟩
theorem okM_eq {f g : Nat → Int32} {w k h : Nat} (hM : okM f w k h) (e : ∀ j : Nat, j < 38 → g j = f j) : okM g w k h := okM_same hM (fun j hj => e j (by omega))
theorem in64 {x : Int32} {lo n : Nat} {L U : Int64} (hL : L.toInt = lo) (hU : U.toInt = n) (hn : n < 2 ^ 30) (h : ¬ (x.toInt64 < L ∨ U < x.toInt64)) : ∃ j : Nat, j ≤ n ∧ lo ≤ j ∧ x = nI j := by
  have h1 : ¬ x.toInt64 < L := fun q => h (Or.inl q)
  have h2 : ¬ U < x.toInt64 := fun q => h (Or.inr q)
  rw [Int64.lt_iff_toInt_lt, Int32.toInt_toInt64, hL] at h1
  rw [Int64.lt_iff_toInt_lt, Int32.toInt_toInt64, hU] at h2
  obtain ⟨j, hj, rfl⟩ := nat_of (x := x) (n := n + 1) (by omega) (by omega) (by omega)
  rw [nI_toInt (by omega)] at h1
  exact ⟨j, by omega, by omega, rfl⟩
theorem in32 {x l u : Int32} {L U : Int64} (hL : l.toInt64 = L) (hU : u.toInt64 = U) : (x.toInt64 < L ∨ U < x.toInt64) ↔ (x < l ∨ u < x) := by
  rw [← hL, ← hU, w_lt, w_lt]
theorem mW_M {f : RF} {w k h : Nat} (hM : okM f w k h) (hh : h < 2 ^ 31) : mW f = f (8 + h % w) ∧ (f 4).toNatClampNeg = k ∧ f 5 = nI h := by
  obtain ⟨a3, a4, a5, a6, a7, -⟩ := hM
  unfold mW
  rw [a3, a5, a4, nI_clamp hh, nI_clamp (by omega), nI_clamp (by omega)]
  exact ⟨rfl, rfl, rfl⟩
theorem snd_no {s v : Int32} {k : Nat} (hk : k ≤ 1000) (e : v = nI k - 1) (h : s.toInt64 < 0 ∨ v.toInt64 < s.toInt64) : ¬ sB (nI k) s := by
  intro g
  rcases h with q | q
  · exact g.1 ((w_lt s 0).mp q)
  · rw [w_lt, e] at q
    obtain ⟨j, hj, rfl⟩ := vp_in_of (in_of g.1 g.2 (by omega)) (by omega)
    rw [Int32.lt_iff_toInt_lt, nI_toInt (by omega)] at q
    have e1 : (nI k - 1).toInt = (k : Int) - 1 := pk_sub_toInt (a := k) (b := 1) (by omega) (by decide)
    rw [e1] at q
    omega
theorem snd_in {s v : Int32} {k : Nat} (hk : k ≤ 1000) (e : v = nI k - 1) (h : ¬ (s.toInt64 < 0 ∨ v.toInt64 < s.toInt64)) : vp_in s k := by
  have h1 : ¬ s.toInt64 < (0 : Int32).toInt64 := fun q => h (Or.inl q)
  have h2 : ¬ v.toInt64 < s.toInt64 := fun q => h (Or.inr q)
  rw [w_lt] at h1 h2
  rw [vp_in_iff]
  rw [Int32.lt_iff_toInt_lt] at h1 h2
  have e1 : (nI k - 1).toInt = (k : Int) - 1 := pk_sub_toInt (a := k) (b := 1) (by omega) (by decide)
  rw [e, e1] at h2
  have e2 : (0 : Int32).toInt = 0 := rfl
  rw [e2] at h1
  constructor <;> omega
/-- from -1 on -/
theorem m1_in {s v : Int32} {k : Nat} (hk : k ≤ 1000) (e : v = nI k - 1) (h : ¬ (s.toInt64 < -1 ∨ v.toInt64 < s.toInt64)) : s = -1 ∨ vp_in s k := by
  have h1 : ¬ s.toInt64 < (-1 : Int32).toInt64 := fun q => h (Or.inl q)
  have h2 : ¬ v.toInt64 < s.toInt64 := fun q => h (Or.inr q)
  rw [w_lt] at h1 h2
  rw [vp_in_iff]
  rw [Int32.lt_iff_toInt_lt] at h1 h2
  have e1 : (nI k - 1).toInt = (k : Int) - 1 := pk_sub_toInt (a := k) (b := 1) (by omega) (by decide)
  rw [e, e1] at h2
  have e2 : (-1 : Int32).toInt = -1 := rfl
  rw [e2] at h1
  by_cases q : s.toInt = -1
  · exact Or.inl (Int32.toInt_inj.mp q)
  · exact Or.inr ⟨by omega, by omega⟩
/-- i from 0 to q - b: places of a row -/
theorem dif_in {i v : Int32} {q b : Nat} (hq : q ≤ 40) (hb : b ≤ 1000) (e : v = nI q - nI b) (h : ¬ (i.toInt64 < 0 ∨ v.toInt64 < i.toInt64)) : hpF i (nI b) := by
  have h1 : ¬ i.toInt64 < (0 : Int32).toInt64 := fun q => h (Or.inl q)
  have h2 : ¬ v.toInt64 < i.toInt64 := fun q => h (Or.inr q)
  rw [w_lt] at h1 h2
  obtain ⟨a, ha, rfl⟩ := nI_of h1
  refine ⟨a, b, rfl, rfl, ?_⟩
  rw [Int32.lt_iff_toInt_lt] at h2
  have e1 : (nI q - nI b).toInt = (q : Int) - b := pk_sub_toInt (by omega) (by omega)
  rw [e, e1, nI_toInt ha] at h2
  omega
theorem cp_in {i n : Int32} {v : Int64} {q : Nat} (hq : q ≤ 40) (hn : ¬ n < 0) (e : v = (nI q).toInt64 - n.toInt64) (h : ¬ (i.toInt64 < 0 ∨ v < i.toInt64)) : hpF i n := by
  have h1 : ¬ i.toInt64 < (0 : Int32).toInt64 := fun q => h (Or.inl q)
  have h2 : ¬ v < i.toInt64 := fun q => h (Or.inr q)
  rw [w_lt] at h1
  obtain ⟨a, ha, rfl⟩ := nI_of h1
  obtain ⟨b, hb, rfl⟩ := nI_of hn
  refine ⟨a, b, rfl, rfl, ?_⟩
  rw [e, Int64.lt_iff_toInt_lt, Int64.toInt_sub, Int32.toInt_toInt64, Int32.toInt_toInt64, Int32.toInt_toInt64, nI_toInt ha, nI_toInt hb, nI_toInt (by omega)] at h2
  have e1 : ((q : Int) - b).bmod (2 ^ 64) = (q : Int) - b := by
    apply Int.bmod_eq_of_le <;> omega
  rw [e1] at h2
  omega
theorem and_nat {a b : Nat} (ha : a < 2 ^ 31) (hb : b < 2 ^ 31) : ∃ z : Nat, z ≤ b ∧ z = a &&& b ∧ nI a &&& nI b = nI z := by
  have h1 : a &&& b ≤ b := Nat.and_le_right
  refine ⟨a &&& b, h1, rfl, ?_⟩
  apply Int32.toBitVec_inj.mp
  apply BitVec.eq_of_toNat_eq
  rw [Int32.toBitVec_and, BitVec.toNat_and, pk_tn (by omega), pk_tn (by omega), pk_tn (by omega)]
/-- a counter that goes down: n - 1, n - 2, .. -/
noncomputable def cdn (n i : Nat) : Int32 := nI n - 1 - nI i
theorem cdn_toInt {n i : Nat} (hn : n ≤ 1000) (hi : i ≤ 1000) : (cdn n i).toInt = (n : Int) - 1 - i := by
  unfold cdn
  have e1 : (nI n - 1).toInt = (n : Int) - 1 := pk_sub_toInt (a := n) (b := 1) (by omega) (by decide)
  rw [Int32.toInt_sub, e1, nI_toInt (by omega)]
  apply Int.bmod_eq_of_le <;> omega
theorem cdn_0 (n : Nat) : nI n - 1 = cdn n 0 := by
  show nI n - 1 = nI n - 1 - nI 0
  rw [nI_0, Int32.sub_zero]
theorem cdn_lt {n i : Nat} (hn : n ≤ 1000) (hi : i < n) : ¬ cdn n i < 0 := by
  rw [Int32.lt_iff_toInt_lt, cdn_toInt hn (by omega)]
  have e2 : (0 : Int32).toInt = 0 := rfl
  rw [e2]
  omega
theorem cdn_end {n : Nat} (hn : n ≤ 1000) : cdn n n < 0 := by
  rw [Int32.lt_iff_toInt_lt, cdn_toInt hn hn]
  have e2 : (0 : Int32).toInt = 0 := rfl
  rw [e2]
  omega
theorem cdn_s {n i : Nat} (hn : n ≤ 1000) (hi : i < n) : cdn n i + Int32.ofInt (-1) = cdn n (i + 1) := by
  apply Int32.toInt_inj.mp
  rw [Int32.toInt_add, cdn_toInt hn (by omega), cdn_toInt hn (by omega)]
  have e3 : (Int32.ofInt (-1)).toInt = -1 := by decide
  rw [e3]
  have e4 : ((n : Int) - 1 - i + -1).bmod (2 ^ 32) = (n : Int) - 1 - i + -1 := by
    apply Int.bmod_eq_of_le <;> omega
  rw [e4]
  omega
theorem cdn_shl {n i : Nat} (hn : n ≤ 4) (hi : i < n) : ∃ sh : Nat, (1 : Int32) <<< (cdn n i &&& 31) = nI sh ∧ sh ≤ 8 := by
  have e1 : cdn n i = nI (n - 1 - i) := by
    apply Int32.toInt_inj.mp
    rw [cdn_toInt (by omega) (by omega), nI_toInt (by omega)]
    omega
  rw [e1]
  rcases (show n - 1 - i = 0 ∨ n - 1 - i = 1 ∨ n - 1 - i = 2 ∨ n - 1 - i = 3 by omega) with q | q | q | q <;> rw [q]
  · exact ⟨1, by decide, by omega⟩
  · exact ⟨2, by decide, by omega⟩
  · exact ⟨4, by decide, by omega⟩
  · exact ⟨8, by decide, by omega⟩
/-- bit y of x -/
noncomputable def hasB (x y : Int32) : Prop := x >>> (y &&& 31) &&& 1 = 1
theorem lrem_lt {x y : Int64} (hy : ¬ y = 0) : (x - x / y * y).toInt.natAbs < y.toInt.natAbs := by
  have h0 : y.toInt ≠ 0 := fun q => hy (Int64.toInt_inj.mp q)
  have e1 : (x - x / y * y).toInt = (x.toInt.tmod y.toInt).bmod (2 ^ 64) := by
    rw [Int64.toInt_sub, Int64.toInt_mul, Int64.toInt_div, Int.sub_bmod_bmod, Int.mul_comm ((x.toInt.tdiv y.toInt).bmod (2 ^ 64)), ← Int.sub_bmod_bmod, Int.mul_bmod_bmod, Int.sub_bmod_bmod, Int.tmod_def]
  have h1 : (x.toInt.tmod y.toInt).natAbs = x.toInt.natAbs % y.toInt.natAbs := Int.natAbs_tmod _ _
  have h2 : x.toInt.natAbs % y.toInt.natAbs < y.toInt.natAbs := Nat.mod_lt _ (by omega)
  have h3 := y.toInt_lt
  have h4 := y.le_toInt
  rw [e1, Int.bmod_eq_of_le (by omega) (by omega), h1]
  exact h2
theorem rem_nz {x y : Int64} (h : ¬ y = 0) : ¬ y = 0 ∨ ¬ x = 0 := Or.inl h
theorem lsum_n {n : Int32} {i z : Nat} (h : ∀ s : Nat, s < i → hasB n (nI s) → 1 ≤ z) (f : ¬ hasB n (nI i)) : ∀ s : Nat, s < i + 1 → hasB n (nI s) → 1 ≤ z + 0 := by
  intro s hs hb
  by_cases q : s = i
  · rw [q] at hb
    exact absurd hb f
  · exact h s (by omega) hb

theorem mm0 {f : RF} : m38 f 0 = f 0 := rfl
theorem mm1 {f : RF} : m38 f 1 = f 1 := rfl
theorem mm2 {f : RF} : m38 f 2 = f 2 := rfl
theorem mm3 {f : RF} : m38 f 3 = f 3 := rfl
theorem mm4 {f : RF} : m38 f 4 = f 4 := rfl
theorem mm5 {f : RF} : m38 f 5 = f 5 := rfl
theorem mm6 {f : RF} : m38 f 6 = f 6 := rfl
theorem mm7 {f : RF} : m38 f 7 = f 7 := rfl
theorem cell_nz {f : RF} {w k h : Nat} (hM : okM f w k h) (hk : 1 ≤ k) : ¬ f 0 = 0 := by
  obtain ⟨-, -, -, -, -, -, ⟨c, c1, c2, c3⟩, -⟩ := hM
  rw [c3]
  exact nI_ne0 (c2 hk) (by omega)
theorem guS_M {f : RF} {w k h : Nat} (hM : okM f w k h) {j : Nat} (hw : 1 ≤ w) (hh : h < 2 ^ 31) : guS (m38 f) j = f (8 + (h + j) % w) := by
  obtain ⟨a3, a4, a5, a6, -⟩ := hM
  have h9 : (h + j) % w < w := Nat.mod_lt _ (by omega)
  unfold guS
  rw [mm5, mm3, a3, a5, nI_clamp hh, nI_clamp (by omega), m38_at (by omega)]
theorem th_M {f : RF} {w k h : Nat} (hM : okM f w k h) {n : Int32} : thS (m38 f) n = thR (fun s => f (26 + s)) n k := by
  obtain ⟨a3, a4, a5, a6, a7, -⟩ := hM
  unfold thS
  rw [mm4, a4, nI_clamp (by omega)]
  exact thR_c k (fun i hi => m38_at (by omega))
theorem prR_M {fn fz : RF} (hs : ∀ j : Nat, j < 8 → fz j = -1 ∨ ∃ q : Nat, q ≤ 40 ∧ fz j = nI q) (hl : ∀ j : Nat, j < 8 → ¬ fz j = -1 → ¬ fn j = -1) (i : Nat) (hi : i < 8) : (mbl fn fz i = -1 ↔ ¬ 0 ≤ fz i) := by
  unfold mbl
  rcases hs i hi with e | ⟨q, hq, e⟩
  · rw [if_neg (fun z => z.2 e), e]
    exact ⟨fun _ => by decide, fun _ => rfl⟩
  · have n1 : ¬ fz i = -1 := by
      rw [e]
      exact fun z => nI_pos (n := q) (by omega) (by rw [z]; decide)
    rw [if_pos ⟨hi, n1⟩, e]
    exact ⟨fun z => absurd z (hl i hi n1), fun z => absurd (nI_pos' (by omega)) z⟩
theorem on_step : ∀ s : Nat, s < 64 → 0 < s → onN s = onN (s &&& (s - 1)) + 1 := by decide +kernel
theorem on_nI {c : Int32} {s z j : Nat} (h : c + nI (onN s) = nI (onN j)) (hs : s < 64) (h0 : 0 < s) (e : z = s &&& (s - 1)) : c + 1 + nI (onN z) = nI (onN j) := by
  rw [← h, on_step s hs h0, ← e, ← nI_add, Int32.add_assoc, Int32.add_comm 1]
  rfl
theorem bd2_iff {a : Int32} : (a < 0 ∨ 1 < a) ↔ bd2 a := by
  have e1 : (1 : Int32).toInt = 1 := rfl
  have e2 : (2 : Int32).toInt = 2 := rfl
  unfold bd2
  rw [Int32.lt_iff_toInt_lt (x := 1), Int32.lt_iff_toInt_lt (x := a) (y := 2), e1, e2]
  constructor
  · rintro (q | q)
    · exact Or.inl q
    · exact Or.inr (by omega)
  · rintro (q | q)
    · exact Or.inl q
    · exact Or.inr (by omega)
theorem nb2 {n : Nat} (hn : n ≤ 1) : ¬ bd2 (nI n) := by
  rcases (show n = 0 ∨ n = 1 by omega) with rfl | rfl <;> decide
theorem akM_c {f : RF} {w : Nat} {x : Int32} {s : T16} (h : w < 6) : akM (m38 f) w x s = akM f w x s := by
  unfold akM szM mkM vsM sdM dsM vmM mkM lentM sdM dsM vmM lentM
  rw [m38_at (by omega), m38_at (by omega), m38_at (by omega)]
theorem trc_M {a : Int32} {z : Nat} (hz : z ≤ 16) : (a < 0 ∨ nI z - 1 < a) ↔ (a < 0 ∨ nI z ≤ a) := by
  have e1 : (nI z - 1).toInt = (z : Int) - 1 := pk_sub_toInt (a := z) (b := 1) (by omega) (by decide)
  have e0 : (0 : Int32).toInt = 0 := rfl
  rw [Int32.lt_iff_toInt_lt, Int32.lt_iff_toInt_lt, Int32.le_iff_toInt_le, e1, e0, nI_toInt (by omega)]
  omega
/-! an hour's leaves -/
theorem upd_id (f : RF) (k : Nat) : upd f k (f k) = f := by
  funext j
  unfold upd
  split
  · rename_i h
    rw [h]
  · rfl
theorem dr_lost {fs g1 g2 g3 : RF} {i L : Nat} {v : Int32} (h3 : g3 = upd g2 (32 + i) (nI L)) (h2 : g2 = upd g1 (20 + i) v) (h1 : g1 = upd fs (26 + i) 2) (e : v = g1 (20 + i)) (hL : g2 (32 + i) = nI L) : g3 = upd fs (26 + i) 2 := by
  rw [h3, ← hL, upd_id, h2, e, upd_id, h1]
theorem mDr_1 {fs : RF} {i : Nat} {n v : Int32} (t : toM fs i n = v) (h : ¬ iC (fs 0) v) : mDr fs i n = upd fs (26 + i) 2 := by
  have h1 : lostM fs i n := Or.inl (by rw [t]; exact h)
  unfold mDr
  rw [if_pos h1]
theorem mDr_2 {fs : RF} {i : Nat} {n l : Int32} (h : loM fs i = l) (h0 : l = 0) : mDr fs i n = upd fs (26 + i) 2 := by
  have h1 : lostM fs i n := Or.inr (h.trans h0)
  unfold mDr
  rw [if_pos h1]
theorem mDr_3 {fs : RF} {i : Nat} {n v l : Int32} (t : toM fs i n = v) (h : iC (fs 0) v) (hl : loM fs i = l) (h0 : ¬ l = 0) : mDr fs i n = upd (upd (upd fs (26 + i) 0) (20 + i) v) (32 + i) l := by
  have h1 : ¬ lostM fs i n := by
    rintro (q | q)
    · rw [t] at q
      exact q h
    · exact h0 (hl.symm.trans q)
  unfold mDr
  rw [if_neg h1, t, hl]
theorem lo4 {fs : RF} {i L : Nat} {k : Int32} (e : k = fs (14 + i)) (c : k = 4) (hL : fs (32 + i) = nI L) (h1 : 1 ≤ L) : loM fs i = nI (L - 1) := by
  unfold loM lbM
  rw [← e, if_pos c, hL]
  exact pk_sub (b := 1) h1
theorem lo5 {fs : RF} {i L : Nat} {k : Int32} (e : k = fs (14 + i)) (c : ¬ k = 4) (c5 : k = 5) (hL : fs (32 + i) = nI L) (h20 : L < 20) : loM fs i = nI (L + 1) := by
  unfold loM lbM
  have h : nI L < 20 := (nI_ltI (a := L) (b := 20) (by omega) (by decide)).mpr h20
  rw [← e, if_neg c, hL, if_pos ⟨c5, h⟩]
  exact nI_add L 1
theorem lo5b {fs : RF} {i L : Nat} {k : Int32} (e : k = fs (14 + i)) (c : ¬ k = 4) (hL : fs (32 + i) = nI L) (h20 : ¬ L < 20) (hL2 : L ≤ 20) : loM fs i = nI L := by
  unfold loM lbM
  have h : ¬ nI L < 20 := fun q => h20 ((nI_ltI (a := L) (b := 20) (by omega) (by decide)).mp q)
  rw [← e, if_neg c, hL, if_neg (fun q => h q.2)]
theorem lon {fs : RF} {i L : Nat} {k : Int32} (e : k = fs (14 + i)) (c : ¬ k = 4) (c5 : ¬ k = 5) (hL : fs (32 + i) = nI L) : loM fs i = nI L := by
  unfold loM lbM
  rw [← e, if_neg c, hL, if_neg (fun q => c5 q.1)]
theorem mSt_n {n : Int32} {i : Nat} {F : RF} {G : Int32} (c : ¬ F (26 + i) = 0) : mSt n i (F, G) = (F, G) := by
  have h1 : mD1 F i n = F := if_neg c
  unfold mSt
  rw [h1, if_neg (fun q => c q.1)]
theorem mSt_l {n : Int32} {i : Nat} {F F2 : RF} {G : Int32} (c : F (26 + i) = 0) (hF : F2 = mDr F i n) (h : ¬ F2 (26 + i) = 0 ∨ n = 0 ∨ ¬ amM F2 i) : mSt n i (F, G) = (F2, G) := by
  have h1 : mD1 F i n = F2 := (if_pos c).trans hF.symm
  have h2 : ¬ (F2 (26 + i) = 0 ∧ ¬ n = 0 ∧ amM F2 i) := by
    rintro ⟨a, b, d⟩
    rcases h with q | q | q
    · exact q a
    · exact b q
    · exact q d
  unfold mSt
  rw [h1, if_neg h2]
theorem mSt_g {n v w : Int32} {i : Nat} {F F2 g : RF} {G : Int32} (c : F (26 + i) = 0) (hF : F2 = mDr F i n) (h1 : F2 (26 + i) = 0) (h2 : ¬ n = 0) (h3 : amM F2 i) (hu : g = upd F2 (26 + i) 1) (e : v = g (32 + i)) (e2 : w = G + v) : mSt n i (F, G) = (g, w) := by
  have h4 : mD1 F i n = F2 := (if_pos c).trans hF.symm
  have h5 : v = F2 (32 + i) := by rw [e, hu, pk_un (by omega)]
  unfold mSt
  rw [h4, if_pos ⟨h1, h2, h3⟩, e2, h5, hu]
theorem oh_1 {n : Int32} {i : Nat} {s : MG} {F : RF} {G : Int32} (haf : mHs n i s = (F, G)) {r : MG} (h : mSt n i (F, G) = r) : mHs n (i + 1) s = r := by
  show mSt n i (mHs n i s) = r
  rw [haf]
  exact h
theorem oh_e {F fs : RF} {G : Int32} {k h : Nat} (hk : (fs 4).toNatClampNeg = k) (haf : mHs (mW fs - 2) k (fs, 0) = (F, G)) (h5 : F 5 = nI h) : mH fs = upd (upd F 7 (limX (F 7) G)) 5 (nI (h + 1)) := by
  unfold mH
  rw [hk, haf]
  show upd (upd F 7 (limX (F 7) G)) 5 (F 5 + 1) = _
  rw [h5]
  exact congrArg _ (nI_add h 1)
theorem oh_e1 {F fs : RF} {G : Int32} {k h : Nat} (hk : (fs 4).toNatClampNeg = k) (haf : mHs (mW fs - 2) k (fs, 0) = (F, G)) (h5 : F 5 = nI h) (c : F 7 + G ≤ 999) : upd (upd F 7 (F 7 + G)) 5 (nI (h + 1)) = mH fs := by
  have e : limX (F 7) G = F 7 + G := if_neg (i_nlt.mpr c)
  rw [oh_e hk haf h5, e]
theorem oh_e2 {F fs : RF} {G : Int32} {k h : Nat} (hk : (fs 4).toNatClampNeg = k) (haf : mHs (mW fs - 2) k (fs, 0) = (F, G)) (h5 : F 5 = nI h) (c : ¬ F 7 + G ≤ 999) : upd (upd F 7 999) 5 (nI (h + 1)) = mH fs := by
  have e : limX (F 7) G = 999 := if_pos (i_nle.mp c)
  rw [oh_e hk haf h5, e]
theorem n0 {a : Nat} (h : a = 0) : nI a = 0 := by
  rw [h]
  rfl
theorem dr_kept {fs g1 g2 g3 : RF} {i : Nat} {v l : Int32} (h3 : g3 = upd g2 (32 + i) l) (h2 : g2 = upd g1 (20 + i) v) (h1 : g1 = upd fs (26 + i) 0) : g3 = upd (upd (upd fs (26 + i) 0) (20 + i) v) (32 + i) l := by
  rw [h3, h2, h1]
theorem dX8_asLane_0 : decode cX8_asLane 0 = .ok (.iload_n 0, 1) := dq_26 (by decide +kernel)
theorem dX8_asLane_1 : decode cX8_asLane 1 = .ok (.ifCond .ne 13, 3) := dq_154 (b1 := 0) (b2 := 13) (by decide +kernel) (by decide)
theorem dX8_asLane_10 : decode cX8_asLane 10 = .ok (.ishr, 1) := dq_122 (by decide +kernel)
theorem dX8_asLane_11 : decode cX8_asLane 11 = .ok (.goto 19, 3) := dq_167 (b1 := 0) (b2 := 19) (by decide +kernel) (by decide)
theorem dX8_asLane_14 : decode cX8_asLane 14 = .ok (.iload_n 0, 1) := dq_26 (by decide +kernel)
theorem dX8_asLane_15 : decode cX8_asLane 15 = .ok (.iconst 1, 1) := dq_4 (by decide +kernel)
theorem dX8_asLane_16 : decode cX8_asLane 16 = .ok (.if_icmp .ne 13, 3) := dq_160 (b1 := 0) (b2 := 13) (by decide +kernel) (by decide)
theorem dX8_asLane_19 : decode cX8_asLane 19 = .ok (.iload_n 1, 1) := dq_27 (by decide +kernel)
theorem dX8_asLane_20 : decode cX8_asLane 20 = .ok (.bipush 16, 2) := dq_16 (b1 := 16) (by decide +kernel) (by decide)
theorem dX8_asLane_22 : decode cX8_asLane 22 = .ok (.ishl, 1) := dq_120 (by decide +kernel)
theorem dX8_asLane_23 : decode cX8_asLane 23 = .ok (.bipush 16, 2) := dq_16 (b1 := 16) (by decide +kernel) (by decide)
theorem dX8_asLane_25 : decode cX8_asLane 25 = .ok (.ishr, 1) := dq_122 (by decide +kernel)
theorem dX8_asLane_26 : decode cX8_asLane 26 = .ok (.goto 4, 3) := dq_167 (b1 := 0) (b2 := 4) (by decide +kernel) (by decide)
theorem dX8_asLane_29 : decode cX8_asLane 29 = .ok (.iload_n 1, 1) := dq_27 (by decide +kernel)
theorem dX8_asLane_30 : decode cX8_asLane 30 = .ok (.ireturn, 1) := dq_172 (by decide +kernel)
theorem dX8_asLane_4 : decode cX8_asLane 4 = .ok (.iload_n 1, 1) := dq_27 (by decide +kernel)
theorem dX8_asLane_5 : decode cX8_asLane 5 = .ok (.bipush 24, 2) := dq_16 (b1 := 24) (by decide +kernel) (by decide)
theorem dX8_asLane_7 : decode cX8_asLane 7 = .ok (.ishl, 1) := dq_120 (by decide +kernel)
theorem dX8_asLane_8 : decode cX8_asLane 8 = .ok (.bipush 24, 2) := dq_16 (b1 := 24) (by decide +kernel) (by decide)
theorem dX8_drift_0 : decode cX8_drift 0 = .ok (.aload_n 0, 1) := dq_42 (by decide +kernel)
theorem dX8_drift_1 : decode cX8_drift 1 = .ok (.getfield 19, 3) := dq_180 (b1 := 0) (b2 := 19) (by decide +kernel) (by decide)
theorem dX8_drift_10 : decode cX8_drift 10 = .ok (.aload_n 0, 1) := dq_42 (by decide +kernel)
theorem dX8_drift_101 : decode cX8_drift 101 = .ok (.ifCond .ne 7, 3) := dq_154 (b1 := 0) (b2 := 7) (by decide +kernel) (by decide)
theorem dX8_drift_104 : decode cX8_drift 104 = .ok (.iconst 1, 1) := dq_4 (by decide +kernel)
theorem dX8_drift_105 : decode cX8_drift 105 = .ok (.goto 4, 3) := dq_167 (b1 := 0) (b2 := 4) (by decide +kernel) (by decide)
theorem dX8_drift_108 : decode cX8_drift 108 = .ok (.iconst 0, 1) := dq_3 (by decide +kernel)
theorem dX8_drift_109 : decode cX8_drift 109 = .ok (.istore 6, 2) := dq_54 (b1 := 6) (by decide +kernel) (by decide)
theorem dX8_drift_11 : decode cX8_drift 11 = .ok (.getfield 19, 3) := dq_180 (b1 := 0) (b2 := 19) (by decide +kernel) (by decide)
theorem dX8_drift_111 : decode cX8_drift 111 = .ok (.aload_n 0, 1) := dq_42 (by decide +kernel)
theorem dX8_drift_112 : decode cX8_drift 112 = .ok (.getfield 19, 3) := dq_180 (b1 := 0) (b2 := 19) (by decide +kernel) (by decide)
theorem dX8_drift_115 : decode cX8_drift 115 = .ok (.bipush 26, 2) := dq_16 (b1 := 26) (by decide +kernel) (by decide)
theorem dX8_drift_117 : decode cX8_drift 117 = .ok (.iload_n 1, 1) := dq_27 (by decide +kernel)
theorem dX8_drift_118 : decode cX8_drift 118 = .ok (.iadd, 1) := dq_96 (by decide +kernel)
theorem dX8_drift_119 : decode cX8_drift 119 = .ok (.iload 6, 2) := dq_21 (b1 := 6) (by decide +kernel) (by decide)
theorem dX8_drift_121 : decode cX8_drift 121 = .ok (.ifCond .eq 7, 3) := dq_153 (b1 := 0) (b2 := 7) (by decide +kernel) (by decide)
theorem dX8_drift_124 : decode cX8_drift 124 = .ok (.iconst 2, 1) := dq_5 (by decide +kernel)
theorem dX8_drift_125 : decode cX8_drift 125 = .ok (.goto 4, 3) := dq_167 (b1 := 0) (b2 := 4) (by decide +kernel) (by decide)
theorem dX8_drift_128 : decode cX8_drift 128 = .ok (.iconst 0, 1) := dq_3 (by decide +kernel)
theorem dX8_drift_129 : decode cX8_drift 129 = .ok (.iastore, 1) := dq_79 (by decide +kernel)
theorem dX8_drift_130 : decode cX8_drift 130 = .ok (.aload_n 0, 1) := dq_42 (by decide +kernel)
theorem dX8_drift_131 : decode cX8_drift 131 = .ok (.getfield 19, 3) := dq_180 (b1 := 0) (b2 := 19) (by decide +kernel) (by decide)
theorem dX8_drift_134 : decode cX8_drift 134 = .ok (.bipush 20, 2) := dq_16 (b1 := 20) (by decide +kernel) (by decide)
theorem dX8_drift_136 : decode cX8_drift 136 = .ok (.iload_n 1, 1) := dq_27 (by decide +kernel)
theorem dX8_drift_137 : decode cX8_drift 137 = .ok (.iadd, 1) := dq_96 (by decide +kernel)
theorem dX8_drift_138 : decode cX8_drift 138 = .ok (.iload 6, 2) := dq_21 (b1 := 6) (by decide +kernel) (by decide)
theorem dX8_drift_14 : decode cX8_drift 14 = .ok (.bipush 20, 2) := dq_16 (b1 := 20) (by decide +kernel) (by decide)
theorem dX8_drift_140 : decode cX8_drift 140 = .ok (.ifCond .eq 15, 3) := dq_153 (b1 := 0) (b2 := 15) (by decide +kernel) (by decide)
theorem dX8_drift_143 : decode cX8_drift 143 = .ok (.aload_n 0, 1) := dq_42 (by decide +kernel)
theorem dX8_drift_144 : decode cX8_drift 144 = .ok (.getfield 19, 3) := dq_180 (b1 := 0) (b2 := 19) (by decide +kernel) (by decide)
theorem dX8_drift_147 : decode cX8_drift 147 = .ok (.bipush 20, 2) := dq_16 (b1 := 20) (by decide +kernel) (by decide)
theorem dX8_drift_149 : decode cX8_drift 149 = .ok (.iload_n 1, 1) := dq_27 (by decide +kernel)
theorem dX8_drift_150 : decode cX8_drift 150 = .ok (.iadd, 1) := dq_96 (by decide +kernel)
theorem dX8_drift_151 : decode cX8_drift 151 = .ok (.iaload, 1) := dq_46 (by decide +kernel)
theorem dX8_drift_152 : decode cX8_drift 152 = .ok (.goto 5, 3) := dq_167 (b1 := 0) (b2 := 5) (by decide +kernel) (by decide)
theorem dX8_drift_155 : decode cX8_drift 155 = .ok (.iload 4, 2) := dq_21 (b1 := 4) (by decide +kernel) (by decide)
theorem dX8_drift_157 : decode cX8_drift 157 = .ok (.iastore, 1) := dq_79 (by decide +kernel)
theorem dX8_drift_158 : decode cX8_drift 158 = .ok (.aload_n 0, 1) := dq_42 (by decide +kernel)
theorem dX8_drift_159 : decode cX8_drift 159 = .ok (.getfield 19, 3) := dq_180 (b1 := 0) (b2 := 19) (by decide +kernel) (by decide)
theorem dX8_drift_16 : decode cX8_drift 16 = .ok (.iload_n 1, 1) := dq_27 (by decide +kernel)
theorem dX8_drift_162 : decode cX8_drift 162 = .ok (.bipush 32, 2) := dq_16 (b1 := 32) (by decide +kernel) (by decide)
theorem dX8_drift_164 : decode cX8_drift 164 = .ok (.iload_n 1, 1) := dq_27 (by decide +kernel)
theorem dX8_drift_165 : decode cX8_drift 165 = .ok (.iadd, 1) := dq_96 (by decide +kernel)
theorem dX8_drift_166 : decode cX8_drift 166 = .ok (.iload 6, 2) := dq_21 (b1 := 6) (by decide +kernel) (by decide)
theorem dX8_drift_168 : decode cX8_drift 168 = .ok (.ifCond .eq 15, 3) := dq_153 (b1 := 0) (b2 := 15) (by decide +kernel) (by decide)
theorem dX8_drift_17 : decode cX8_drift 17 = .ok (.iadd, 1) := dq_96 (by decide +kernel)
theorem dX8_drift_171 : decode cX8_drift 171 = .ok (.aload_n 0, 1) := dq_42 (by decide +kernel)
theorem dX8_drift_172 : decode cX8_drift 172 = .ok (.getfield 19, 3) := dq_180 (b1 := 0) (b2 := 19) (by decide +kernel) (by decide)
theorem dX8_drift_175 : decode cX8_drift 175 = .ok (.bipush 32, 2) := dq_16 (b1 := 32) (by decide +kernel) (by decide)
theorem dX8_drift_177 : decode cX8_drift 177 = .ok (.iload_n 1, 1) := dq_27 (by decide +kernel)
theorem dX8_drift_178 : decode cX8_drift 178 = .ok (.iadd, 1) := dq_96 (by decide +kernel)
theorem dX8_drift_179 : decode cX8_drift 179 = .ok (.iaload, 1) := dq_46 (by decide +kernel)
theorem dX8_drift_18 : decode cX8_drift 18 = .ok (.iaload, 1) := dq_46 (by decide +kernel)
theorem dX8_drift_180 : decode cX8_drift 180 = .ok (.goto 5, 3) := dq_167 (b1 := 0) (b2 := 5) (by decide +kernel) (by decide)
theorem dX8_drift_183 : decode cX8_drift 183 = .ok (.iload 5, 2) := dq_21 (b1 := 5) (by decide +kernel) (by decide)
theorem dX8_drift_185 : decode cX8_drift 185 = .ok (.iastore, 1) := dq_79 (by decide +kernel)
theorem dX8_drift_186 : decode cX8_drift 186 = .ok (.return_, 1) := dq_177 (by decide +kernel)
theorem dX8_drift_19 : decode cX8_drift 19 = .ok (.iload_n 3, 1) := dq_29 (by decide +kernel)
theorem dX8_drift_20 : decode cX8_drift 20 = .ok (.iload_n 2, 1) := dq_28 (by decide +kernel)
theorem dX8_drift_21 : decode cX8_drift 21 = .ok (.invokestatic 145, 3) := dq_184 (b1 := 0) (b2 := 145) (by decide +kernel) (by decide)
theorem dX8_drift_24 : decode cX8_drift 24 = .ok (.iadd, 1) := dq_96 (by decide +kernel)
theorem dX8_drift_25 : decode cX8_drift 25 = .ok (.istore 4, 2) := dq_54 (b1 := 4) (by decide +kernel) (by decide)
theorem dX8_drift_27 : decode cX8_drift 27 = .ok (.iload_n 3, 1) := dq_29 (by decide +kernel)
theorem dX8_drift_28 : decode cX8_drift 28 = .ok (.iconst 4, 1) := dq_7 (by decide +kernel)
theorem dX8_drift_29 : decode cX8_drift 29 = .ok (.if_icmp .ne 17, 3) := dq_160 (b1 := 0) (b2 := 17) (by decide +kernel) (by decide)
theorem dX8_drift_32 : decode cX8_drift 32 = .ok (.aload_n 0, 1) := dq_42 (by decide +kernel)
theorem dX8_drift_33 : decode cX8_drift 33 = .ok (.getfield 19, 3) := dq_180 (b1 := 0) (b2 := 19) (by decide +kernel) (by decide)
theorem dX8_drift_36 : decode cX8_drift 36 = .ok (.bipush 32, 2) := dq_16 (b1 := 32) (by decide +kernel) (by decide)
theorem dX8_drift_38 : decode cX8_drift 38 = .ok (.iload_n 1, 1) := dq_27 (by decide +kernel)
theorem dX8_drift_39 : decode cX8_drift 39 = .ok (.iadd, 1) := dq_96 (by decide +kernel)
theorem dX8_drift_4 : decode cX8_drift 4 = .ok (.bipush 14, 2) := dq_16 (b1 := 14) (by decide +kernel) (by decide)
theorem dX8_drift_40 : decode cX8_drift 40 = .ok (.iaload, 1) := dq_46 (by decide +kernel)
theorem dX8_drift_41 : decode cX8_drift 41 = .ok (.iconst 1, 1) := dq_4 (by decide +kernel)
theorem dX8_drift_42 : decode cX8_drift 42 = .ok (.isub, 1) := dq_100 (by decide +kernel)
theorem dX8_drift_43 : decode cX8_drift 43 = .ok (.goto 45, 3) := dq_167 (b1 := 0) (b2 := 45) (by decide +kernel) (by decide)
theorem dX8_drift_46 : decode cX8_drift 46 = .ok (.iload_n 3, 1) := dq_29 (by decide +kernel)
theorem dX8_drift_47 : decode cX8_drift 47 = .ok (.iconst 5, 1) := dq_8 (by decide +kernel)
theorem dX8_drift_48 : decode cX8_drift 48 = .ok (.if_icmp .ne 31, 3) := dq_160 (b1 := 0) (b2 := 31) (by decide +kernel) (by decide)
theorem dX8_drift_51 : decode cX8_drift 51 = .ok (.aload_n 0, 1) := dq_42 (by decide +kernel)
theorem dX8_drift_52 : decode cX8_drift 52 = .ok (.getfield 19, 3) := dq_180 (b1 := 0) (b2 := 19) (by decide +kernel) (by decide)
theorem dX8_drift_55 : decode cX8_drift 55 = .ok (.bipush 32, 2) := dq_16 (b1 := 32) (by decide +kernel) (by decide)
theorem dX8_drift_57 : decode cX8_drift 57 = .ok (.iload_n 1, 1) := dq_27 (by decide +kernel)
theorem dX8_drift_58 : decode cX8_drift 58 = .ok (.iadd, 1) := dq_96 (by decide +kernel)
theorem dX8_drift_59 : decode cX8_drift 59 = .ok (.iaload, 1) := dq_46 (by decide +kernel)
theorem dX8_drift_6 : decode cX8_drift 6 = .ok (.iload_n 1, 1) := dq_27 (by decide +kernel)
theorem dX8_drift_60 : decode cX8_drift 60 = .ok (.bipush 20, 2) := dq_16 (b1 := 20) (by decide +kernel) (by decide)
theorem dX8_drift_62 : decode cX8_drift 62 = .ok (.if_icmp .ge 17, 3) := dq_162 (b1 := 0) (b2 := 17) (by decide +kernel) (by decide)
theorem dX8_drift_65 : decode cX8_drift 65 = .ok (.aload_n 0, 1) := dq_42 (by decide +kernel)
theorem dX8_drift_66 : decode cX8_drift 66 = .ok (.getfield 19, 3) := dq_180 (b1 := 0) (b2 := 19) (by decide +kernel) (by decide)
theorem dX8_drift_69 : decode cX8_drift 69 = .ok (.bipush 32, 2) := dq_16 (b1 := 32) (by decide +kernel) (by decide)
theorem dX8_drift_7 : decode cX8_drift 7 = .ok (.iadd, 1) := dq_96 (by decide +kernel)
theorem dX8_drift_71 : decode cX8_drift 71 = .ok (.iload_n 1, 1) := dq_27 (by decide +kernel)
theorem dX8_drift_72 : decode cX8_drift 72 = .ok (.iadd, 1) := dq_96 (by decide +kernel)
theorem dX8_drift_73 : decode cX8_drift 73 = .ok (.iaload, 1) := dq_46 (by decide +kernel)
theorem dX8_drift_74 : decode cX8_drift 74 = .ok (.iconst 1, 1) := dq_4 (by decide +kernel)
theorem dX8_drift_75 : decode cX8_drift 75 = .ok (.iadd, 1) := dq_96 (by decide +kernel)
theorem dX8_drift_76 : decode cX8_drift 76 = .ok (.goto 12, 3) := dq_167 (b1 := 0) (b2 := 12) (by decide +kernel) (by decide)
theorem dX8_drift_79 : decode cX8_drift 79 = .ok (.aload_n 0, 1) := dq_42 (by decide +kernel)
theorem dX8_drift_8 : decode cX8_drift 8 = .ok (.iaload, 1) := dq_46 (by decide +kernel)
theorem dX8_drift_80 : decode cX8_drift 80 = .ok (.getfield 19, 3) := dq_180 (b1 := 0) (b2 := 19) (by decide +kernel) (by decide)
theorem dX8_drift_83 : decode cX8_drift 83 = .ok (.bipush 32, 2) := dq_16 (b1 := 32) (by decide +kernel) (by decide)
theorem dX8_drift_85 : decode cX8_drift 85 = .ok (.iload_n 1, 1) := dq_27 (by decide +kernel)
theorem dX8_drift_86 : decode cX8_drift 86 = .ok (.iadd, 1) := dq_96 (by decide +kernel)
theorem dX8_drift_87 : decode cX8_drift 87 = .ok (.iaload, 1) := dq_46 (by decide +kernel)
theorem dX8_drift_88 : decode cX8_drift 88 = .ok (.istore 5, 2) := dq_54 (b1 := 5) (by decide +kernel) (by decide)
theorem dX8_drift_9 : decode cX8_drift 9 = .ok (.istore_n 3, 1) := dq_62 (by decide +kernel)
theorem dX8_drift_90 : decode cX8_drift 90 = .ok (.aload_n 0, 1) := dq_42 (by decide +kernel)
theorem dX8_drift_91 : decode cX8_drift 91 = .ok (.iload 4, 2) := dq_21 (b1 := 4) (by decide +kernel) (by decide)
theorem dX8_drift_93 : decode cX8_drift 93 = .ok (.invokevirtual 148, 3) := dq_182 (b1 := 0) (b2 := 148) (by decide +kernel) (by decide)
theorem dX8_drift_96 : decode cX8_drift 96 = .ok (.ifCond .eq 8, 3) := dq_153 (b1 := 0) (b2 := 8) (by decide +kernel) (by decide)
theorem dX8_drift_99 : decode cX8_drift 99 = .ok (.iload 5, 2) := dq_21 (b1 := 5) (by decide +kernel) (by decide)
theorem dX8_drifts_0 : decode cX8_drifts 0 = .ok (.iload_n 0, 1) := dq_26 (by decide +kernel)
theorem dX8_drifts_1 : decode cX8_drifts 1 = .ok (.iconst 1, 1) := dq_4 (by decide +kernel)
theorem dX8_drifts_10 : decode cX8_drifts 10 = .ok (.iconst 2, 1) := dq_5 (by decide +kernel)
theorem dX8_drifts_11 : decode cX8_drifts 11 = .ok (.if_icmp .ne 9, 3) := dq_160 (b1 := 0) (b2 := 9) (by decide +kernel) (by decide)
theorem dX8_drifts_14 : decode cX8_drifts 14 = .ok (.iload_n 1, 1) := dq_27 (by decide +kernel)
theorem dX8_drifts_15 : decode cX8_drifts 15 = .ok (.iconst 2, 1) := dq_5 (by decide +kernel)
theorem dX8_drifts_16 : decode cX8_drifts 16 = .ok (.idiv, 1) := dq_108 (by decide +kernel)
theorem dX8_drifts_17 : decode cX8_drifts 17 = .ok (.goto 25, 3) := dq_167 (b1 := 0) (b2 := 25) (by decide +kernel) (by decide)
theorem dX8_drifts_2 : decode cX8_drifts 2 = .ok (.if_icmp .ne 7, 3) := dq_160 (b1 := 0) (b2 := 7) (by decide +kernel) (by decide)
theorem dX8_drifts_20 : decode cX8_drifts 20 = .ok (.iload_n 0, 1) := dq_26 (by decide +kernel)
theorem dX8_drifts_21 : decode cX8_drifts 21 = .ok (.iconst 3, 1) := dq_6 (by decide +kernel)
theorem dX8_drifts_22 : decode cX8_drifts 22 = .ok (.if_icmp .ne 9, 3) := dq_160 (b1 := 0) (b2 := 9) (by decide +kernel) (by decide)
theorem dX8_drifts_25 : decode cX8_drifts 25 = .ok (.iconst 2, 1) := dq_5 (by decide +kernel)
theorem dX8_drifts_26 : decode cX8_drifts 26 = .ok (.iload_n 1, 1) := dq_27 (by decide +kernel)
theorem dX8_drifts_27 : decode cX8_drifts 27 = .ok (.imul, 1) := dq_104 (by decide +kernel)
theorem dX8_drifts_28 : decode cX8_drifts 28 = .ok (.goto 14, 3) := dq_167 (b1 := 0) (b2 := 14) (by decide +kernel) (by decide)
theorem dX8_drifts_31 : decode cX8_drifts 31 = .ok (.iload_n 0, 1) := dq_26 (by decide +kernel)
theorem dX8_drifts_32 : decode cX8_drifts 32 = .ok (.iconst 4, 1) := dq_7 (by decide +kernel)
theorem dX8_drifts_33 : decode cX8_drifts 33 = .ok (.if_icmp .ne 8, 3) := dq_160 (b1 := 0) (b2 := 8) (by decide +kernel) (by decide)
theorem dX8_drifts_36 : decode cX8_drifts 36 = .ok (.iload_n 1, 1) := dq_27 (by decide +kernel)
theorem dX8_drifts_37 : decode cX8_drifts 37 = .ok (.ineg, 1) := dq_116 (by decide +kernel)
theorem dX8_drifts_38 : decode cX8_drifts 38 = .ok (.goto 4, 3) := dq_167 (b1 := 0) (b2 := 4) (by decide +kernel) (by decide)
theorem dX8_drifts_41 : decode cX8_drifts 41 = .ok (.iconst 0, 1) := dq_3 (by decide +kernel)
theorem dX8_drifts_42 : decode cX8_drifts 42 = .ok (.ireturn, 1) := dq_172 (by decide +kernel)
theorem dX8_drifts_5 : decode cX8_drifts 5 = .ok (.iload_n 1, 1) := dq_27 (by decide +kernel)
theorem dX8_drifts_6 : decode cX8_drifts 6 = .ok (.goto 36, 3) := dq_167 (b1 := 0) (b2 := 36) (by decide +kernel) (by decide)
theorem dX8_drifts_9 : decode cX8_drifts 9 = .ok (.iload_n 0, 1) := dq_26 (by decide +kernel)
theorem dX8_find_0 : decode cX8_find 0 = .ok (.aload_n 0, 1) := dq_42 (by decide +kernel)
theorem dX8_find_1 : decode cX8_find 1 = .ok (.iload_n 1, 1) := dq_27 (by decide +kernel)
theorem dX8_find_2 : decode cX8_find 2 = .ok (.putfield 50, 3) := dq_181 (b1 := 0) (b2 := 50) (by decide +kernel) (by decide)
theorem dX8_find_5 : decode cX8_find 5 = .ok (.ldc 54, 2) := dq_18 (b1 := 54) (by decide +kernel) (by decide)
theorem dX8_find_7 : decode cX8_find 7 = .ok (.iload_n 1, 1) := dq_27 (by decide +kernel)
theorem dX8_find_8 : decode cX8_find 8 = .ok (.isub, 1) := dq_100 (by decide +kernel)
theorem dX8_find_9 : decode cX8_find 9 = .ok (.ireturn, 1) := dq_172 (by decide +kernel)
theorem dX8_gustOf_0 : decode cX8_gustOf 0 = .ok (.aload_n 0, 1) := dq_42 (by decide +kernel)
theorem dX8_gustOf_1 : decode cX8_gustOf 1 = .ok (.getfield 19, 3) := dq_180 (b1 := 0) (b2 := 19) (by decide +kernel) (by decide)
theorem dX8_gustOf_11 : decode cX8_gustOf 11 = .ok (.iconst 3, 1) := dq_6 (by decide +kernel)
theorem dX8_gustOf_12 : decode cX8_gustOf 12 = .ok (.iaload, 1) := dq_46 (by decide +kernel)
theorem dX8_gustOf_13 : decode cX8_gustOf 13 = .ok (.irem, 1) := dq_112 (by decide +kernel)
theorem dX8_gustOf_14 : decode cX8_gustOf 14 = .ok (.iadd, 1) := dq_96 (by decide +kernel)
theorem dX8_gustOf_15 : decode cX8_gustOf 15 = .ok (.iaload, 1) := dq_46 (by decide +kernel)
theorem dX8_gustOf_16 : decode cX8_gustOf 16 = .ok (.ireturn, 1) := dq_172 (by decide +kernel)
theorem dX8_gustOf_4 : decode cX8_gustOf 4 = .ok (.bipush 8, 2) := dq_16 (b1 := 8) (by decide +kernel) (by decide)
theorem dX8_gustOf_6 : decode cX8_gustOf 6 = .ok (.iload_n 1, 1) := dq_27 (by decide +kernel)
theorem dX8_gustOf_7 : decode cX8_gustOf 7 = .ok (.aload_n 0, 1) := dq_42 (by decide +kernel)
theorem dX8_gustOf_8 : decode cX8_gustOf 8 = .ok (.getfield 19, 3) := dq_180 (b1 := 0) (b2 := 19) (by decide +kernel) (by decide)
theorem dX8_has_0 : decode cX8_has 0 = .ok (.iload_n 0, 1) := dq_26 (by decide +kernel)
theorem dX8_has_1 : decode cX8_has 1 = .ok (.iload_n 1, 1) := dq_27 (by decide +kernel)
theorem dX8_has_10 : decode cX8_has 10 = .ok (.goto 4, 3) := dq_167 (b1 := 0) (b2 := 4) (by decide +kernel) (by decide)
theorem dX8_has_13 : decode cX8_has 13 = .ok (.iconst 0, 1) := dq_3 (by decide +kernel)
theorem dX8_has_14 : decode cX8_has 14 = .ok (.ireturn, 1) := dq_172 (by decide +kernel)
theorem dX8_has_2 : decode cX8_has 2 = .ok (.ishr, 1) := dq_122 (by decide +kernel)
theorem dX8_has_3 : decode cX8_has 3 = .ok (.iconst 1, 1) := dq_4 (by decide +kernel)
theorem dX8_has_4 : decode cX8_has 4 = .ok (.iand, 1) := dq_126 (by decide +kernel)
theorem dX8_has_5 : decode cX8_has 5 = .ok (.iconst 1, 1) := dq_4 (by decide +kernel)
theorem dX8_has_6 : decode cX8_has 6 = .ok (.if_icmp .ne 7, 3) := dq_160 (b1 := 0) (b2 := 7) (by decide +kernel) (by decide)
theorem dX8_has_9 : decode cX8_has 9 = .ok (.iconst 1, 1) := dq_4 (by decide +kernel)
theorem dX8_in_0 : decode cX8_in 0 = .ok (.lload_n 0, 1) := dq_30 (by decide +kernel)
theorem dX8_in_1 : decode cX8_in 1 = .ok (.lload_n 2, 1) := dq_32 (by decide +kernel)
theorem dX8_in_10 : decode cX8_in 10 = .ok (.ifCond .gt 7, 3) := dq_157 (b1 := 0) (b2 := 7) (by decide +kernel) (by decide)
theorem dX8_in_13 : decode cX8_in 13 = .ok (.iconst 1, 1) := dq_4 (by decide +kernel)
theorem dX8_in_14 : decode cX8_in 14 = .ok (.goto 4, 3) := dq_167 (b1 := 0) (b2 := 4) (by decide +kernel) (by decide)
theorem dX8_in_17 : decode cX8_in 17 = .ok (.iconst 0, 1) := dq_3 (by decide +kernel)
theorem dX8_in_18 : decode cX8_in 18 = .ok (.ireturn, 1) := dq_172 (by decide +kernel)
theorem dX8_in_2 : decode cX8_in 2 = .ok (.lcmp, 1) := dq_148 (by decide +kernel)
theorem dX8_in_3 : decode cX8_in 3 = .ok (.ifCond .lt 14, 3) := dq_155 (b1 := 0) (b2 := 14) (by decide +kernel) (by decide)
theorem dX8_in_6 : decode cX8_in 6 = .ok (.lload_n 0, 1) := dq_30 (by decide +kernel)
theorem dX8_in_7 : decode cX8_in 7 = .ok (.lload 4, 2) := dq_22 (b1 := 4) (by decide +kernel) (by decide)
theorem dX8_in_9 : decode cX8_in 9 = .ok (.lcmp, 1) := dq_148 (by decide +kernel)
theorem dX8_isAtMill_0 : decode cX8_isAtMill 0 = .ok (.aload_n 0, 1) := dq_42 (by decide +kernel)
theorem dX8_isAtMill_1 : decode cX8_isAtMill 1 = .ok (.getfield 19, 3) := dq_180 (b1 := 0) (b2 := 19) (by decide +kernel) (by decide)
theorem dX8_isAtMill_11 : decode cX8_isAtMill 11 = .ok (.aload_n 0, 1) := dq_42 (by decide +kernel)
theorem dX8_isAtMill_12 : decode cX8_isAtMill 12 = .ok (.getfield 19, 3) := dq_180 (b1 := 0) (b2 := 19) (by decide +kernel) (by decide)
theorem dX8_isAtMill_15 : decode cX8_isAtMill 15 = .ok (.bipush 20, 2) := dq_16 (b1 := 20) (by decide +kernel) (by decide)
theorem dX8_isAtMill_17 : decode cX8_isAtMill 17 = .ok (.iload_n 1, 1) := dq_27 (by decide +kernel)
theorem dX8_isAtMill_18 : decode cX8_isAtMill 18 = .ok (.iadd, 1) := dq_96 (by decide +kernel)
theorem dX8_isAtMill_19 : decode cX8_isAtMill 19 = .ok (.iaload, 1) := dq_46 (by decide +kernel)
theorem dX8_isAtMill_20 : decode cX8_isAtMill 20 = .ok (.aload_n 0, 1) := dq_42 (by decide +kernel)
theorem dX8_isAtMill_21 : decode cX8_isAtMill 21 = .ok (.getfield 19, 3) := dq_180 (b1 := 0) (b2 := 19) (by decide +kernel) (by decide)
theorem dX8_isAtMill_24 : decode cX8_isAtMill 24 = .ok (.iconst 1, 1) := dq_4 (by decide +kernel)
theorem dX8_isAtMill_25 : decode cX8_isAtMill 25 = .ok (.iaload, 1) := dq_46 (by decide +kernel)
theorem dX8_isAtMill_26 : decode cX8_isAtMill 26 = .ok (.isub, 1) := dq_100 (by decide +kernel)
theorem dX8_isAtMill_27 : decode cX8_isAtMill 27 = .ok (.goto 19, 3) := dq_167 (b1 := 0) (b2 := 19) (by decide +kernel) (by decide)
theorem dX8_isAtMill_30 : decode cX8_isAtMill 30 = .ok (.aload_n 0, 1) := dq_42 (by decide +kernel)
theorem dX8_isAtMill_31 : decode cX8_isAtMill 31 = .ok (.getfield 19, 3) := dq_180 (b1 := 0) (b2 := 19) (by decide +kernel) (by decide)
theorem dX8_isAtMill_34 : decode cX8_isAtMill 34 = .ok (.iconst 1, 1) := dq_4 (by decide +kernel)
theorem dX8_isAtMill_35 : decode cX8_isAtMill 35 = .ok (.iaload, 1) := dq_46 (by decide +kernel)
theorem dX8_isAtMill_36 : decode cX8_isAtMill 36 = .ok (.aload_n 0, 1) := dq_42 (by decide +kernel)
theorem dX8_isAtMill_37 : decode cX8_isAtMill 37 = .ok (.getfield 19, 3) := dq_180 (b1 := 0) (b2 := 19) (by decide +kernel) (by decide)
theorem dX8_isAtMill_4 : decode cX8_isAtMill 4 = .ok (.bipush 6, 2) := dq_16 (b1 := 6) (by decide +kernel) (by decide)
theorem dX8_isAtMill_40 : decode cX8_isAtMill 40 = .ok (.bipush 20, 2) := dq_16 (b1 := 20) (by decide +kernel) (by decide)
theorem dX8_isAtMill_42 : decode cX8_isAtMill 42 = .ok (.iload_n 1, 1) := dq_27 (by decide +kernel)
theorem dX8_isAtMill_43 : decode cX8_isAtMill 43 = .ok (.iadd, 1) := dq_96 (by decide +kernel)
theorem dX8_isAtMill_44 : decode cX8_isAtMill 44 = .ok (.iaload, 1) := dq_46 (by decide +kernel)
theorem dX8_isAtMill_45 : decode cX8_isAtMill 45 = .ok (.isub, 1) := dq_100 (by decide +kernel)
theorem dX8_isAtMill_46 : decode cX8_isAtMill 46 = .ok (.istore_n 2, 1) := dq_61 (by decide +kernel)
theorem dX8_isAtMill_47 : decode cX8_isAtMill 47 = .ok (.iload_n 2, 1) := dq_28 (by decide +kernel)
theorem dX8_isAtMill_48 : decode cX8_isAtMill 48 = .ok (.i2l, 1) := dq_133 (by decide +kernel)
theorem dX8_isAtMill_49 : decode cX8_isAtMill 49 = .ok (.lconst 0, 1) := dq_9 (by decide +kernel)
theorem dX8_isAtMill_50 : decode cX8_isAtMill 50 = .ok (.aload_n 0, 1) := dq_42 (by decide +kernel)
theorem dX8_isAtMill_51 : decode cX8_isAtMill 51 = .ok (.getfield 19, 3) := dq_180 (b1 := 0) (b2 := 19) (by decide +kernel) (by decide)
theorem dX8_isAtMill_54 : decode cX8_isAtMill 54 = .ok (.iconst 2, 1) := dq_5 (by decide +kernel)
theorem dX8_isAtMill_55 : decode cX8_isAtMill 55 = .ok (.iaload, 1) := dq_46 (by decide +kernel)
theorem dX8_isAtMill_56 : decode cX8_isAtMill 56 = .ok (.i2l, 1) := dq_133 (by decide +kernel)
theorem dX8_isAtMill_57 : decode cX8_isAtMill 57 = .ok (.invokestatic 57, 3) := dq_184 (b1 := 0) (b2 := 57) (by decide +kernel) (by decide)
theorem dX8_isAtMill_6 : decode cX8_isAtMill 6 = .ok (.iaload, 1) := dq_46 (by decide +kernel)
theorem dX8_isAtMill_60 : decode cX8_isAtMill 60 = .ok (.ireturn, 1) := dq_172 (by decide +kernel)
theorem dX8_isAtMill_7 : decode cX8_isAtMill 7 = .ok (.iconst 1, 1) := dq_4 (by decide +kernel)
theorem dX8_isAtMill_8 : decode cX8_isAtMill 8 = .ok (.if_icmp .ne 22, 3) := dq_160 (b1 := 0) (b2 := 22) (by decide +kernel) (by decide)
theorem dX8_isCell_0 : decode cX8_isCell 0 = .ok (.iload_n 1, 1) := dq_27 (by decide +kernel)
theorem dX8_isCell_1 : decode cX8_isCell 1 = .ok (.i2l, 1) := dq_133 (by decide +kernel)
theorem dX8_isCell_10 : decode cX8_isCell 10 = .ok (.isub, 1) := dq_100 (by decide +kernel)
theorem dX8_isCell_11 : decode cX8_isCell 11 = .ok (.i2l, 1) := dq_133 (by decide +kernel)
theorem dX8_isCell_12 : decode cX8_isCell 12 = .ok (.invokestatic 57, 3) := dq_184 (b1 := 0) (b2 := 57) (by decide +kernel) (by decide)
theorem dX8_isCell_15 : decode cX8_isCell 15 = .ok (.ireturn, 1) := dq_172 (by decide +kernel)
theorem dX8_isCell_2 : decode cX8_isCell 2 = .ok (.lconst 0, 1) := dq_9 (by decide +kernel)
theorem dX8_isCell_3 : decode cX8_isCell 3 = .ok (.aload_n 0, 1) := dq_42 (by decide +kernel)
theorem dX8_isCell_4 : decode cX8_isCell 4 = .ok (.getfield 19, 3) := dq_180 (b1 := 0) (b2 := 19) (by decide +kernel) (by decide)
theorem dX8_isCell_7 : decode cX8_isCell 7 = .ok (.iconst 0, 1) := dq_3 (by decide +kernel)
theorem dX8_isCell_8 : decode cX8_isCell 8 = .ok (.iaload, 1) := dq_46 (by decide +kernel)
theorem dX8_isCell_9 : decode cX8_isCell 9 = .ok (.iconst 1, 1) := dq_4 (by decide +kernel)
theorem dX8_isKind_0 : decode cX8_isKind 0 = .ok (.iload_n 1, 1) := dq_27 (by decide +kernel)
theorem dX8_isKind_1 : decode cX8_isKind 1 = .ok (.ifCond .eq 28, 3) := dq_153 (b1 := 0) (b2 := 28) (by decide +kernel) (by decide)
theorem dX8_isKind_10 : decode cX8_isKind 10 = .ok (.iconst 1, 1) := dq_4 (by decide +kernel)
theorem dX8_isKind_11 : decode cX8_isKind 11 = .ok (.if_icmp .ne 8, 3) := dq_160 (b1 := 0) (b2 := 8) (by decide +kernel) (by decide)
theorem dX8_isKind_14 : decode cX8_isKind 14 = .ok (.iload_n 0, 1) := dq_26 (by decide +kernel)
theorem dX8_isKind_15 : decode cX8_isKind 15 = .ok (.iconst 4, 1) := dq_7 (by decide +kernel)
theorem dX8_isKind_16 : decode cX8_isKind 16 = .ok (.if_icmp .lt 13, 3) := dq_161 (b1 := 0) (b2 := 13) (by decide +kernel) (by decide)
theorem dX8_isKind_19 : decode cX8_isKind 19 = .ok (.iload_n 1, 1) := dq_27 (by decide +kernel)
theorem dX8_isKind_20 : decode cX8_isKind 20 = .ok (.iconst 4, 1) := dq_7 (by decide +kernel)
theorem dX8_isKind_21 : decode cX8_isKind 21 = .ok (.if_icmp .ne 12, 3) := dq_160 (b1 := 0) (b2 := 12) (by decide +kernel) (by decide)
theorem dX8_isKind_24 : decode cX8_isKind 24 = .ok (.iload_n 0, 1) := dq_26 (by decide +kernel)
theorem dX8_isKind_25 : decode cX8_isKind 25 = .ok (.iconst 5, 1) := dq_8 (by decide +kernel)
theorem dX8_isKind_26 : decode cX8_isKind 26 = .ok (.if_icmp .ne 7, 3) := dq_160 (b1 := 0) (b2 := 7) (by decide +kernel) (by decide)
theorem dX8_isKind_29 : decode cX8_isKind 29 = .ok (.iconst 1, 1) := dq_4 (by decide +kernel)
theorem dX8_isKind_30 : decode cX8_isKind 30 = .ok (.goto 4, 3) := dq_167 (b1 := 0) (b2 := 4) (by decide +kernel) (by decide)
theorem dX8_isKind_33 : decode cX8_isKind 33 = .ok (.iconst 0, 1) := dq_3 (by decide +kernel)
theorem dX8_isKind_34 : decode cX8_isKind 34 = .ok (.ireturn, 1) := dq_172 (by decide +kernel)
theorem dX8_isKind_4 : decode cX8_isKind 4 = .ok (.iload_n 0, 1) := dq_26 (by decide +kernel)
theorem dX8_isKind_5 : decode cX8_isKind 5 = .ok (.iload_n 1, 1) := dq_27 (by decide +kernel)
theorem dX8_isKind_6 : decode cX8_isKind 6 = .ok (.if_icmp .eq 23, 3) := dq_159 (b1 := 0) (b2 := 23) (by decide +kernel) (by decide)
theorem dX8_isKind_9 : decode cX8_isKind 9 = .ok (.iload_n 1, 1) := dq_27 (by decide +kernel)
theorem dX8_isRow_0 : decode cX8_isRow 0 = .ok (.iload_n 0, 1) := dq_26 (by decide +kernel)
theorem dX8_isRow_1 : decode cX8_isRow 1 = .ok (.i2l, 1) := dq_133 (by decide +kernel)
theorem dX8_isRow_2 : decode cX8_isRow 2 = .ok (.lconst 0, 1) := dq_9 (by decide +kernel)
theorem dX8_isRow_3 : decode cX8_isRow 3 = .ok (.ldc2_w 55, 3) := dq_20 (b1 := 0) (b2 := 55) (by decide +kernel) (by decide)
theorem dX8_isRow_6 : decode cX8_isRow 6 = .ok (.invokestatic 57, 3) := dq_184 (b1 := 0) (b2 := 57) (by decide +kernel) (by decide)
theorem dX8_isRow_9 : decode cX8_isRow 9 = .ok (.ireturn, 1) := dq_172 (by decide +kernel)
theorem dX8_isSound_0 : decode cX8_isSound 0 = .ok (.iload_n 1, 1) := dq_27 (by decide +kernel)
theorem dX8_isSound_1 : decode cX8_isSound 1 = .ok (.i2l, 1) := dq_133 (by decide +kernel)
theorem dX8_isSound_10 : decode cX8_isSound 10 = .ok (.isub, 1) := dq_100 (by decide +kernel)
theorem dX8_isSound_11 : decode cX8_isSound 11 = .ok (.i2l, 1) := dq_133 (by decide +kernel)
theorem dX8_isSound_12 : decode cX8_isSound 12 = .ok (.invokestatic 57, 3) := dq_184 (b1 := 0) (b2 := 57) (by decide +kernel) (by decide)
theorem dX8_isSound_15 : decode cX8_isSound 15 = .ok (.ireturn, 1) := dq_172 (by decide +kernel)
theorem dX8_isSound_2 : decode cX8_isSound 2 = .ok (.lconst 0, 1) := dq_9 (by decide +kernel)
theorem dX8_isSound_3 : decode cX8_isSound 3 = .ok (.aload_n 0, 1) := dq_42 (by decide +kernel)
theorem dX8_isSound_4 : decode cX8_isSound 4 = .ok (.getfield 19, 3) := dq_180 (b1 := 0) (b2 := 19) (by decide +kernel) (by decide)
theorem dX8_isSound_7 : decode cX8_isSound 7 = .ok (.iconst 4, 1) := dq_7 (by decide +kernel)
theorem dX8_isSound_8 : decode cX8_isSound 8 = .ok (.iaload, 1) := dq_46 (by decide +kernel)
theorem dX8_isSound_9 : decode cX8_isSound 9 = .ok (.iconst 1, 1) := dq_4 (by decide +kernel)
theorem dX8_isWhat_0 : decode cX8_isWhat 0 = .ok (.iload_n 0, 1) := dq_26 (by decide +kernel)
theorem dX8_isWhat_1 : decode cX8_isWhat 1 = .ok (.i2l, 1) := dq_133 (by decide +kernel)
theorem dX8_isWhat_2 : decode cX8_isWhat 2 = .ok (.lconst 0, 1) := dq_9 (by decide +kernel)
theorem dX8_isWhat_3 : decode cX8_isWhat 3 = .ok (.lconst 1, 1) := dq_10 (by decide +kernel)
theorem dX8_isWhat_4 : decode cX8_isWhat 4 = .ok (.invokestatic 57, 3) := dq_184 (b1 := 0) (b2 := 57) (by decide +kernel) (by decide)
theorem dX8_isWhat_7 : decode cX8_isWhat 7 = .ok (.ireturn, 1) := dq_172 (by decide +kernel)
theorem dX8_kindBy_0 : decode cX8_kindBy 0 = .ok (.iload_n 0, 1) := dq_26 (by decide +kernel)
theorem dX8_kindBy_1 : decode cX8_kindBy 1 = .ok (.bipush 118, 2) := dq_16 (b1 := 118) (by decide +kernel) (by decide)
theorem dX8_kindBy_10 : decode cX8_kindBy 10 = .ok (.iload_n 0, 1) := dq_26 (by decide +kernel)
theorem dX8_kindBy_11 : decode cX8_kindBy 11 = .ok (.bipush 98, 2) := dq_16 (b1 := 98) (by decide +kernel) (by decide)
theorem dX8_kindBy_13 : decode cX8_kindBy 13 = .ok (.if_icmp .ne 7, 3) := dq_160 (b1 := 0) (b2 := 7) (by decide +kernel) (by decide)
theorem dX8_kindBy_16 : decode cX8_kindBy 16 = .ok (.iconst 2, 1) := dq_5 (by decide +kernel)
theorem dX8_kindBy_17 : decode cX8_kindBy 17 = .ok (.goto 34, 3) := dq_167 (b1 := 0) (b2 := 34) (by decide +kernel) (by decide)
theorem dX8_kindBy_20 : decode cX8_kindBy 20 = .ok (.iload_n 0, 1) := dq_26 (by decide +kernel)
theorem dX8_kindBy_21 : decode cX8_kindBy 21 = .ok (.bipush 104, 2) := dq_16 (b1 := 104) (by decide +kernel) (by decide)
theorem dX8_kindBy_23 : decode cX8_kindBy 23 = .ok (.if_icmp .ne 7, 3) := dq_160 (b1 := 0) (b2 := 7) (by decide +kernel) (by decide)
theorem dX8_kindBy_26 : decode cX8_kindBy 26 = .ok (.iconst 3, 1) := dq_6 (by decide +kernel)
theorem dX8_kindBy_27 : decode cX8_kindBy 27 = .ok (.goto 24, 3) := dq_167 (b1 := 0) (b2 := 24) (by decide +kernel) (by decide)
theorem dX8_kindBy_3 : decode cX8_kindBy 3 = .ok (.if_icmp .ne 7, 3) := dq_160 (b1 := 0) (b2 := 7) (by decide +kernel) (by decide)
theorem dX8_kindBy_30 : decode cX8_kindBy 30 = .ok (.iload_n 0, 1) := dq_26 (by decide +kernel)
theorem dX8_kindBy_31 : decode cX8_kindBy 31 = .ok (.bipush 100, 2) := dq_16 (b1 := 100) (by decide +kernel) (by decide)
theorem dX8_kindBy_33 : decode cX8_kindBy 33 = .ok (.if_icmp .ne 7, 3) := dq_160 (b1 := 0) (b2 := 7) (by decide +kernel) (by decide)
theorem dX8_kindBy_36 : decode cX8_kindBy 36 = .ok (.iconst 4, 1) := dq_7 (by decide +kernel)
theorem dX8_kindBy_37 : decode cX8_kindBy 37 = .ok (.goto 14, 3) := dq_167 (b1 := 0) (b2 := 14) (by decide +kernel) (by decide)
theorem dX8_kindBy_40 : decode cX8_kindBy 40 = .ok (.iload_n 0, 1) := dq_26 (by decide +kernel)
theorem dX8_kindBy_41 : decode cX8_kindBy 41 = .ok (.bipush 115, 2) := dq_16 (b1 := 115) (by decide +kernel) (by decide)
theorem dX8_kindBy_43 : decode cX8_kindBy 43 = .ok (.if_icmp .ne 7, 3) := dq_160 (b1 := 0) (b2 := 7) (by decide +kernel) (by decide)
theorem dX8_kindBy_46 : decode cX8_kindBy 46 = .ok (.iconst 5, 1) := dq_8 (by decide +kernel)
theorem dX8_kindBy_47 : decode cX8_kindBy 47 = .ok (.goto 4, 3) := dq_167 (b1 := 0) (b2 := 4) (by decide +kernel) (by decide)
theorem dX8_kindBy_50 : decode cX8_kindBy 50 = .ok (.iconst 0, 1) := dq_3 (by decide +kernel)
theorem dX8_kindBy_51 : decode cX8_kindBy 51 = .ok (.ireturn, 1) := dq_172 (by decide +kernel)
theorem dX8_kindBy_6 : decode cX8_kindBy 6 = .ok (.iconst 1, 1) := dq_4 (by decide +kernel)
theorem dX8_kindBy_7 : decode cX8_kindBy 7 = .ok (.goto 44, 3) := dq_167 (b1 := 0) (b2 := 44) (by decide +kernel) (by decide)
theorem dX8_letLoose_0 : decode cX8_letLoose 0 = .ok (.aload_n 0, 1) := dq_42 (by decide +kernel)
theorem dX8_letLoose_1 : decode cX8_letLoose 1 = .ok (.getfield 19, 3) := dq_180 (b1 := 0) (b2 := 19) (by decide +kernel) (by decide)
theorem dX8_letLoose_10 : decode cX8_letLoose 10 = .ok (.aload_n 0, 1) := dq_42 (by decide +kernel)
theorem dX8_letLoose_11 : decode cX8_letLoose 11 = .ok (.getfield 19, 3) := dq_180 (b1 := 0) (b2 := 19) (by decide +kernel) (by decide)
theorem dX8_letLoose_14 : decode cX8_letLoose 14 = .ok (.bipush 20, 2) := dq_16 (b1 := 20) (by decide +kernel) (by decide)
theorem dX8_letLoose_16 : decode cX8_letLoose 16 = .ok (.iload_n 1, 1) := dq_27 (by decide +kernel)
theorem dX8_letLoose_17 : decode cX8_letLoose 17 = .ok (.iadd, 1) := dq_96 (by decide +kernel)
theorem dX8_letLoose_18 : decode cX8_letLoose 18 = .ok (.iload_n 2, 1) := dq_28 (by decide +kernel)
theorem dX8_letLoose_19 : decode cX8_letLoose 19 = .ok (.iastore, 1) := dq_79 (by decide +kernel)
theorem dX8_letLoose_20 : decode cX8_letLoose 20 = .ok (.aload_n 0, 1) := dq_42 (by decide +kernel)
theorem dX8_letLoose_21 : decode cX8_letLoose 21 = .ok (.getfield 19, 3) := dq_180 (b1 := 0) (b2 := 19) (by decide +kernel) (by decide)
theorem dX8_letLoose_24 : decode cX8_letLoose 24 = .ok (.bipush 32, 2) := dq_16 (b1 := 32) (by decide +kernel) (by decide)
theorem dX8_letLoose_26 : decode cX8_letLoose 26 = .ok (.iload_n 1, 1) := dq_27 (by decide +kernel)
theorem dX8_letLoose_27 : decode cX8_letLoose 27 = .ok (.iadd, 1) := dq_96 (by decide +kernel)
theorem dX8_letLoose_28 : decode cX8_letLoose 28 = .ok (.iload_n 3, 1) := dq_29 (by decide +kernel)
theorem dX8_letLoose_29 : decode cX8_letLoose 29 = .ok (.iastore, 1) := dq_79 (by decide +kernel)
theorem dX8_letLoose_30 : decode cX8_letLoose 30 = .ok (.return_, 1) := dq_177 (by decide +kernel)
theorem dX8_letLoose_4 : decode cX8_letLoose 4 = .ok (.bipush 26, 2) := dq_16 (b1 := 26) (by decide +kernel) (by decide)
theorem dX8_letLoose_6 : decode cX8_letLoose 6 = .ok (.iload_n 1, 1) := dq_27 (by decide +kernel)
theorem dX8_letLoose_7 : decode cX8_letLoose 7 = .ok (.iadd, 1) := dq_96 (by decide +kernel)
theorem dX8_letLoose_8 : decode cX8_letLoose 8 = .ok (.iconst 0, 1) := dq_3 (by decide +kernel)
theorem dX8_letLoose_9 : decode cX8_letLoose 9 = .ok (.iastore, 1) := dq_79 (by decide +kernel)
theorem dX8_loudOf_0 : decode cX8_loudOf 0 = .ok (.iconst 0, 1) := dq_3 (by decide +kernel)
theorem dX8_loudOf_1 : decode cX8_loudOf 1 = .ok (.istore_n 2, 1) := dq_61 (by decide +kernel)
theorem dX8_loudOf_10 : decode cX8_loudOf 10 = .ok (.iaload, 1) := dq_46 (by decide +kernel)
theorem dX8_loudOf_11 : decode cX8_loudOf 11 = .ok (.if_icmp .ge 33, 3) := dq_162 (b1 := 0) (b2 := 33) (by decide +kernel) (by decide)
theorem dX8_loudOf_14 : decode cX8_loudOf 14 = .ok (.iload_n 2, 1) := dq_28 (by decide +kernel)
theorem dX8_loudOf_15 : decode cX8_loudOf 15 = .ok (.iload_n 1, 1) := dq_27 (by decide +kernel)
theorem dX8_loudOf_16 : decode cX8_loudOf 16 = .ok (.iload_n 3, 1) := dq_29 (by decide +kernel)
theorem dX8_loudOf_17 : decode cX8_loudOf 17 = .ok (.invokestatic 213, 3) := dq_184 (b1 := 0) (b2 := 213) (by decide +kernel) (by decide)
theorem dX8_loudOf_2 : decode cX8_loudOf 2 = .ok (.iconst 0, 1) := dq_3 (by decide +kernel)
theorem dX8_loudOf_20 : decode cX8_loudOf 20 = .ok (.ifCond .eq 15, 3) := dq_153 (b1 := 0) (b2 := 15) (by decide +kernel) (by decide)
theorem dX8_loudOf_23 : decode cX8_loudOf 23 = .ok (.aload_n 0, 1) := dq_42 (by decide +kernel)
theorem dX8_loudOf_24 : decode cX8_loudOf 24 = .ok (.getfield 19, 3) := dq_180 (b1 := 0) (b2 := 19) (by decide +kernel) (by decide)
theorem dX8_loudOf_27 : decode cX8_loudOf 27 = .ok (.bipush 32, 2) := dq_16 (b1 := 32) (by decide +kernel) (by decide)
theorem dX8_loudOf_29 : decode cX8_loudOf 29 = .ok (.iload_n 3, 1) := dq_29 (by decide +kernel)
theorem dX8_loudOf_3 : decode cX8_loudOf 3 = .ok (.istore_n 3, 1) := dq_62 (by decide +kernel)
theorem dX8_loudOf_30 : decode cX8_loudOf 30 = .ok (.iadd, 1) := dq_96 (by decide +kernel)
theorem dX8_loudOf_31 : decode cX8_loudOf 31 = .ok (.iaload, 1) := dq_46 (by decide +kernel)
theorem dX8_loudOf_32 : decode cX8_loudOf 32 = .ok (.goto 4, 3) := dq_167 (b1 := 0) (b2 := 4) (by decide +kernel) (by decide)
theorem dX8_loudOf_35 : decode cX8_loudOf 35 = .ok (.iconst 0, 1) := dq_3 (by decide +kernel)
theorem dX8_loudOf_36 : decode cX8_loudOf 36 = .ok (.iadd, 1) := dq_96 (by decide +kernel)
theorem dX8_loudOf_37 : decode cX8_loudOf 37 = .ok (.istore_n 2, 1) := dq_61 (by decide +kernel)
theorem dX8_loudOf_38 : decode cX8_loudOf 38 = .ok (.iinc 3 1, 3) := dq_132 (b1 := 3) (b2 := 1) (by decide +kernel) (by decide) (by decide)
theorem dX8_loudOf_4 : decode cX8_loudOf 4 = .ok (.iload_n 3, 1) := dq_29 (by decide +kernel)
theorem dX8_loudOf_41 : decode cX8_loudOf 41 = .ok (.goto (-37), 3) := dq_167 (b1 := 255) (b2 := 219) (by decide +kernel) (by decide)
theorem dX8_loudOf_44 : decode cX8_loudOf 44 = .ok (.iload_n 2, 1) := dq_28 (by decide +kernel)
theorem dX8_loudOf_45 : decode cX8_loudOf 45 = .ok (.ireturn, 1) := dq_172 (by decide +kernel)
theorem dX8_loudOf_5 : decode cX8_loudOf 5 = .ok (.aload_n 0, 1) := dq_42 (by decide +kernel)
theorem dX8_loudOf_6 : decode cX8_loudOf 6 = .ok (.getfield 19, 3) := dq_180 (b1 := 0) (b2 := 19) (by decide +kernel) (by decide)
theorem dX8_loudOf_9 : decode cX8_loudOf 9 = .ok (.iconst 4, 1) := dq_7 (by decide +kernel)
theorem dX8_oneHour_0 : decode cX8_oneHour 0 = .ok (.aload_n 0, 1) := dq_42 (by decide +kernel)
theorem dX8_oneHour_1 : decode cX8_oneHour 1 = .ok (.aload_n 0, 1) := dq_42 (by decide +kernel)
theorem dX8_oneHour_10 : decode cX8_oneHour 10 = .ok (.iconst 2, 1) := dq_5 (by decide +kernel)
theorem dX8_oneHour_101 : decode cX8_oneHour 101 = .ok (.bipush 7, 2) := dq_16 (b1 := 7) (by decide +kernel) (by decide)
theorem dX8_oneHour_103 : decode cX8_oneHour 103 = .ok (.aload_n 0, 1) := dq_42 (by decide +kernel)
theorem dX8_oneHour_104 : decode cX8_oneHour 104 = .ok (.getfield 19, 3) := dq_180 (b1 := 0) (b2 := 19) (by decide +kernel) (by decide)
theorem dX8_oneHour_107 : decode cX8_oneHour 107 = .ok (.bipush 7, 2) := dq_16 (b1 := 7) (by decide +kernel) (by decide)
theorem dX8_oneHour_109 : decode cX8_oneHour 109 = .ok (.iaload, 1) := dq_46 (by decide +kernel)
theorem dX8_oneHour_11 : decode cX8_oneHour 11 = .ok (.isub, 1) := dq_100 (by decide +kernel)
theorem dX8_oneHour_110 : decode cX8_oneHour 110 = .ok (.iload_n 2, 1) := dq_28 (by decide +kernel)
theorem dX8_oneHour_111 : decode cX8_oneHour 111 = .ok (.iadd, 1) := dq_96 (by decide +kernel)
theorem dX8_oneHour_112 : decode cX8_oneHour 112 = .ok (.sipush 999, 3) := dq_17 (b1 := 3) (b2 := 231) (by decide +kernel) (by decide)
theorem dX8_oneHour_115 : decode cX8_oneHour 115 = .ok (.if_icmp .le 9, 3) := dq_164 (b1 := 0) (b2 := 9) (by decide +kernel) (by decide)
theorem dX8_oneHour_118 : decode cX8_oneHour 118 = .ok (.sipush 999, 3) := dq_17 (b1 := 3) (b2 := 231) (by decide +kernel) (by decide)
theorem dX8_oneHour_12 : decode cX8_oneHour 12 = .ok (.istore_n 1, 1) := dq_60 (by decide +kernel)
theorem dX8_oneHour_121 : decode cX8_oneHour 121 = .ok (.goto 12, 3) := dq_167 (b1 := 0) (b2 := 12) (by decide +kernel) (by decide)
theorem dX8_oneHour_124 : decode cX8_oneHour 124 = .ok (.aload_n 0, 1) := dq_42 (by decide +kernel)
theorem dX8_oneHour_125 : decode cX8_oneHour 125 = .ok (.getfield 19, 3) := dq_180 (b1 := 0) (b2 := 19) (by decide +kernel) (by decide)
theorem dX8_oneHour_128 : decode cX8_oneHour 128 = .ok (.bipush 7, 2) := dq_16 (b1 := 7) (by decide +kernel) (by decide)
theorem dX8_oneHour_13 : decode cX8_oneHour 13 = .ok (.iconst 0, 1) := dq_3 (by decide +kernel)
theorem dX8_oneHour_130 : decode cX8_oneHour 130 = .ok (.iaload, 1) := dq_46 (by decide +kernel)
theorem dX8_oneHour_131 : decode cX8_oneHour 131 = .ok (.iload_n 2, 1) := dq_28 (by decide +kernel)
theorem dX8_oneHour_132 : decode cX8_oneHour 132 = .ok (.iadd, 1) := dq_96 (by decide +kernel)
theorem dX8_oneHour_133 : decode cX8_oneHour 133 = .ok (.iastore, 1) := dq_79 (by decide +kernel)
theorem dX8_oneHour_134 : decode cX8_oneHour 134 = .ok (.aload_n 0, 1) := dq_42 (by decide +kernel)
theorem dX8_oneHour_135 : decode cX8_oneHour 135 = .ok (.getfield 19, 3) := dq_180 (b1 := 0) (b2 := 19) (by decide +kernel) (by decide)
theorem dX8_oneHour_138 : decode cX8_oneHour 138 = .ok (.iconst 5, 1) := dq_8 (by decide +kernel)
theorem dX8_oneHour_139 : decode cX8_oneHour 139 = .ok (.dup2, 1) := dq_92 (by decide +kernel)
theorem dX8_oneHour_14 : decode cX8_oneHour 14 = .ok (.istore_n 2, 1) := dq_61 (by decide +kernel)
theorem dX8_oneHour_140 : decode cX8_oneHour 140 = .ok (.iaload, 1) := dq_46 (by decide +kernel)
theorem dX8_oneHour_141 : decode cX8_oneHour 141 = .ok (.iconst 1, 1) := dq_4 (by decide +kernel)
theorem dX8_oneHour_142 : decode cX8_oneHour 142 = .ok (.iadd, 1) := dq_96 (by decide +kernel)
theorem dX8_oneHour_143 : decode cX8_oneHour 143 = .ok (.iastore, 1) := dq_79 (by decide +kernel)
theorem dX8_oneHour_144 : decode cX8_oneHour 144 = .ok (.iload_n 2, 1) := dq_28 (by decide +kernel)
theorem dX8_oneHour_145 : decode cX8_oneHour 145 = .ok (.ireturn, 1) := dq_172 (by decide +kernel)
theorem dX8_oneHour_15 : decode cX8_oneHour 15 = .ok (.iconst 0, 1) := dq_3 (by decide +kernel)
theorem dX8_oneHour_16 : decode cX8_oneHour 16 = .ok (.istore_n 3, 1) := dq_62 (by decide +kernel)
theorem dX8_oneHour_17 : decode cX8_oneHour 17 = .ok (.iload_n 3, 1) := dq_29 (by decide +kernel)
theorem dX8_oneHour_18 : decode cX8_oneHour 18 = .ok (.aload_n 0, 1) := dq_42 (by decide +kernel)
theorem dX8_oneHour_19 : decode cX8_oneHour 19 = .ok (.getfield 19, 3) := dq_180 (b1 := 0) (b2 := 19) (by decide +kernel) (by decide)
theorem dX8_oneHour_2 : decode cX8_oneHour 2 = .ok (.getfield 19, 3) := dq_180 (b1 := 0) (b2 := 19) (by decide +kernel) (by decide)
theorem dX8_oneHour_22 : decode cX8_oneHour 22 = .ok (.iconst 4, 1) := dq_7 (by decide +kernel)
theorem dX8_oneHour_23 : decode cX8_oneHour 23 = .ok (.iaload, 1) := dq_46 (by decide +kernel)
theorem dX8_oneHour_24 : decode cX8_oneHour 24 = .ok (.if_icmp .ge 73, 3) := dq_162 (b1 := 0) (b2 := 73) (by decide +kernel) (by decide)
theorem dX8_oneHour_27 : decode cX8_oneHour 27 = .ok (.aload_n 0, 1) := dq_42 (by decide +kernel)
theorem dX8_oneHour_28 : decode cX8_oneHour 28 = .ok (.getfield 19, 3) := dq_180 (b1 := 0) (b2 := 19) (by decide +kernel) (by decide)
theorem dX8_oneHour_31 : decode cX8_oneHour 31 = .ok (.bipush 26, 2) := dq_16 (b1 := 26) (by decide +kernel) (by decide)
theorem dX8_oneHour_33 : decode cX8_oneHour 33 = .ok (.iload_n 3, 1) := dq_29 (by decide +kernel)
theorem dX8_oneHour_34 : decode cX8_oneHour 34 = .ok (.iadd, 1) := dq_96 (by decide +kernel)
theorem dX8_oneHour_35 : decode cX8_oneHour 35 = .ok (.iaload, 1) := dq_46 (by decide +kernel)
theorem dX8_oneHour_36 : decode cX8_oneHour 36 = .ok (.ifCond .ne 9, 3) := dq_154 (b1 := 0) (b2 := 9) (by decide +kernel) (by decide)
theorem dX8_oneHour_39 : decode cX8_oneHour 39 = .ok (.aload_n 0, 1) := dq_42 (by decide +kernel)
theorem dX8_oneHour_40 : decode cX8_oneHour 40 = .ok (.iload_n 3, 1) := dq_29 (by decide +kernel)
theorem dX8_oneHour_41 : decode cX8_oneHour 41 = .ok (.iload_n 1, 1) := dq_27 (by decide +kernel)
theorem dX8_oneHour_42 : decode cX8_oneHour 42 = .ok (.invokevirtual 154, 3) := dq_182 (b1 := 0) (b2 := 154) (by decide +kernel) (by decide)
theorem dX8_oneHour_45 : decode cX8_oneHour 45 = .ok (.aload_n 0, 1) := dq_42 (by decide +kernel)
theorem dX8_oneHour_46 : decode cX8_oneHour 46 = .ok (.getfield 19, 3) := dq_180 (b1 := 0) (b2 := 19) (by decide +kernel) (by decide)
theorem dX8_oneHour_49 : decode cX8_oneHour 49 = .ok (.bipush 26, 2) := dq_16 (b1 := 26) (by decide +kernel) (by decide)
theorem dX8_oneHour_5 : decode cX8_oneHour 5 = .ok (.iconst 5, 1) := dq_8 (by decide +kernel)
theorem dX8_oneHour_51 : decode cX8_oneHour 51 = .ok (.iload_n 3, 1) := dq_29 (by decide +kernel)
theorem dX8_oneHour_52 : decode cX8_oneHour 52 = .ok (.iadd, 1) := dq_96 (by decide +kernel)
theorem dX8_oneHour_53 : decode cX8_oneHour 53 = .ok (.iaload, 1) := dq_46 (by decide +kernel)
theorem dX8_oneHour_54 : decode cX8_oneHour 54 = .ok (.ifCond .ne 37, 3) := dq_154 (b1 := 0) (b2 := 37) (by decide +kernel) (by decide)
theorem dX8_oneHour_57 : decode cX8_oneHour 57 = .ok (.iload_n 1, 1) := dq_27 (by decide +kernel)
theorem dX8_oneHour_58 : decode cX8_oneHour 58 = .ok (.ifCond .eq 33, 3) := dq_153 (b1 := 0) (b2 := 33) (by decide +kernel) (by decide)
theorem dX8_oneHour_6 : decode cX8_oneHour 6 = .ok (.iaload, 1) := dq_46 (by decide +kernel)
theorem dX8_oneHour_61 : decode cX8_oneHour 61 = .ok (.aload_n 0, 1) := dq_42 (by decide +kernel)
theorem dX8_oneHour_62 : decode cX8_oneHour 62 = .ok (.iload_n 3, 1) := dq_29 (by decide +kernel)
theorem dX8_oneHour_63 : decode cX8_oneHour 63 = .ok (.invokevirtual 158, 3) := dq_182 (b1 := 0) (b2 := 158) (by decide +kernel) (by decide)
theorem dX8_oneHour_66 : decode cX8_oneHour 66 = .ok (.ifCond .eq 25, 3) := dq_153 (b1 := 0) (b2 := 25) (by decide +kernel) (by decide)
theorem dX8_oneHour_69 : decode cX8_oneHour 69 = .ok (.aload_n 0, 1) := dq_42 (by decide +kernel)
theorem dX8_oneHour_7 : decode cX8_oneHour 7 = .ok (.invokevirtual 151, 3) := dq_182 (b1 := 0) (b2 := 151) (by decide +kernel) (by decide)
theorem dX8_oneHour_70 : decode cX8_oneHour 70 = .ok (.getfield 19, 3) := dq_180 (b1 := 0) (b2 := 19) (by decide +kernel) (by decide)
theorem dX8_oneHour_73 : decode cX8_oneHour 73 = .ok (.bipush 26, 2) := dq_16 (b1 := 26) (by decide +kernel) (by decide)
theorem dX8_oneHour_75 : decode cX8_oneHour 75 = .ok (.iload_n 3, 1) := dq_29 (by decide +kernel)
theorem dX8_oneHour_76 : decode cX8_oneHour 76 = .ok (.iadd, 1) := dq_96 (by decide +kernel)
theorem dX8_oneHour_77 : decode cX8_oneHour 77 = .ok (.iconst 1, 1) := dq_4 (by decide +kernel)
theorem dX8_oneHour_78 : decode cX8_oneHour 78 = .ok (.iastore, 1) := dq_79 (by decide +kernel)
theorem dX8_oneHour_79 : decode cX8_oneHour 79 = .ok (.iload_n 2, 1) := dq_28 (by decide +kernel)
theorem dX8_oneHour_80 : decode cX8_oneHour 80 = .ok (.aload_n 0, 1) := dq_42 (by decide +kernel)
theorem dX8_oneHour_81 : decode cX8_oneHour 81 = .ok (.getfield 19, 3) := dq_180 (b1 := 0) (b2 := 19) (by decide +kernel) (by decide)
theorem dX8_oneHour_84 : decode cX8_oneHour 84 = .ok (.bipush 32, 2) := dq_16 (b1 := 32) (by decide +kernel) (by decide)
theorem dX8_oneHour_86 : decode cX8_oneHour 86 = .ok (.iload_n 3, 1) := dq_29 (by decide +kernel)
theorem dX8_oneHour_87 : decode cX8_oneHour 87 = .ok (.iadd, 1) := dq_96 (by decide +kernel)
theorem dX8_oneHour_88 : decode cX8_oneHour 88 = .ok (.iaload, 1) := dq_46 (by decide +kernel)
theorem dX8_oneHour_89 : decode cX8_oneHour 89 = .ok (.iadd, 1) := dq_96 (by decide +kernel)
theorem dX8_oneHour_90 : decode cX8_oneHour 90 = .ok (.istore_n 2, 1) := dq_61 (by decide +kernel)
theorem dX8_oneHour_91 : decode cX8_oneHour 91 = .ok (.iinc 3 1, 3) := dq_132 (b1 := 3) (b2 := 1) (by decide +kernel) (by decide) (by decide)
theorem dX8_oneHour_94 : decode cX8_oneHour 94 = .ok (.goto (-77), 3) := dq_167 (b1 := 255) (b2 := 179) (by decide +kernel) (by decide)
theorem dX8_oneHour_97 : decode cX8_oneHour 97 = .ok (.aload_n 0, 1) := dq_42 (by decide +kernel)
theorem dX8_oneHour_98 : decode cX8_oneHour 98 = .ok (.getfield 19, 3) := dq_180 (b1 := 0) (b2 := 19) (by decide +kernel) (by decide)
theorem dX8_those_0 : decode cX8_those 0 = .ok (.iconst 0, 1) := dq_3 (by decide +kernel)
theorem dX8_those_1 : decode cX8_those 1 = .ok (.istore_n 2, 1) := dq_61 (by decide +kernel)
theorem dX8_those_10 : decode cX8_those 10 = .ok (.iaload, 1) := dq_46 (by decide +kernel)
theorem dX8_those_11 : decode cX8_those 11 = .ok (.if_icmp .ge 32, 3) := dq_162 (b1 := 0) (b2 := 32) (by decide +kernel) (by decide)
theorem dX8_those_14 : decode cX8_those 14 = .ok (.iload_n 2, 1) := dq_28 (by decide +kernel)
theorem dX8_those_15 : decode cX8_those 15 = .ok (.aload_n 0, 1) := dq_42 (by decide +kernel)
theorem dX8_those_16 : decode cX8_those 16 = .ok (.getfield 19, 3) := dq_180 (b1 := 0) (b2 := 19) (by decide +kernel) (by decide)
theorem dX8_those_19 : decode cX8_those 19 = .ok (.bipush 26, 2) := dq_16 (b1 := 26) (by decide +kernel) (by decide)
theorem dX8_those_2 : decode cX8_those 2 = .ok (.iconst 0, 1) := dq_3 (by decide +kernel)
theorem dX8_those_21 : decode cX8_those 21 = .ok (.iload_n 3, 1) := dq_29 (by decide +kernel)
theorem dX8_those_22 : decode cX8_those 22 = .ok (.iadd, 1) := dq_96 (by decide +kernel)
theorem dX8_those_23 : decode cX8_those 23 = .ok (.iaload, 1) := dq_46 (by decide +kernel)
theorem dX8_those_24 : decode cX8_those 24 = .ok (.iload_n 1, 1) := dq_27 (by decide +kernel)
theorem dX8_those_25 : decode cX8_those 25 = .ok (.if_icmp .ne 9, 3) := dq_160 (b1 := 0) (b2 := 9) (by decide +kernel) (by decide)
theorem dX8_those_28 : decode cX8_those 28 = .ok (.iconst 1, 1) := dq_4 (by decide +kernel)
theorem dX8_those_29 : decode cX8_those 29 = .ok (.iload_n 3, 1) := dq_29 (by decide +kernel)
theorem dX8_those_3 : decode cX8_those 3 = .ok (.istore_n 3, 1) := dq_62 (by decide +kernel)
theorem dX8_those_30 : decode cX8_those 30 = .ok (.ishl, 1) := dq_120 (by decide +kernel)
theorem dX8_those_31 : decode cX8_those 31 = .ok (.goto 4, 3) := dq_167 (b1 := 0) (b2 := 4) (by decide +kernel) (by decide)
theorem dX8_those_34 : decode cX8_those 34 = .ok (.iconst 0, 1) := dq_3 (by decide +kernel)
theorem dX8_those_35 : decode cX8_those 35 = .ok (.ior, 1) := dq_128 (by decide +kernel)
theorem dX8_those_36 : decode cX8_those 36 = .ok (.istore_n 2, 1) := dq_61 (by decide +kernel)
theorem dX8_those_37 : decode cX8_those 37 = .ok (.iinc 3 1, 3) := dq_132 (b1 := 3) (b2 := 1) (by decide +kernel) (by decide) (by decide)
theorem dX8_those_4 : decode cX8_those 4 = .ok (.iload_n 3, 1) := dq_29 (by decide +kernel)
theorem dX8_those_40 : decode cX8_those 40 = .ok (.goto (-36), 3) := dq_167 (b1 := 255) (b2 := 220) (by decide +kernel) (by decide)
theorem dX8_those_43 : decode cX8_those 43 = .ok (.iload_n 2, 1) := dq_28 (by decide +kernel)
theorem dX8_those_44 : decode cX8_those 44 = .ok (.ireturn, 1) := dq_172 (by decide +kernel)
theorem dX8_those_5 : decode cX8_those 5 = .ok (.aload_n 0, 1) := dq_42 (by decide +kernel)
theorem dX8_those_6 : decode cX8_those 6 = .ok (.getfield 19, 3) := dq_180 (b1 := 0) (b2 := 19) (by decide +kernel) (by decide)
theorem dX8_those_9 : decode cX8_those 9 = .ok (.iconst 4, 1) := dq_7 (by decide +kernel)
theorem dX8_well_0 : decode cX8_well 0 = .ok (.aload_n 0, 1) := dq_42 (by decide +kernel)
theorem dX8_well_1 : decode cX8_well 1 = .ok (.iconst 0, 1) := dq_3 (by decide +kernel)
theorem dX8_well_2 : decode cX8_well 2 = .ok (.putfield 50, 3) := dq_181 (b1 := 0) (b2 := 50) (by decide +kernel) (by decide)
theorem dX8_well_5 : decode cX8_well 5 = .ok (.iload_n 1, 1) := dq_27 (by decide +kernel)
theorem dX8_well_6 : decode cX8_well 6 = .ok (.ireturn, 1) := dq_172 (by decide +kernel)
theorem mx_X8_drift_5 : Cond.code yX8_drifts cX8_drifts 2 (some .int) ∈ wsX8_drift := by unfold wsX8_drift; exact List.mem_cons_of_mem _ (List.mem_append_left _ (List.mem_of_getElem? (i := 4) rfl))
theorem ggX8_drift_X8_drifts : GoodIn wsX8_drift wsX8_drifts := goodIn_sub (by unfold wsX8_drifts; exact List.forall_mem_cons.mpr ⟨mx_X8_drift_5, fun _ h_ => absurd h_ List.not_mem_nil⟩) (by decide +kernel)
set_option maxRecDepth 20000 in
theorem gX8_drift_X8_drifts : GoodIn wsX8_drift (va_wsS RX8 145 yX8_drifts wsX8_drifts) := goodIn_app (goodIn_of _ (by decide +kernel)) ggX8_drift_X8_drifts
theorem mx_X8_drift_9 : Cond.code yX8_isCell cX8_isCell 2 (some .boolean) ∈ wsX8_drift := by unfold wsX8_drift; exact List.mem_cons_of_mem _ (List.mem_append_left _ (List.mem_of_getElem? (i := 8) rfl))
theorem mx_X8_drift_1 : Cond.fieldLink RX8 19 "MillTalkModel" "st" "[I" ∈ wsX8_drift := by unfold wsX8_drift; exact List.mem_cons_of_mem _ (List.mem_append_left _ (List.mem_of_getElem? (i := 0) rfl))
theorem mx_X8_drift_10 : Cond.methodLink RX8 57 yX8_in ∈ wsX8_drift := by unfold wsX8_drift; exact List.mem_cons_of_mem _ (List.mem_append_left _ (List.mem_of_getElem? (i := 9) rfl))
theorem mx_X8_drift_11 : Cond.static yX8_in ∈ wsX8_drift := by unfold wsX8_drift; exact List.mem_cons_of_mem _ (List.mem_append_left _ (List.mem_of_getElem? (i := 10) rfl))
theorem mx_X8_drift_4 : Cond.initialized RX8 ∈ wsX8_drift := by unfold wsX8_drift; exact List.mem_cons_of_mem _ (List.mem_append_left _ (List.mem_of_getElem? (i := 3) rfl))
theorem mx_X8_drift_12 : Cond.code yX8_in cX8_in 6 (some .boolean) ∈ wsX8_drift := by unfold wsX8_drift; exact List.mem_cons_of_mem _ (List.mem_append_left _ (List.mem_of_getElem? (i := 11) rfl))
theorem mb_X8_drift_wsX80 {w : Cond} (h : w ∈ wsX80) : w ∈ wsX8_drift := by unfold wsX8_drift; exact List.mem_cons_of_mem _ (List.mem_append_right _ (h))
theorem ggX8_drift_X8_isCell : GoodIn wsX8_drift wsX8_isCell := goodIn_sub (by unfold wsX8_isCell; exact List.forall_mem_cons.mpr ⟨mx_X8_drift_9, List.forall_mem_append.mpr ⟨List.forall_mem_cons.mpr ⟨mx_X8_drift_1, List.forall_mem_cons.mpr ⟨mx_X8_drift_10, List.forall_mem_cons.mpr ⟨mx_X8_drift_11, List.forall_mem_cons.mpr ⟨mx_X8_drift_4, List.forall_mem_cons.mpr ⟨mx_X8_drift_12, fun _ h_ => absurd h_ List.not_mem_nil⟩⟩⟩⟩⟩, (fun _ h_ => mb_X8_drift_wsX80 h_)⟩⟩) (by decide +kernel)
theorem mx_X8_drift_6 : Cond.methodLink RX8 148 yX8_isCell ∈ wsX8_drift := by unfold wsX8_drift; exact List.mem_cons_of_mem _ (List.mem_append_left _ (List.mem_of_getElem? (i := 5) rfl))
theorem mx_X8_drift_7 : Cond.instanceMethod yX8_isCell ∈ wsX8_drift := by unfold wsX8_drift; exact List.mem_cons_of_mem _ (List.mem_append_left _ (List.mem_of_getElem? (i := 6) rfl))
theorem mx_X8_drift_8 : Cond.selects RX8 yX8_isCell yX8_isCell ∈ wsX8_drift := by unfold wsX8_drift; exact List.mem_cons_of_mem _ (List.mem_append_left _ (List.mem_of_getElem? (i := 7) rfl))
theorem gX8_drift_X8_isCell : GoodIn wsX8_drift (wsV RX8 148 RX8 yX8_isCell wsX8_isCell) := goodIn_app (goodIn_sub (List.forall_mem_cons.mpr ⟨mx_X8_drift_6, List.forall_mem_cons.mpr ⟨mx_X8_drift_7, List.forall_mem_cons.mpr ⟨mx_X8_drift_8, List.forall_mem_cons.mpr ⟨mx_X8_drift_4, fun _ h_ => absurd h_ List.not_mem_nil⟩⟩⟩⟩) (by decide +kernel)) ggX8_drift_X8_isCell
theorem mx_X8_isAtMill_5 : Cond.code yX8_in cX8_in 6 (some .boolean) ∈ wsX8_isAtMill := by unfold wsX8_isAtMill; exact List.mem_cons_of_mem _ (List.mem_append_left _ (List.mem_of_getElem? (i := 4) rfl))
theorem ggX8_isAtMill_X8_in : GoodIn wsX8_isAtMill wsX8_in := goodIn_sub (by unfold wsX8_in; exact List.forall_mem_cons.mpr ⟨mx_X8_isAtMill_5, fun _ h_ => absurd h_ List.not_mem_nil⟩) (by decide +kernel)
set_option maxRecDepth 20000 in
theorem gX8_isAtMill_X8_in : GoodIn wsX8_isAtMill (va_wsS RX8 57 yX8_in wsX8_in) := goodIn_app (goodIn_of _ (by decide +kernel)) ggX8_isAtMill_X8_in
theorem mx_X8_isCell_5 : Cond.code yX8_in cX8_in 6 (some .boolean) ∈ wsX8_isCell := by unfold wsX8_isCell; exact List.mem_cons_of_mem _ (List.mem_append_left _ (List.mem_of_getElem? (i := 4) rfl))
theorem ggX8_isCell_X8_in : GoodIn wsX8_isCell wsX8_in := goodIn_sub (by unfold wsX8_in; exact List.forall_mem_cons.mpr ⟨mx_X8_isCell_5, fun _ h_ => absurd h_ List.not_mem_nil⟩) (by decide +kernel)
set_option maxRecDepth 20000 in
theorem gX8_isCell_X8_in : GoodIn wsX8_isCell (va_wsS RX8 57 yX8_in wsX8_in) := goodIn_app (goodIn_of _ (by decide +kernel)) ggX8_isCell_X8_in
theorem mx_X8_isRow_5 : Cond.code yX8_in cX8_in 6 (some .boolean) ∈ wsX8_isRow := by unfold wsX8_isRow; exact List.mem_cons_of_mem _ (List.mem_of_getElem? (i := 4) rfl)
theorem ggX8_isRow_X8_in : GoodIn wsX8_isRow wsX8_in := goodIn_sub (by unfold wsX8_in; exact List.forall_mem_cons.mpr ⟨mx_X8_isRow_5, fun _ h_ => absurd h_ List.not_mem_nil⟩) (by decide +kernel)
set_option maxRecDepth 20000 in
theorem gX8_isRow_X8_in : GoodIn wsX8_isRow (va_wsS RX8 57 yX8_in wsX8_in) := goodIn_app (goodIn_of _ (by decide +kernel)) ggX8_isRow_X8_in
theorem mx_X8_isSound_5 : Cond.code yX8_in cX8_in 6 (some .boolean) ∈ wsX8_isSound := by unfold wsX8_isSound; exact List.mem_cons_of_mem _ (List.mem_append_left _ (List.mem_of_getElem? (i := 4) rfl))
theorem ggX8_isSound_X8_in : GoodIn wsX8_isSound wsX8_in := goodIn_sub (by unfold wsX8_in; exact List.forall_mem_cons.mpr ⟨mx_X8_isSound_5, fun _ h_ => absurd h_ List.not_mem_nil⟩) (by decide +kernel)
set_option maxRecDepth 20000 in
theorem gX8_isSound_X8_in : GoodIn wsX8_isSound (va_wsS RX8 57 yX8_in wsX8_in) := goodIn_app (goodIn_of _ (by decide +kernel)) ggX8_isSound_X8_in
theorem mx_X8_isWhat_4 : Cond.code yX8_in cX8_in 6 (some .boolean) ∈ wsX8_isWhat := by unfold wsX8_isWhat; exact List.mem_cons_of_mem _ (List.mem_of_getElem? (i := 3) rfl)
theorem ggX8_isWhat_X8_in : GoodIn wsX8_isWhat wsX8_in := goodIn_sub (by unfold wsX8_in; exact List.forall_mem_cons.mpr ⟨mx_X8_isWhat_4, fun _ h_ => absurd h_ List.not_mem_nil⟩) (by decide +kernel)
set_option maxRecDepth 20000 in
theorem gX8_isWhat_X8_in : GoodIn wsX8_isWhat (va_wsS RX8 57 yX8_in wsX8_in) := goodIn_app (goodIn_of _ (by decide +kernel)) ggX8_isWhat_X8_in
theorem mx_X8_loudOf_5 : Cond.code yX8_has cX8_has 2 (some .boolean) ∈ wsX8_loudOf := by unfold wsX8_loudOf; exact List.mem_cons_of_mem _ (List.mem_append_left _ (List.mem_of_getElem? (i := 4) rfl))
theorem ggX8_loudOf_X8_has : GoodIn wsX8_loudOf wsX8_has := goodIn_sub (by unfold wsX8_has; exact List.forall_mem_cons.mpr ⟨mx_X8_loudOf_5, fun _ h_ => absurd h_ List.not_mem_nil⟩) (by decide +kernel)
set_option maxRecDepth 20000 in
theorem gX8_loudOf_X8_has : GoodIn wsX8_loudOf (va_wsS RX8 213 yX8_has wsX8_has) := goodIn_app (goodIn_of _ (by decide +kernel)) ggX8_loudOf_X8_has
theorem mx_X8_oneHour_10 : Cond.code yX8_drift cX8_drift 7 none ∈ wsX8_oneHour := by unfold wsX8_oneHour; exact List.mem_cons_of_mem _ (List.mem_append_left _ (List.mem_of_getElem? (i := 9) rfl))
theorem mx_X8_oneHour_1 : Cond.fieldLink RX8 19 "MillTalkModel" "st" "[I" ∈ wsX8_oneHour := by unfold wsX8_oneHour; exact List.mem_cons_of_mem _ (List.mem_append_left _ (List.mem_of_getElem? (i := 0) rfl))
theorem mx_X8_oneHour_11 : Cond.methodLink RX8 145 yX8_drifts ∈ wsX8_oneHour := by unfold wsX8_oneHour; exact List.mem_cons_of_mem _ (List.mem_append_left _ (List.mem_of_getElem? (i := 10) rfl))
theorem mx_X8_oneHour_12 : Cond.static yX8_drifts ∈ wsX8_oneHour := by unfold wsX8_oneHour; exact List.mem_cons_of_mem _ (List.mem_append_left _ (List.mem_of_getElem? (i := 11) rfl))
theorem mx_X8_oneHour_5 : Cond.initialized RX8 ∈ wsX8_oneHour := by unfold wsX8_oneHour; exact List.mem_cons_of_mem _ (List.mem_append_left _ (List.mem_of_getElem? (i := 4) rfl))
theorem mx_X8_oneHour_13 : Cond.code yX8_drifts cX8_drifts 2 (some .int) ∈ wsX8_oneHour := by unfold wsX8_oneHour; exact List.mem_cons_of_mem _ (List.mem_append_left _ (List.mem_of_getElem? (i := 12) rfl))
theorem mx_X8_oneHour_14 : Cond.methodLink RX8 148 yX8_isCell ∈ wsX8_oneHour := by unfold wsX8_oneHour; exact List.mem_cons_of_mem _ (List.mem_append_left _ (List.mem_of_getElem? (i := 13) rfl))
theorem mx_X8_oneHour_15 : Cond.instanceMethod yX8_isCell ∈ wsX8_oneHour := by unfold wsX8_oneHour; exact List.mem_cons_of_mem _ (List.mem_append_left _ (List.mem_of_getElem? (i := 14) rfl))
theorem mx_X8_oneHour_16 : Cond.selects RX8 yX8_isCell yX8_isCell ∈ wsX8_oneHour := by unfold wsX8_oneHour; exact List.mem_cons_of_mem _ (List.mem_append_left _ (List.mem_of_getElem? (i := 15) rfl))
theorem mx_X8_oneHour_17 : Cond.code yX8_isCell cX8_isCell 2 (some .boolean) ∈ wsX8_oneHour := by unfold wsX8_oneHour; exact List.mem_cons_of_mem _ (List.mem_append_left _ (List.mem_of_getElem? (i := 16) rfl))
theorem mx_X8_oneHour_18 : Cond.methodLink RX8 57 yX8_in ∈ wsX8_oneHour := by unfold wsX8_oneHour; exact List.mem_cons_of_mem _ (List.mem_append_left _ (List.mem_of_getElem? (i := 17) rfl))
theorem mx_X8_oneHour_19 : Cond.static yX8_in ∈ wsX8_oneHour := by unfold wsX8_oneHour; exact List.mem_cons_of_mem _ (List.mem_append_left _ (List.mem_of_getElem? (i := 18) rfl))
theorem mx_X8_oneHour_20 : Cond.code yX8_in cX8_in 6 (some .boolean) ∈ wsX8_oneHour := by unfold wsX8_oneHour; exact List.mem_cons_of_mem _ (List.mem_append_left _ (List.mem_of_getElem? (i := 19) rfl))
theorem mb_X8_oneHour_wsX80 {w : Cond} (h : w ∈ wsX80) : w ∈ wsX8_oneHour := by unfold wsX8_oneHour; exact List.mem_cons_of_mem _ (List.mem_append_right _ (h))
theorem ggX8_oneHour_X8_drift : GoodIn wsX8_oneHour wsX8_drift := goodIn_sub (by unfold wsX8_drift; exact List.forall_mem_cons.mpr ⟨mx_X8_oneHour_10, List.forall_mem_append.mpr ⟨List.forall_mem_cons.mpr ⟨mx_X8_oneHour_1, List.forall_mem_cons.mpr ⟨mx_X8_oneHour_11, List.forall_mem_cons.mpr ⟨mx_X8_oneHour_12, List.forall_mem_cons.mpr ⟨mx_X8_oneHour_5, List.forall_mem_cons.mpr ⟨mx_X8_oneHour_13, List.forall_mem_cons.mpr ⟨mx_X8_oneHour_14, List.forall_mem_cons.mpr ⟨mx_X8_oneHour_15, List.forall_mem_cons.mpr ⟨mx_X8_oneHour_16, List.forall_mem_cons.mpr ⟨mx_X8_oneHour_17, List.forall_mem_cons.mpr ⟨mx_X8_oneHour_18, List.forall_mem_cons.mpr ⟨mx_X8_oneHour_19, List.forall_mem_cons.mpr ⟨mx_X8_oneHour_20, fun _ h_ => absurd h_ List.not_mem_nil⟩⟩⟩⟩⟩⟩⟩⟩⟩⟩⟩⟩, (fun _ h_ => mb_X8_oneHour_wsX80 h_)⟩⟩) (by decide +kernel)
theorem mx_X8_oneHour_7 : Cond.methodLink RX8 154 yX8_drift ∈ wsX8_oneHour := by unfold wsX8_oneHour; exact List.mem_cons_of_mem _ (List.mem_append_left _ (List.mem_of_getElem? (i := 6) rfl))
theorem mx_X8_oneHour_8 : Cond.instanceMethod yX8_drift ∈ wsX8_oneHour := by unfold wsX8_oneHour; exact List.mem_cons_of_mem _ (List.mem_append_left _ (List.mem_of_getElem? (i := 7) rfl))
theorem mx_X8_oneHour_9 : Cond.selects RX8 yX8_drift yX8_drift ∈ wsX8_oneHour := by unfold wsX8_oneHour; exact List.mem_cons_of_mem _ (List.mem_append_left _ (List.mem_of_getElem? (i := 8) rfl))
theorem gX8_oneHour_X8_drift : GoodIn wsX8_oneHour (wsV RX8 154 RX8 yX8_drift wsX8_drift) := goodIn_app (goodIn_sub (List.forall_mem_cons.mpr ⟨mx_X8_oneHour_7, List.forall_mem_cons.mpr ⟨mx_X8_oneHour_8, List.forall_mem_cons.mpr ⟨mx_X8_oneHour_9, List.forall_mem_cons.mpr ⟨mx_X8_oneHour_5, fun _ h_ => absurd h_ List.not_mem_nil⟩⟩⟩⟩) (by decide +kernel)) ggX8_oneHour_X8_drift
theorem mx_X8_oneHour_6 : Cond.code yX8_gustOf cX8_gustOf 2 (some .int) ∈ wsX8_oneHour := by unfold wsX8_oneHour; exact List.mem_cons_of_mem _ (List.mem_append_left _ (List.mem_of_getElem? (i := 5) rfl))
theorem ggX8_oneHour_X8_gustOf : GoodIn wsX8_oneHour wsX8_gustOf := goodIn_sub (by unfold wsX8_gustOf; exact List.forall_mem_cons.mpr ⟨mx_X8_oneHour_6, List.forall_mem_append.mpr ⟨List.forall_mem_cons.mpr ⟨mx_X8_oneHour_1, fun _ h_ => absurd h_ List.not_mem_nil⟩, (fun _ h_ => mb_X8_oneHour_wsX80 h_)⟩⟩) (by decide +kernel)
theorem mx_X8_oneHour_2 : Cond.methodLink RX8 151 yX8_gustOf ∈ wsX8_oneHour := by unfold wsX8_oneHour; exact List.mem_cons_of_mem _ (List.mem_append_left _ (List.mem_of_getElem? (i := 1) rfl))
theorem mx_X8_oneHour_3 : Cond.instanceMethod yX8_gustOf ∈ wsX8_oneHour := by unfold wsX8_oneHour; exact List.mem_cons_of_mem _ (List.mem_append_left _ (List.mem_of_getElem? (i := 2) rfl))
theorem mx_X8_oneHour_4 : Cond.selects RX8 yX8_gustOf yX8_gustOf ∈ wsX8_oneHour := by unfold wsX8_oneHour; exact List.mem_cons_of_mem _ (List.mem_append_left _ (List.mem_of_getElem? (i := 3) rfl))
theorem gX8_oneHour_X8_gustOf : GoodIn wsX8_oneHour (wsV RX8 151 RX8 yX8_gustOf wsX8_gustOf) := goodIn_app (goodIn_sub (List.forall_mem_cons.mpr ⟨mx_X8_oneHour_2, List.forall_mem_cons.mpr ⟨mx_X8_oneHour_3, List.forall_mem_cons.mpr ⟨mx_X8_oneHour_4, List.forall_mem_cons.mpr ⟨mx_X8_oneHour_5, fun _ h_ => absurd h_ List.not_mem_nil⟩⟩⟩⟩) (by decide +kernel)) ggX8_oneHour_X8_gustOf
theorem mx_X8_oneHour_24 : Cond.code yX8_isAtMill cX8_isAtMill 3 (some .boolean) ∈ wsX8_oneHour := by unfold wsX8_oneHour; exact List.mem_cons_of_mem _ (List.mem_append_left _ (List.mem_of_getElem? (i := 23) rfl))
theorem ggX8_oneHour_X8_isAtMill : GoodIn wsX8_oneHour wsX8_isAtMill := goodIn_sub (by unfold wsX8_isAtMill; exact List.forall_mem_cons.mpr ⟨mx_X8_oneHour_24, List.forall_mem_append.mpr ⟨List.forall_mem_cons.mpr ⟨mx_X8_oneHour_1, List.forall_mem_cons.mpr ⟨mx_X8_oneHour_18, List.forall_mem_cons.mpr ⟨mx_X8_oneHour_19, List.forall_mem_cons.mpr ⟨mx_X8_oneHour_5, List.forall_mem_cons.mpr ⟨mx_X8_oneHour_20, fun _ h_ => absurd h_ List.not_mem_nil⟩⟩⟩⟩⟩, (fun _ h_ => mb_X8_oneHour_wsX80 h_)⟩⟩) (by decide +kernel)
theorem mx_X8_oneHour_21 : Cond.methodLink RX8 158 yX8_isAtMill ∈ wsX8_oneHour := by unfold wsX8_oneHour; exact List.mem_cons_of_mem _ (List.mem_append_left _ (List.mem_of_getElem? (i := 20) rfl))
theorem mx_X8_oneHour_22 : Cond.instanceMethod yX8_isAtMill ∈ wsX8_oneHour := by unfold wsX8_oneHour; exact List.mem_cons_of_mem _ (List.mem_append_left _ (List.mem_of_getElem? (i := 21) rfl))
theorem mx_X8_oneHour_23 : Cond.selects RX8 yX8_isAtMill yX8_isAtMill ∈ wsX8_oneHour := by unfold wsX8_oneHour; exact List.mem_cons_of_mem _ (List.mem_append_left _ (List.mem_of_getElem? (i := 22) rfl))
theorem gX8_oneHour_X8_isAtMill : GoodIn wsX8_oneHour (wsV RX8 158 RX8 yX8_isAtMill wsX8_isAtMill) := goodIn_app (goodIn_sub (List.forall_mem_cons.mpr ⟨mx_X8_oneHour_21, List.forall_mem_cons.mpr ⟨mx_X8_oneHour_22, List.forall_mem_cons.mpr ⟨mx_X8_oneHour_23, List.forall_mem_cons.mpr ⟨mx_X8_oneHour_5, fun _ h_ => absurd h_ List.not_mem_nil⟩⟩⟩⟩) (by decide +kernel)) ggX8_oneHour_X8_isAtMill
theorem i_X8_drift_X8 : ∀ w ∈ u_ws RX8 TX8 24, w ∈ wsX8_drift := fun _ h_ => mb_X8_drift_wsX80 h_
theorem mb_X8_find_wsX80 {w : Cond} (h : w ∈ wsX80) : w ∈ wsX8_find := by unfold wsX8_find; exact List.mem_cons_of_mem _ (List.mem_append_right _ (h))
theorem i_X8_find_X8 : ∀ w ∈ u_ws RX8 TX8 24, w ∈ wsX8_find := fun _ h_ => mb_X8_find_wsX80 h_
theorem mb_X8_gustOf_wsX80 {w : Cond} (h : w ∈ wsX80) : w ∈ wsX8_gustOf := by unfold wsX8_gustOf; exact List.mem_cons_of_mem _ (List.mem_append_right _ (h))
theorem i_X8_gustOf_X8 : ∀ w ∈ u_ws RX8 TX8 24, w ∈ wsX8_gustOf := fun _ h_ => mb_X8_gustOf_wsX80 h_
theorem mb_X8_isAtMill_wsX80 {w : Cond} (h : w ∈ wsX80) : w ∈ wsX8_isAtMill := by unfold wsX8_isAtMill; exact List.mem_cons_of_mem _ (List.mem_append_right _ (h))
theorem i_X8_isAtMill_X8 : ∀ w ∈ u_ws RX8 TX8 24, w ∈ wsX8_isAtMill := fun _ h_ => mb_X8_isAtMill_wsX80 h_
theorem mb_X8_isCell_wsX80 {w : Cond} (h : w ∈ wsX80) : w ∈ wsX8_isCell := by unfold wsX8_isCell; exact List.mem_cons_of_mem _ (List.mem_append_right _ (h))
theorem i_X8_isCell_X8 : ∀ w ∈ u_ws RX8 TX8 24, w ∈ wsX8_isCell := fun _ h_ => mb_X8_isCell_wsX80 h_
theorem mb_X8_isSound_wsX80 {w : Cond} (h : w ∈ wsX80) : w ∈ wsX8_isSound := by unfold wsX8_isSound; exact List.mem_cons_of_mem _ (List.mem_append_right _ (h))
theorem i_X8_isSound_X8 : ∀ w ∈ u_ws RX8 TX8 24, w ∈ wsX8_isSound := fun _ h_ => mb_X8_isSound_wsX80 h_
theorem mb_X8_letLoose_wsX80 {w : Cond} (h : w ∈ wsX80) : w ∈ wsX8_letLoose := by unfold wsX8_letLoose; exact List.mem_cons_of_mem _ (List.mem_append_right _ (h))
theorem i_X8_letLoose_X8 : ∀ w ∈ u_ws RX8 TX8 24, w ∈ wsX8_letLoose := fun _ h_ => mb_X8_letLoose_wsX80 h_
theorem mb_X8_loudOf_wsX80 {w : Cond} (h : w ∈ wsX80) : w ∈ wsX8_loudOf := by unfold wsX8_loudOf; exact List.mem_cons_of_mem _ (List.mem_append_right _ (h))
theorem i_X8_loudOf_X8 : ∀ w ∈ u_ws RX8 TX8 24, w ∈ wsX8_loudOf := fun _ h_ => mb_X8_loudOf_wsX80 h_
theorem i_X8_oneHour_X8 : ∀ w ∈ u_ws RX8 TX8 24, w ∈ wsX8_oneHour := fun _ h_ => mb_X8_oneHour_wsX80 h_
theorem mb_X8_those_wsX80 {w : Cond} (h : w ∈ wsX80) : w ∈ wsX8_those := by unfold wsX8_those; exact List.mem_cons_of_mem _ (List.mem_append_right _ (h))
theorem i_X8_those_X8 : ∀ w ∈ u_ws RX8 TX8 24, w ∈ wsX8_those := fun _ h_ => mb_X8_those_wsX80 h_
theorem mb_X8_well_wsX80 {w : Cond} (h : w ∈ wsX80) : w ∈ wsX8_well := by unfold wsX8_well; exact List.mem_cons_of_mem _ (List.mem_append_right _ (h))
theorem i_X8_well_X8 : ∀ w ∈ u_ws RX8 TX8 24, w ∈ wsX8_well := fun _ h_ => mb_X8_well_wsX80 h_
theorem mx_X8_isRow_1 : Cond.constantLong RX8 55 (7) ∈ wsX8_isRow := by unfold wsX8_isRow; exact List.mem_cons_of_mem _ (List.mem_of_getElem? (i := 0) rfl)
theorem mx_X8_find_1 : Cond.fieldLink RX8 50 "MillTalkModel" "status" "I" ∈ wsX8_find := by unfold wsX8_find; exact List.mem_cons_of_mem _ (List.mem_append_left _ (List.mem_of_getElem? (i := 0) rfl))
theorem mx_X8_find_2 : Cond.constant RX8 54 (-1000010) ∈ wsX8_find := by unfold wsX8_find; exact List.mem_cons_of_mem _ (List.mem_append_left _ (List.mem_of_getElem? (i := 1) rfl))
theorem mx_X8_well_1 : Cond.fieldLink RX8 50 "MillTalkModel" "status" "I" ∈ wsX8_well := by unfold wsX8_well; exact List.mem_cons_of_mem _ (List.mem_append_left _ (List.mem_of_getElem? (i := 0) rfl))
theorem mx_X8_isSound_1 : Cond.fieldLink RX8 19 "MillTalkModel" "st" "[I" ∈ wsX8_isSound := by unfold wsX8_isSound; exact List.mem_cons_of_mem _ (List.mem_append_left _ (List.mem_of_getElem? (i := 0) rfl))
theorem mx_X8_isCell_1 : Cond.fieldLink RX8 19 "MillTalkModel" "st" "[I" ∈ wsX8_isCell := by unfold wsX8_isCell; exact List.mem_cons_of_mem _ (List.mem_append_left _ (List.mem_of_getElem? (i := 0) rfl))
theorem mx_X8_gustOf_1 : Cond.fieldLink RX8 19 "MillTalkModel" "st" "[I" ∈ wsX8_gustOf := by unfold wsX8_gustOf; exact List.mem_cons_of_mem _ (List.mem_append_left _ (List.mem_of_getElem? (i := 0) rfl))
theorem mx_X8_isAtMill_1 : Cond.fieldLink RX8 19 "MillTalkModel" "st" "[I" ∈ wsX8_isAtMill := by unfold wsX8_isAtMill; exact List.mem_cons_of_mem _ (List.mem_append_left _ (List.mem_of_getElem? (i := 0) rfl))
theorem mx_X8_those_1 : Cond.fieldLink RX8 19 "MillTalkModel" "st" "[I" ∈ wsX8_those := by unfold wsX8_those; exact List.mem_cons_of_mem _ (List.mem_append_left _ (List.mem_of_getElem? (i := 0) rfl))
theorem mx_X8_loudOf_1 : Cond.fieldLink RX8 19 "MillTalkModel" "st" "[I" ∈ wsX8_loudOf := by unfold wsX8_loudOf; exact List.mem_cons_of_mem _ (List.mem_append_left _ (List.mem_of_getElem? (i := 0) rfl))
theorem mx_X8_letLoose_1 : Cond.fieldLink RX8 19 "MillTalkModel" "st" "[I" ∈ wsX8_letLoose := by unfold wsX8_letLoose; exact List.mem_cons_of_mem _ (List.mem_append_left _ (List.mem_of_getElem? (i := 0) rfl))
