theorem nI_inj {a b : Nat} (h : nI a = nI b) (ha : a < 2 ^ 31) (hb : b < 2 ^ 31) : a = b := (nI_eq ha hb).mp h
theorem shl1 : ∀ w : Nat, w ≤ 6 → ∃ sh : Nat, (1 : Int32) <<< (nI w &&& 31) = nI sh ∧ sh ≤ 64 := by
  intro w hw
  rcases (show w = 0 ∨ w = 1 ∨ w = 2 ∨ w = 3 ∨ w = 4 ∨ w = 5 ∨ w = 6 by omega) with rfl | rfl | rfl | rfl | rfl | rfl | rfl
  · exact ⟨1, by decide, by decide⟩
  · exact ⟨2, by decide, by decide⟩
  · exact ⟨4, by decide, by decide⟩
  · exact ⟨8, by decide, by decide⟩
  · exact ⟨16, by decide, by decide⟩
  · exact ⟨32, by decide, by decide⟩
  · exact ⟨64, by decide, by decide⟩
theorem in_61 {x : Int32} (h1 : ¬ x < 0) (h2 : ¬ 60 < x) : vp_in x 61 := by
  rw [vp_in_iff]
  rw [Int32.lt_iff_toInt_lt] at h1 h2
  have e1 : (0 : Int32).toInt = 0 := rfl
  have e2 : (60 : Int32).toInt = 60 := rfl
  rw [e1] at h1
  rw [e2] at h2
  constructor <;> omega
theorem in_13 {x : Int32} (h1 : ¬ x < 1) (h2 : ¬ 12 < x) : vp_in x 13 := by
  rw [vp_in_iff]
  rw [Int32.lt_iff_toInt_lt] at h1 h2
  have e1 : (1 : Int32).toInt = 1 := rfl
  have e2 : (12 : Int32).toInt = 12 := rfl
  rw [e1] at h1
  rw [e2] at h2
  constructor <;> omega
/-- a number by two tests: at least 0 or 1, at most n -/
theorem nat_le {x y : Int32} {n : Nat} (h1 : ¬ x < 0) (hy : y.toInt = n) (h2 : x ≤ y) (hn : n < 2 ^ 30) : ∃ j : Nat, j ≤ n ∧ x = nI j := by
  obtain ⟨j, hj, rfl⟩ := nI_of h1
  rw [Int32.le_iff_toInt_le, hy, nI_toInt hj] at h2
  exact ⟨j, by omega, rfl⟩
theorem nn_1 {x : Int32} (h : ¬ x < 1) : ¬ x < 0 := by
  rw [Int32.lt_iff_toInt_lt] at h ⊢
  have e1 : (1 : Int32).toInt = 1 := rfl
  have e2 : (0 : Int32).toInt = 0 := rfl
  rw [e1] at h
  rw [e2]
  omega
theorem le_nlt {x y : Int32} (h : ¬ y < x) : x ≤ y := i_nlt.mp h
theorem lt_le_ {x : Int32} (h : x < 2) : x ≤ 1 := by
  rw [Int32.lt_iff_toInt_lt] at h
  rw [Int32.le_iff_toInt_le]
  have e1 : (1 : Int32).toInt = 1 := rfl
  have e2 : (2 : Int32).toInt = 2 := rfl
  rw [e2] at h
  rw [e1]
  omega
/-! what is asked, what is done: on the row -/
noncomputable abbrev sB (k n : Int32) : Prop := ¬ n < 0 ∧ ¬ k ≤ n
noncomputable def okLv (r : RF) : Prop := r = zR ∨ okN 999 r
noncomputable def guS (r : RF) (j : Nat) : Int32 := r (8 + ((r 5).toNatClampNeg + j) % (r 3).toNatClampNeg)
noncomputable def a_kind (r : RF) (n : Int32) : Int32 := if sB (r 4) n then r (14 + n.toNatClampNeg) else -1000001
noncomputable def a_gust (r : RF) (n : Int32) : Int32 := if r 0 = 0 then -1000002 else if n < 0 ∨ 60 < n then -1000001 else guS r n.toNatClampNeg
noncomputable def a_sound (r : RF) (s w : Int32) : Int32 := if ¬ sB (r 4) s ∨ (w < 0 ∨ 3 < w) then -1000001 else if w = 3 then dfM (r (14 + s.toNatClampNeg)) (guS r 0 - 2) else if w = 0 then (if r (26 + s.toNatClampNeg) = 0 then r (20 + s.toNatClampNeg) else -1000000) else if w = 1 then r (26 + s.toNatClampNeg) else r (32 + s.toNatClampNeg)
noncomputable def a_stand (r : RF) (w : Int32) : Int32 := if r 0 = 0 then -1000002 else if w = 0 then r 0 else if w = 1 then r 1 else if w = 2 then r 2 else if w = 3 then r 6 else if w = 4 then thS r 0 else if w = 5 then thS r 1 else if w = 6 then thS r 2 else -1000001
/-- ones of a number below 64 -/
noncomputable def onN (n : Nat) : Nat := n % 2 + n / 2 % 2 + n / 4 % 2 + n / 8 % 2 + n / 16 % 2 + n / 32 % 2
noncomputable def a_count (Rl : RF) (r : RF) (An zt : Nat) (w : Int32) : Int32 := if w = 0 then prR Rl 8 else if w = 1 then r 4 else if w = 2 then r 3 else if w = 3 then r 5 else if w = 4 then r 7 else if w = 5 then nI (onN (thS r 0).toNatClampNeg) else if w = 6 then nI An else if w = 7 then nI zt else -1000001
/-- whether a kind is (also) another -/
noncomputable abbrev isK (of kind : Int32) : Prop := kind = 0 ∨ of = kind ∨ (kind = 1 ∧ of < 4) ∨ (kind = 4 ∧ of = 5)
noncomputable def a_as (r : RF) (s k : Int32) : Int32 := if ¬ sB (r 4) s ∨ (k < 0 ∨ 5 < k) then -1000001 else if isK (r (14 + s.toNatClampNeg)) k then s else -1000013
/-! acts: whether one is done, what it answers, the row behind it -/
noncomputable abbrev gd_cap (r : RF) : Prop := ¬ r 0 = 0
noncomputable def a_cap (r : RF) : Int32 := if gd_cap r then 1 - r 6 else -1000002
noncomputable def n_cap (r : RF) : RF := if gd_cap r then upd r 6 (1 - r 6) else r
noncomputable abbrev gd_wind (r : RF) (w v : Int32) : Prop := sB (r 3) w ∧ ¬ (v < 0 ∨ 4 < v)
noncomputable def a_wind (r : RF) (w v : Int32) : Int32 := if gd_wind r w v then r (8 + w.toNatClampNeg) else -1000001
noncomputable def n_wind (r : RF) (w v : Int32) : RF := if gd_wind r w v then upd r (8 + w.toNatClampNeg) v else r
noncomputable abbrev ok_loose (r : RF) (s c l : Int32) : Prop := sB (r 4) s ∧ sB (r 0) c ∧ ¬ (l < 1 ∨ 20 < l)
noncomputable abbrev gd_loose (r : RF) (s c l : Int32) : Prop := ok_loose r s c l ∧ ¬ r (26 + s.toNatClampNeg) = 0
noncomputable def n_loose (r : RF) (s c l : Int32) : RF := if gd_loose r s c l then upd (upd (upd r (26 + s.toNatClampNeg) 0) (20 + s.toNatClampNeg) c) (32 + s.toNatClampNeg) l else r
noncomputable def a_loose (r : RF) (s c l : Int32) : Int32 := if ¬ ok_loose r s c l then -1000001 else if r (26 + s.toNatClampNeg) = 0 then -1000002 else thS (n_loose r s c l) 0
noncomputable abbrev gd_sell (r : RF) (n : Int32) : Prop := ¬ r 0 = 0 ∧ ¬ (n < 1 ∨ 999 < n) ∧ ¬ r 7 < n
noncomputable def n_sell (r : RF) (n : Int32) : RF := if gd_sell r n then upd r 7 (r 7 - n) else r
noncomputable def a_sell (r : RF) (n : Int32) : Int32 := if r 0 = 0 then -1000002 else if n < 1 ∨ 999 < n then -1000001 else if r 7 < n then -1000002 else r 7 - n
/-- hours: the row, how many acts, the acts -/
noncomputable def hrI : Nat → RF → Nat → AC → RF × Nat × AC
  | 0, r, n, a => (r, n, a)
  | t + 1, r, n, a => (mH (hrI t r n a).1, ntN (hrI t r n a).2.1, ntA (hrI t r n a).1 (hrI t r n a).2.1 (hrI t r n a).2.2)
noncomputable abbrev gd_hrs (r : RF) (n : Int32) : Prop := ¬ r 0 = 0 ∧ ¬ (n < 1 ∨ 24 < n) ∧ ¬ 999 < r 5 + n
noncomputable def s_hrs (r : RF) (An : Nat) (Ac : AC) (n : Int32) : RF × Nat × AC := if gd_hrs r n then hrI n.toNatClampNeg r An Ac else (r, An, Ac)
noncomputable def a_hrs (r : RF) (n : Int32) : Int32 := if r 0 = 0 then -1000002 else if n < 1 ∨ 24 < n then -1000001 else if 999 < r 5 + n then -1000003 else mGo n.toNatClampNeg r 7
noncomputable def a_undo (An : Nat) : Int32 := if An = 0 then -1000002 else nI (An - 1)
noncomputable def n_undo (r : RF) (An : Nat) (Ac : AC) : RF := if An = 0 then r else Ac (An - 1)
/-- images -/
noncomputable abbrev bd2 (k : Int32) : Prop := k < 0 ∨ ¬ k < 2
noncomputable def a_image (r : RF) (k : Int32) : Int32 := if bd2 k then -1000001 else if r 0 = 0 then -1000002 else 1
noncomputable def n_image (r I : RF) (k j : Int32) : RF := if k = j ∧ ¬ r 0 = 0 then r else I
noncomputable def pkI (I0 I1 : RF) (k : Int32) : RF := if k = 0 then I0 else I1
noncomputable abbrev gd_rst (I0 I1 : RF) (k : Int32) : Prop := ¬ bd2 k ∧ ¬ pkI I0 I1 k 0 = 0
noncomputable def a_rst (I0 I1 : RF) (k : Int32) : Int32 := if bd2 k then -1000001 else if pkI I0 I1 k 0 = 0 then -1000002 else 1
/-- what is told -/
noncomputable def n_lev (g : Prop) [Decidable g] (row r : RF) : RF := if g then row else r
noncomputable def n_levN (g : Prop) [Decidable g] (n : Nat) : Nat := if g then 0 else n
noncomputable def n_levA (g : Prop) [Decidable g] (a : AC) : AC := if g then (fun _ => zR) else a
/-- findings -/
noncomputable def f_row (a b n sg : Int32) : Int32 := if (a < 0 ∨ 8 ≤ a) ∨ (b < 0 ∨ 2 < b) ∨ ¬ n ≤ 40 then sg else if 0 ≤ n then 0 else 4
theorem ldR_c {h g : RF} {m : Int32} : ∀ n : Nat, (∀ i : Nat, i < n → h i = g i) → ldR h m n = ldR g m n
  | 0, _ => rfl
  | n + 1, e => by
    show ldR h m n + (if m >>> (nI n &&& 31) &&& 1 = 1 then h n else 0) = ldR g m n + (if m >>> (nI n &&& 31) &&& 1 = 1 then g n else 0)
    rw [ldR_c n (fun i hi => e i (by omega)), e n (by omega)]
theorem sB_ok {j k : Nat} (hj : j < k) (hk : k < 2 ^ 31) : sB (nI k) (nI j) := ⟨nI_pos (by omega), nI_ge hj hk⟩
theorem n60 {j : Nat} (h : j < 61) : ¬ (60 : Int32) < nI j := nI_nlt (a := 60) (by omega) (by decide)
section SP
variable {v0 v1 v2 v3 v5 : Int32} {hh ww kk : Nat} {g1 g2 g3 g4 g5 : RF}
theorem gu_nrm {j : Nat} (hw : ww ≤ 6) (hw1 : 1 ≤ ww) (hH : hh < 2 ^ 31) : guS (nrm v0 v1 v2 v3 hh v5 ww kk g1 g2 g3 g4 g5) j = wdX g1 ww hh j := by
  unfold guS wdX
  rw [nr5, nr3, nI_clamp hH, nI_clamp (by omega), nrg1 (Nat.mod_lt _ (by omega)) hw, if_neg (by omega)]
/-- whether a level is told -/
theorem tX (h : okLv (nrm v0 v1 v2 v3 hh v5 ww kk g1 g2 g3 g4 g5)) (hw : ww ≤ 6) (hk : kk ≤ 6) (hH : hh < 2 ^ 31) : (¬ 0 < v0 → v0 = 0 ∧ kk = 0 ∧ ww = 0) ∧ (0 < v0 → ¬ v0 = 0 ∧ 1 ≤ ww ∧ 1 ≤ kk ∧ okRow 999 (nrm v0 v1 v2 v3 hh v5 ww kk g1 g2 g3 g4 g5)) := by
  rcases h with h | h
  · have e0 : v0 = 0 := congrFun h 0
    have e3 : nI ww = nI 0 := congrFun h 3
    have e4 : nI kk = nI 0 := congrFun h 4
    rw [nI_eq (by omega) (by decide)] at e3 e4
    exact ⟨fun _ => ⟨e0, e4, e3⟩, fun q => absurd q (by rw [e0]; decide)⟩
  · obtain ⟨_, _, _, _, _, _, _, _, _, _, _, _, _, -, -, -, -, h⟩ := h
    obtain ⟨c, m, re, ca, me, E, B, -, -⟩ := okRow_X h hw hk hH
    have p : 0 < v0 := by
      rw [E.1]
      exact nI_lt (a := 0) (by omega) (by omega)
    exact ⟨fun q => absurd p q, fun _ => ⟨by rw [E.1]; exact nI_ne0 (by omega) (by omega), B.2.2.2.2.1, B.2.2.2.2.2.1, h⟩⟩
theorem or63 {a b : Nat} (ha : a ≤ 63) (hb : b ≤ 63) : ∃ z : Nat, z ≤ 63 ∧ nI a ||| nI b = nI z := by
  have h1 : a ||| b < 2 ^ 6 := Nat.or_lt_two_pow (by omega) (by omega)
  refine ⟨a ||| b, by omega, ?_⟩
  apply Int32.toBitVec_inj.mp
  apply BitVec.eq_of_toNat_eq
  rw [Int32.toBitVec_or, BitVec.toNat_or, pk_tn (by omega), pk_tn (by omega), pk_tn (by omega)]
theorem shl8 : ∀ w : Nat, w ≤ 8 → ∃ sh : Nat, (1 : Int32) <<< (nI w &&& 31) = nI sh ∧ sh ≤ 256 ∧ (w ≤ 4 → sh ≤ 16) ∧ (w ≤ 5 → sh ≤ 32) ∧ (w ≤ 6 → sh ≤ 64) := by
  intro w hw
  rcases (show w = 0 ∨ w = 1 ∨ w = 2 ∨ w = 3 ∨ w = 4 ∨ w = 5 ∨ w = 6 ∨ w = 7 ∨ w = 8 by omega) with rfl | rfl | rfl | rfl | rfl | rfl | rfl | rfl | rfl
  · exact ⟨1, by decide, by omega⟩
  · exact ⟨2, by decide, by omega⟩
  · exact ⟨4, by decide, by omega⟩
  · exact ⟨8, by decide, by omega⟩
  · exact ⟨16, by decide, by omega⟩
  · exact ⟨32, by decide, by omega⟩
  · exact ⟨64, by decide, by omega⟩
  · exact ⟨128, by decide, by omega⟩
  · exact ⟨256, by decide, by omega⟩
theorem or_nat {a b n : Nat} (ha : a < 2 ^ n) (hb : b < 2 ^ n) (hn : n ≤ 30) : a ||| b < 2 ^ n ∧ nI a ||| nI b = nI (a ||| b) := by
  have h1 : a ||| b < 2 ^ n := Nat.or_lt_two_pow ha hb
  have h2 : 2 ^ n ≤ 2 ^ 30 := Nat.pow_le_pow_right (by decide) hn
  refine ⟨h1, ?_⟩
  apply Int32.toBitVec_inj.mp
  apply BitVec.eq_of_toNat_eq
  rw [Int32.toBitVec_or, BitVec.toNat_or, pk_tn (by omega), pk_tn (by omega), pk_tn (by omega)]
theorem shlN : ∀ w : Nat, w ≤ 15 → (1 : Int32) <<< (nI w &&& 31) = nI (2 ^ w) := by
  intro w hw
  rcases (show w = 0 ∨ w = 1 ∨ w = 2 ∨ w = 3 ∨ w = 4 ∨ w = 5 ∨ w = 6 ∨ w = 7 ∨ w = 8 ∨ w = 9 ∨ w = 10 ∨ w = 11 ∨ w = 12 ∨ w = 13 ∨ w = 14 ∨ w = 15 by omega) with rfl | rfl | rfl | rfl | rfl | rfl | rfl | rfl | rfl | rfl | rfl | rfl | rfl | rfl | rfl | rfl <;> decide
theorem thR_nat {h : RF} {m : Int32} : ∀ n : Nat, n ≤ 15 → ∃ z : Nat, z < 2 ^ n ∧ thR h m n = nI z
  | 0, _ => ⟨0, by decide, rfl⟩
  | n + 1, hn => by
    obtain ⟨z, hz, e⟩ := thR_nat (h := h) (m := m) n (by omega)
    have h2 : 2 ^ (n + 1) = 2 ^ n * 2 := Nat.pow_succ 2 n
    have h3 : 0 < 2 ^ n := Nat.two_pow_pos n
    show ∃ z : Nat, z < 2 ^ (n + 1) ∧ thR h m n ||| (if h n = m then (1 : Int32) <<< (nI n &&& 31) else 0) = nI z
    rw [e]
    by_cases q : h n = m
    · rw [if_pos q, shlN n (by omega)]
      obtain ⟨o1, o2⟩ := or_nat (a := z) (b := 2 ^ n) (n := n + 1) (by omega) (by omega) (by omega)
      exact ⟨_, o1, o2⟩
    · rw [if_neg q]
      obtain ⟨o1, o2⟩ := or_nat (a := z) (b := 0) (n := n + 1) (by omega) (by omega) (by omega)
      exact ⟨_, o1, o2⟩
theorem th_64 {h : RF} {m : Int32} {n : Nat} (hn : n ≤ 6) : ∃ z : Nat, z < 64 ∧ thR h m n = nI z := by
  obtain ⟨z, hz, e⟩ := thR_nat (h := h) (m := m) n (by omega)
  have h1 : 2 ^ n ≤ 2 ^ 6 := Nat.pow_le_pow_right (by decide) hn
  exact ⟨z, by omega, e⟩
theorem hrI_7 {t n : Nat} {r : RF} {a : AC} : (hrI t r n a).1 = mGo t r := by
  induction t with
  | zero => rfl
  | succ t ih =>
    show mH (hrI t r n a).1 = mH (mGo t r)
    rw [ih]
theorem tX_N (h : okLv (nrm v0 v1 v2 v3 hh v5 ww kk g1 g2 g3 g4 g5)) (hw : ww ≤ 6) (hk : kk ≤ 6) (hH : hh < 2 ^ 31) (h0 : 0 < v0) : okN 999 (nrm v0 v1 v2 v3 hh v5 ww kk g1 g2 g3 g4 g5) := by
  rcases h with h | h
  · have e0 : v0 = 0 := congrFun h 0
    rw [e0] at h0
    exact absurd h0 (by decide)
  · exact h
theorem kind_X {i : Nat} (h : okLv (nrm v0 v1 v2 v3 hh v5 ww kk g1 g2 g3 g4 g5)) (hw : ww ≤ 6) (hk : kk ≤ 6) (hH : hh < 2 ^ 31) (hi : i < kk) : ∃ a : Nat, 1 ≤ a ∧ a ≤ 5 ∧ g2 i = nI a := by
  obtain ⟨a, b⟩ := tX h hw hk hH
  have p : 0 < v0 := by
    refine Decidable.byContradiction (fun q => ?_)
    have := (a q).2.1
    omega
  obtain ⟨-, -, -, h2⟩ := b p
  obtain ⟨c, m, re, ca, me, -, -, -, S⟩ := okRow_X h2 hw hk hH
  obtain ⟨a, -, -, -, ⟨e, -⟩, h3, h4, -⟩ := S i hi
  exact ⟨a, h3, h4, e⟩
theorem ask_X {j ka : Nat} {x : Int32} {s : T16} (hk : kk ≤ 6) (hj : j < kk) (h1 : 1 ≤ ka) (h5 : ka ≤ 5) (e : g2 j = nI ka) (hx : x = 0 ∨ x = 1) : bgX (nI j) ka (g3 j) (g4 j) 16 (bfX ka x) s = akM (nrm v0 v1 v2 v3 hh v5 ww kk g1 g2 g3 g4 g5) j x s := by
  have h := ak_eq (f := nrm v0 v1 v2 v3 hh v5 ww kk g1 g2 g3 g4 g5) (w := j) (s := s) h1 h5 ((nrg2 hj hk).trans e) hx
  rw [nrg3 hj hk, nrg4 hj hk] at h
  exact h
/-! the bounds stay -/
theorem okN_up {H H2 : Nat} {r : RF} (h : okN H r) (h2 : H ≤ H2) : okN H2 r := by
  obtain ⟨v0, v1, v2, v3, hh, v5, ww, kk, g1, g2, g3, g4, g5, e, a, b, c, d⟩ := h
  exact ⟨v0, v1, v2, v3, hh, v5, ww, kk, g1, g2, g3, g4, g5, e, by omega, b, c, okRow_up d h2⟩
theorem mH_ok {H : Nat} {r : RF} (h : okN H r) (hH : H < 2 ^ 30) : okN (H + 1) (mH r) := by
  obtain ⟨v0, v1, v2, v3, hh, v5, ww, kk, g1, g2, g3, g4, g5, rfl, a, b, c, d⟩ := h
  obtain ⟨p1, p2⟩ := pass_row (v5n := (paX v0 v1 v2 v3 g2 (wdX g1 ww hh 0) kk (v5, g3, g4, g5)).1) (g3n := (paX v0 v1 v2 v3 g2 (wdX g1 ww hh 0) kk (v5, g3, g4, g5)).2.1) (g4n := (paX v0 v1 v2 v3 g2 (wdX g1 ww hh 0) kk (v5, g3, g4, g5)).2.2.1) (g5n := (paX v0 v1 v2 v3 g2 (wdX g1 ww hh 0) kk (v5, g3, g4, g5)).2.2.2) c b (by omega) d rfl
  refine ⟨_, _, _, _, _, _, _, _, _, _, _, _, _, p1.symm, by omega, b, c, ?_⟩
  rw [← p1]
  exact p2
theorem mGo_ok {H : Nat} {r : RF} (h : okN H r) : ∀ t : Nat, H + t < 2 ^ 30 → okN (H + t) (mGo t r)
  | 0, _ => h
  | t + 1, hH => mH_ok (H := H + t) (mGo_ok h t (by omega)) (by omega)
theorem r0_ok {H : Nat} {r : RF} (h : okN H r) : ¬ r 0 = 0 := by
  obtain ⟨v0, v1, v2, v3, hh, v5, ww, kk, g1, g2, g3, g4, g5, -, -, -, -, c, m, re, w, k, h_, ca, me, a, b, -, -⟩ := h
  rw [a.1]
  exact nI_ne0 (by omega) (by omega)
theorem okLv_N {r : RF} (h : okLv r) (h0 : ¬ r 0 = 0) : okN 999 r := by
  rcases h with h | h
  · exact absurd (by rw [h]; rfl) h0
  · exact h
/-- all that is kept -/
noncomputable def okS (Lv : RF) (An : Nat) (Ac : AC) (I0 I1 : RF) : Prop := okLv Lv ∧ An ≤ 24 ∧ (∀ k : Nat, k < An → okN 999 (Ac k)) ∧ okLv I0 ∧ okLv I1
noncomputable def kpN (g : Prop) [Decidable g] (n : Nat) : Nat := if g then ntN n else n
noncomputable def kpA (g : Prop) [Decidable g] (r : RF) (n : Nat) (a : AC) : AC := if g then ntA r n a else a
theorem ok_nt {H n : Nat} {r : RF} {a : AC} (hn : n ≤ 24) (h : ∀ k : Nat, k < n → okN H (a k)) (hr : okN H r) : ntN n ≤ 24 ∧ ∀ k : Nat, k < ntN n → okN H (ntA r n a k) := by
  unfold ntN ntA
  by_cases q : n < 24
  · rw [if_pos q, if_pos q]
    refine ⟨by omega, fun k hk => ?_⟩
    by_cases e : k = n
    · rw [if_pos e]
      exact hr
    · rw [if_neg e]
      exact h k (by omega)
  · rw [if_neg q, if_neg q]
    refine ⟨by omega, fun k hk => ?_⟩
    by_cases e : k < 23
    · rw [if_pos e]
      exact h (k + 1) (by omega)
    · rw [if_neg e, if_pos (by omega)]
      exact hr
theorem ok_kp {g : Prop} [Decidable g] {L2 Lv I0 I1 : RF} {An : Nat} {Ac : AC} (hs : okS Lv An Ac I0 I1) (hg : g → okN 999 Lv) (hL : okLv L2) : okS L2 (kpN g An) (kpA g Lv An Ac) I0 I1 := by
  obtain ⟨a, b, c, d, e⟩ := hs
  unfold kpN kpA
  by_cases q : g
  · rw [if_pos q, if_pos q]
    obtain ⟨f1, f2⟩ := ok_nt b c (hg q)
    exact ⟨hL, f1, f2, d, e⟩
  · rw [if_neg q, if_neg q]
    exact ⟨hL, b, c, d, e⟩
theorem sB_nat {k n : Int32} {c : Nat} (h : sB k n) (e : k = nI c) (hc : c < 2 ^ 31) : ∃ j : Nat, j < c ∧ n = nI j := by
  rw [e] at h
  obtain ⟨j, hj, rfl⟩ := vp_in_of (in_of h.1 h.2 hc) hc
  exact ⟨j, hj, rfl⟩
theorem okN_X {r : RF} (h : okN 999 r) : ∃ (v0 v1 v2 v3 : Int32) (hh : Nat) (v5 : Int32) (ww kk : Nat) (g1 g2 g3 g4 g5 : RF) (c m re ca me : Nat), r = nrm v0 v1 v2 v3 hh v5 ww kk g1 g2 g3 g4 g5 ∧ hh ≤ 999 ∧ ww ≤ 6 ∧ kk ≤ 6 ∧ (v0 = nI c ∧ v1 = nI m ∧ v2 = nI re ∧ v3 = nI ca ∧ v5 = nI me) ∧ (5 ≤ c ∧ c ≤ 15 ∧ m < c ∧ re ≤ 4 ∧ 1 ≤ ww ∧ 1 ≤ kk ∧ hh ≤ 999 ∧ ca ≤ 1 ∧ me ≤ 999) ∧ (∀ i : Nat, i < ww → ∃ x : Nat, x ≤ 4 ∧ g1 i = nI x) ∧ (∀ i : Nat, i < kk → ∃ a p q l : Nat, (g2 i = nI a ∧ g3 i = nI p ∧ g5 i = nI q ∧ g4 i = nI l) ∧ 1 ≤ a ∧ a ≤ 5 ∧ p < c ∧ q ≤ 2 ∧ 1 ≤ l ∧ l ≤ 20) := by
  obtain ⟨v0, v1, v2, v3, hh, v5, ww, kk, g1, g2, g3, g4, g5, rfl, a, b, c, d⟩ := h
  obtain ⟨c_, m, re, ca, me, E, B, W, S⟩ := okRow_X d b c (by omega)
  exact ⟨v0, v1, v2, v3, hh, v5, ww, kk, g1, g2, g3, g4, g5, c_, m, re, ca, me, rfl, a, b, c, E, B, W, S⟩
theorem cap_ok {r : RF} (h : okN 999 r) : okN 999 (upd r 6 (1 - r 6)) := by
  obtain ⟨v0, v1, v2, v3, hh, v5, ww, kk, g1, g2, g3, g4, g5, c, m, re, ca, me, rfl, a, b, k, ⟨E0, E1, E2, E3, E4⟩, ⟨B1, B2, B3, B4, B5, B6, B7, B8, B9⟩, W, S⟩ := okN_X h
  rw [nr6, nru6]
  refine ⟨_, _, _, _, _, _, _, _, _, _, _, _, _, rfl, a, b, k, okRow_of (ca := 1 - ca) ⟨E0, E1, E2, ?_, E4⟩ ⟨B1, B2, B3, B4, B5, B6, B7, by omega, B9⟩ b k W S⟩
  rw [E3]
  exact pk_sub (a := 1) B8
theorem wind_ok {r : RF} {w v : Int32} (h : okN 999 r) (g : gd_wind r w v) : okN 999 (upd r (8 + w.toNatClampNeg) v) := by
  obtain ⟨v0, v1, v2, v3, hh, v5, ww, kk, g1, g2, g3, g4, g5, c, m, re, ca, me, rfl, a, b, k, E, B, W, S⟩ := okN_X h
  obtain ⟨j, hj, rfl⟩ := sB_nat (c := ww) g.1 nr3 (by omega)
  obtain ⟨x, hx, rfl⟩ : ∃ x : Nat, x ≤ 4 ∧ v = nI x := by
    obtain ⟨x, hx, e⟩ := nI_of2 (x := v) (M := 4) (n := 4) rfl (fun q => g.2 (Or.inl q)) (i_nlt.mp (fun q => g.2 (Or.inr q)))
    exact ⟨x, hx, e⟩
  rw [nI_clamp (by omega), nrug1 hj b]
  refine ⟨_, _, _, _, _, _, _, _, _, _, _, _, _, rfl, a, b, k, okRow_of E B b k (fun i hi => ?_) S⟩
  by_cases e : i = j
  · rw [e, pk_us]
    exact ⟨x, hx, rfl⟩
  · rw [pk_un e]
    exact W i hi
theorem loose_ok {r : RF} {s c l : Int32} (h : okN 999 r) (g : ok_loose r s c l) : okN 999 (upd (upd (upd r (26 + s.toNatClampNeg) 0) (20 + s.toNatClampNeg) c) (32 + s.toNatClampNeg) l) := by
  obtain ⟨v0, v1, v2, v3, hh, v5, ww, kk, g1, g2, g3, g4, g5, c_, m, re, ca, me, rfl, a, b, k, E, B, W, S⟩ := okN_X h
  obtain ⟨g1_, g2_, g3_⟩ := g
  obtain ⟨j, hj, rfl⟩ := sB_nat (c := kk) g1_ nr4 (by omega)
  obtain ⟨p, hp, rfl⟩ := sB_nat (c := c_) g2_ (nr0.trans E.1) (by omega)
  obtain ⟨x, hx, rfl⟩ : ∃ x : Nat, x ≤ 20 ∧ l = nI x := by
    obtain ⟨x, hx, e⟩ := nI_of2 (x := l) (M := 20) (n := 20) rfl (fun q => g3_ (Or.inl (by
      rw [Int32.lt_iff_toInt_lt] at q ⊢
      have e1 : (0 : Int32).toInt = 0 := rfl
      have e2 : (1 : Int32).toInt = 1 := rfl
      omega))) (i_nlt.mp (fun q => g3_ (Or.inr q)))
    exact ⟨x, hx, e⟩
  have x1 : 1 ≤ x := by
    rcases Nat.eq_zero_or_pos x with e | e
    · exact absurd (Or.inl (by rw [e]; decide)) g3_
    · exact e
  rw [nI_clamp (by omega), nrug5 hj k, nrug3 hj k, nrug4 hj k]
  exact ⟨_, _, _, _, _, _, _, _, _, _, _, _, _, rfl, a, b, k, okRow_of E B b k W (snd_up S (fun z hz => ⟨pk_un hz, pk_un hz, pk_un hz⟩) ⟨p, 0, x, ⟨pk_us, pk_us, pk_us⟩, hp, by decide, x1, hx⟩)⟩
theorem sell_ok {r : RF} {n : Int32} (h : okN 999 r) (g : gd_sell r n) : okN 999 (upd r 7 (r 7 - n)) := by
  obtain ⟨v0, v1, v2, v3, hh, v5, ww, kk, g1, g2, g3, g4, g5, c, m, re, ca, me, rfl, a, b, k, ⟨E0, E1, E2, E3, E4⟩, ⟨B1, B2, B3, B4, B5, B6, B7, B8, B9⟩, W, S⟩ := okN_X h
  obtain ⟨-, g2_, g3_⟩ := g
  obtain ⟨x, hx, rfl⟩ : ∃ x : Nat, x ≤ 999 ∧ n = nI x := by
    obtain ⟨x, hx, e⟩ := nI_of2 (x := n) (M := 999) (n := 999) rfl (fun q => g2_ (Or.inl (by
      rw [Int32.lt_iff_toInt_lt] at q ⊢
      have e1 : (0 : Int32).toInt = 0 := rfl
      have e2 : (1 : Int32).toInt = 1 := rfl
      omega))) (i_nlt.mp (fun q => g2_ (Or.inr q)))
    exact ⟨x, hx, e⟩
  rw [nr7] at g3_ ⊢
  rw [E4, nI_ltI (by omega) (by omega)] at g3_
  rw [nru7]
  refine ⟨_, _, _, _, _, _, _, _, _, _, _, _, _, rfl, a, b, k, okRow_of (me := me - x) ⟨E0, E1, E2, E3, ?_⟩ ⟨B1, B2, B3, B4, B5, B6, B7, B8, by omega⟩ b k W S⟩
  rw [E4]
  exact pk_sub (by omega)
theorem undoX {q az qn zn : Nat} {V Vn : Nat → Nat → Int32} {G Gn : Nat → Nat → RF} {L r : RF} (hq : q < 24) (haz : az ≤ 24) (h0 : 0 < az) (e1 : qn = (q + 23) % 24 ∧ zn = az - 1 ∧ L = nrV (V qn) (G qn)) (e2 : ∀ i : Nat, i < 24 → nrV (Vn i) (Gn i) = nrV (V i) (G i)) : L = n_undo r az (acX q az V G) ∧ zn = az - 1 ∧ acX qn zn Vn Gn = dpA az (acX q az V G) ∧ nI zn = a_undo az := by
  obtain ⟨rfl, rfl, e⟩ := e1
  obtain ⟨a, b⟩ := acX_take hq haz h0 e2
  refine ⟨?_, rfl, a, ?_⟩
  · unfold n_undo
    rw [if_neg (by omega), e, b]
  · unfold a_undo
    rw [if_neg (by omega)]
theorem undo0 {q : Nat} {V : Nat → Nat → Int32} {G : Nat → Nat → RF} : dpA 0 (acX q 0 V G) = acX q 0 V G := by
  rw [acX_0]
  funext k
  unfold dpA
  exact if_neg (by omega)
theorem hr_stepX {t az q z : Nat} {V Vn : Nat → Nat → Int32} {G Gn : Nat → Nat → RF} {L : RF} {A : AC} {v0 v1 v2 v3 v5 v5n : Int32} {hh ww kk : Nat} {g1 g2 g3 g4 g5 g3n g4n g5n : RF} (hN : okN 999 L) (ht : t ≤ 1000) (hH : hh + t < 2 ^ 31) (hw : ww ≤ 6) (hk : kk ≤ 6) (hq : q < 24) (hz : z ≤ 24) (h : hrI t L az A = (nrm v0 v1 v2 v3 (hh + t) v5 ww kk g1 g2 g3 g4 g5, z, acX q z V G)) (e1 : nrV (Vn q) (Gn q) = nrm v0 v1 v2 v3 (hh + t) v5 ww kk g1 g2 g3 g4 g5) (e2 : ∀ i : Nat, i < 24 → i ≠ q → nrV (Vn i) (Gn i) = nrV (V i) (G i)) (e : paX v0 v1 v2 v3 g2 (wdX g1 ww (hh + t) 0) kk (v5, g3, g4, g5) = (v5n, g3n, g4n, g5n)) : hrI (t + 1) L az A = (nrm v0 v1 v2 v3 (hh + (t + 1)) v5n ww kk g1 g2 g3n g4n g5n, ntN z, acX ((q + 1) % 24) (ntN z) Vn Gn) := by
  have h1 := mGo_ok hN t (by omega)
  have h2 : (hrI t L az A).1 = mGo t L := hrI_7
  rw [← h2, h] at h1
  obtain ⟨_, _, _, _, _, _, _, _, _, _, _, _, _, -, -, -, -, h3⟩ := h1
  obtain ⟨p1, -⟩ := pass_row hk hw hH h3 e
  show (mH (hrI t L az A).1, ntN (hrI t L az A).2.1, ntA (hrI t L az A).1 (hrI t L az A).2.1 (hrI t L az A).2.2) = _
  rw [h]
  show (mH (nrm v0 v1 v2 v3 (hh + t) v5 ww kk g1 g2 g3 g4 g5), ntN z, ntA (nrm v0 v1 v2 v3 (hh + t) v5 ww kk g1 g2 g3 g4 g5) z (acX q z V G)) = _
  rw [← p1, ← acX_keep hq hz e1 e2]
  rfl
section OKS
variable {Lv I0 I1 : RF} {An : Nat} {Ac : AC}
theorem ok_cap (hs : okS Lv An Ac I0 I1) : okS (n_cap Lv) (kpN (gd_cap Lv) An) (kpA (gd_cap Lv) Lv An Ac) I0 I1 := by
  refine ok_kp hs (fun g => okLv_N hs.1 g) ?_
  unfold n_cap
  split
  · rename_i g
    exact Or.inr (cap_ok (okLv_N hs.1 g))
  · exact hs.1
theorem told_w {w v : Int32} (hs : okLv Lv) (g : gd_wind Lv w v) : okN 999 Lv := by
  rcases hs with h | h
  · rw [h] at g
    obtain ⟨j, hj, -⟩ := sB_nat (c := 0) g.1 rfl (by decide)
    omega
  · exact h
theorem told_s {s : Int32} (hs : okLv Lv) (g : sB (Lv 4) s) : okN 999 Lv := by
  rcases hs with h | h
  · rw [h] at g
    obtain ⟨j, hj, -⟩ := sB_nat (c := 0) g rfl (by decide)
    omega
  · exact h
theorem ok_wind {w v : Int32} (hs : okS Lv An Ac I0 I1) : okS (n_wind Lv w v) (kpN (gd_wind Lv w v) An) (kpA (gd_wind Lv w v) Lv An Ac) I0 I1 := by
  refine ok_kp hs (fun g => told_w hs.1 g) ?_
  unfold n_wind
  split
  · rename_i g
    exact Or.inr (wind_ok (told_w hs.1 g) g)
  · exact hs.1
theorem ok_loos {s c l : Int32} (hs : okS Lv An Ac I0 I1) : okS (n_loose Lv s c l) (kpN (gd_loose Lv s c l) An) (kpA (gd_loose Lv s c l) Lv An Ac) I0 I1 := by
  refine ok_kp hs (fun g => told_s hs.1 g.1.1) ?_
  unfold n_loose
  split
  · rename_i g
    exact Or.inr (loose_ok (told_s hs.1 g.1.1) g.1)
  · exact hs.1
theorem ok_sell {n : Int32} (hs : okS Lv An Ac I0 I1) : okS (n_sell Lv n) (kpN (gd_sell Lv n) An) (kpA (gd_sell Lv n) Lv An Ac) I0 I1 := by
  refine ok_kp hs (fun g => okLv_N hs.1 g.1) ?_
  unfold n_sell
  split
  · rename_i g
    exact Or.inr (sell_ok (okLv_N hs.1 g.1) g)
  · exact hs.1
theorem hrI_ok (hN : okN 999 Lv) {h0 : Nat} (e5 : Lv 5 = nI h0) (ha : An ≤ 24) (hA : ∀ k : Nat, k < An → okN 999 (Ac k)) : ∀ t : Nat, h0 + t ≤ 999 → (okN 999 (hrI t Lv An Ac).1 ∧ (hrI t Lv An Ac).1 5 = nI (h0 + t)) ∧ (hrI t Lv An Ac).2.1 ≤ 24 ∧ ∀ k : Nat, k < (hrI t Lv An Ac).2.1 → okN 999 ((hrI t Lv An Ac).2.2 k)
  | 0, _ => ⟨⟨hN, e5⟩, ha, hA⟩
  | t + 1, ht => by
    obtain ⟨⟨a, a5⟩, b, c⟩ := hrI_ok hN e5 ha hA t (by omega)
    have h1 := mH_ok a (by decide)
    have e6 : mH (hrI t Lv An Ac).1 5 = nI (h0 + (t + 1)) := by
      obtain ⟨v0, v1, v2, v3, hh, v5, ww, kk, g1, g2, g3, g4, g5, e, a1, a2, a3, a4⟩ := a
      have p := (pass_row (H := 999) a3 a2 (by omega) (e ▸ a4) (Eq.refl (paX v0 v1 v2 v3 g2 (wdX g1 ww hh 0) kk (v5, g3, g4, g5)))).1
      rw [e, ← p, nr5]
      rw [e, nr5, nI_eq (by omega) (by omega)] at a5
      rw [a5]
      rfl
    have h2 : okN 999 (mH (hrI t Lv An Ac).1) := by
      obtain ⟨v0, v1, v2, v3, hh, v5, ww, kk, g1, g2, g3, g4, g5, e, a1, a2, a3, a4⟩ := h1
      rw [e] at a4 e6
      rw [nr5, nI_eq (by omega) (by omega)] at e6
      obtain ⟨c_, m, re, ca, me, E, B, W, S⟩ := okRow_X a4 a2 a3 (by omega)
      obtain ⟨B1, B2, B3, B4, B5, B6, B7, B8, B9⟩ := B
      refine ⟨v0, v1, v2, v3, hh, v5, ww, kk, g1, g2, g3, g4, g5, e, by omega, a2, a3, ?_⟩
      rw [e]
      exact okRow_of E ⟨B1, B2, B3, B4, B5, B6, by omega, B8, B9⟩ a2 a3 W S
    obtain ⟨n1, n2⟩ := ok_nt b c a
    exact ⟨⟨h2, e6⟩, n1, n2⟩
theorem ok_hrs {n : Int32} (hs : okS Lv An Ac I0 I1) : okS (s_hrs Lv An Ac n).1 (s_hrs Lv An Ac n).2.1 (s_hrs Lv An Ac n).2.2 I0 I1 := by
  unfold s_hrs
  by_cases g : gd_hrs Lv n
  · rw [if_pos g]
    obtain ⟨a, b, c, d, e⟩ := hs
    have hN := okLv_N a g.1
    obtain ⟨v0, v1, v2, v3, hh, v5, ww, kk, g1, g2, g3, g4, g5, e_, a1, a2, a3, a4⟩ := id hN
    have e5 : Lv 5 = nI hh := by rw [e_]; rfl
    obtain ⟨x, hx, rfl⟩ : ∃ x : Nat, x ≤ 24 ∧ n = nI x := by
      obtain ⟨x, hx, e⟩ := nI_of2 (x := n) (M := 24) (n := 24) rfl (fun q => g.2.1 (Or.inl (by
        rw [Int32.lt_iff_toInt_lt] at q ⊢
        have e1 : (0 : Int32).toInt = 0 := rfl
        have e2 : (1 : Int32).toInt = 1 := rfl
        omega))) (i_nlt.mp (fun q => g.2.1 (Or.inr q)))
      exact ⟨x, hx, e⟩
    have g3_ := g.2.2
    rw [e5, nI_add, show (999 : Int32) = nI 999 from rfl, nI_ltI (by decide) (by omega)] at g3_
    rw [nI_clamp (by omega)]
    obtain ⟨⟨p1, -⟩, p2, p3⟩ := hrI_ok hN e5 b c x (by omega)
    exact ⟨Or.inr p1, p2, p3, d, e⟩
  · rw [if_neg g]
    exact hs
theorem ok_undo (hs : okS Lv An Ac I0 I1) : okS (n_undo Lv An Ac) (An - 1) (dpA An Ac) I0 I1 := by
  obtain ⟨a, b, c, d, e⟩ := hs
  refine ⟨?_, by omega, fun k hk => ?_, d, e⟩
  · unfold n_undo
    split
    · exact a
    · exact Or.inr (c _ (by omega))
  · unfold dpA
    rw [if_pos (by omega)]
    exact c k (by omega)
theorem ok_image {k : Int32} (hs : okS Lv An Ac I0 I1) : okS Lv An Ac (n_image Lv I0 k 0) (n_image Lv I1 k 1) := by
  obtain ⟨a, b, c, d, e⟩ := hs
  refine ⟨a, b, c, ?_, ?_⟩ <;> unfold n_image <;> split <;> assumption
noncomputable def n_rst (Lv I0 I1 : RF) (k : Int32) : RF := if gd_rst I0 I1 k then pkI I0 I1 k else Lv
noncomputable def m_rst (An : Nat) (I0 I1 : RF) (k : Int32) : Nat := if gd_rst I0 I1 k then 0 else An
noncomputable def c_rst (Ac : AC) (I0 I1 : RF) (k : Int32) : AC := if gd_rst I0 I1 k then (fun _ => zR) else Ac
theorem ok_rst {k : Int32} (hs : okS Lv An Ac I0 I1) : okS (n_rst Lv I0 I1 k) (m_rst An I0 I1 k) (c_rst Ac I0 I1 k) I0 I1 := by
  unfold n_rst m_rst c_rst
  by_cases g : gd_rst I0 I1 k
  · rw [if_pos g, if_pos g, if_pos g]
    obtain ⟨a, b, c, d, e⟩ := hs
    refine ⟨?_, by decide, fun k hk => absurd hk (Nat.not_lt_zero k), d, e⟩
    unfold pkI
    split <;> assumption
  · rw [if_neg g, if_neg g, if_neg g]
    exact hs
theorem okS_0 : okS zR 0 (fun _ => zR) zR zR := ⟨Or.inl rfl, by decide, fun k hk => absurd hk (Nat.not_lt_zero k), Or.inl rfl, Or.inl rfl⟩
theorem acX_rst {q az : Nat} {V : Nat → Nat → Int32} {G : Nat → Nat → RF} {k : Int32} : acX q (m_rst az I0 I1 k) V G = c_rst (acX q az V G) I0 I1 k := by
  unfold m_rst c_rst
  split
  · exact acX_0
  · rfl
theorem acX_lev {q az : Nat} {V : Nat → Nat → Int32} {G : Nat → Nat → RF} {g : Prop} [Decidable g] : acX q (n_levN g az) V G = n_levA g (acX q az V G) := by
  unfold n_levN n_levA
  split
  · exact acX_0
  · rfl
theorem m38_z : m38 (fun _ => 0) = zR := by
  funext j
  unfold m38 zR
  split <;> rfl
theorem imM_z {f : RF} {k : Nat} : imM (fun _ => 0) f k = zR := if_pos rfl
end OKS
end SP
theorem dJ6_bitCount_0f7a4_0 : decode cJ6_bitCount_0f7a4 0 = .ok (.iload_n 0, 1) := dq_26 (by decide +kernel)
theorem dJ6_bitCount_0f7a4_1 : decode cJ6_bitCount_0f7a4 1 = .ok (.iload_n 0, 1) := dq_26 (by decide +kernel)
theorem dJ6_bitCount_0f7a4_10 : decode cJ6_bitCount_0f7a4 10 = .ok (.iload_n 0, 1) := dq_26 (by decide +kernel)
theorem dJ6_bitCount_0f7a4_11 : decode cJ6_bitCount_0f7a4 11 = .ok (.ldc_w 266, 3) := dq_19 (b1 := 1) (b2 := 10) (by decide +kernel) (by decide)
theorem dJ6_bitCount_0f7a4_14 : decode cJ6_bitCount_0f7a4 14 = .ok (.iand, 1) := dq_126 (by decide +kernel)
theorem dJ6_bitCount_0f7a4_15 : decode cJ6_bitCount_0f7a4 15 = .ok (.iload_n 0, 1) := dq_26 (by decide +kernel)
theorem dJ6_bitCount_0f7a4_16 : decode cJ6_bitCount_0f7a4 16 = .ok (.iconst 2, 1) := dq_5 (by decide +kernel)
theorem dJ6_bitCount_0f7a4_17 : decode cJ6_bitCount_0f7a4 17 = .ok (.iushr, 1) := dq_124 (by decide +kernel)
theorem dJ6_bitCount_0f7a4_18 : decode cJ6_bitCount_0f7a4 18 = .ok (.ldc_w 266, 3) := dq_19 (b1 := 1) (b2 := 10) (by decide +kernel) (by decide)
theorem dJ6_bitCount_0f7a4_2 : decode cJ6_bitCount_0f7a4 2 = .ok (.iconst 1, 1) := dq_4 (by decide +kernel)
theorem dJ6_bitCount_0f7a4_21 : decode cJ6_bitCount_0f7a4 21 = .ok (.iand, 1) := dq_126 (by decide +kernel)
theorem dJ6_bitCount_0f7a4_22 : decode cJ6_bitCount_0f7a4 22 = .ok (.iadd, 1) := dq_96 (by decide +kernel)
theorem dJ6_bitCount_0f7a4_23 : decode cJ6_bitCount_0f7a4 23 = .ok (.istore_n 0, 1) := dq_59 (by decide +kernel)
theorem dJ6_bitCount_0f7a4_24 : decode cJ6_bitCount_0f7a4 24 = .ok (.iload_n 0, 1) := dq_26 (by decide +kernel)
theorem dJ6_bitCount_0f7a4_25 : decode cJ6_bitCount_0f7a4 25 = .ok (.iload_n 0, 1) := dq_26 (by decide +kernel)
theorem dJ6_bitCount_0f7a4_26 : decode cJ6_bitCount_0f7a4 26 = .ok (.iconst 4, 1) := dq_7 (by decide +kernel)
theorem dJ6_bitCount_0f7a4_27 : decode cJ6_bitCount_0f7a4 27 = .ok (.iushr, 1) := dq_124 (by decide +kernel)
theorem dJ6_bitCount_0f7a4_28 : decode cJ6_bitCount_0f7a4 28 = .ok (.iadd, 1) := dq_96 (by decide +kernel)
theorem dJ6_bitCount_0f7a4_29 : decode cJ6_bitCount_0f7a4 29 = .ok (.ldc_w 267, 3) := dq_19 (b1 := 1) (b2 := 11) (by decide +kernel) (by decide)
theorem dJ6_bitCount_0f7a4_3 : decode cJ6_bitCount_0f7a4 3 = .ok (.iushr, 1) := dq_124 (by decide +kernel)
theorem dJ6_bitCount_0f7a4_32 : decode cJ6_bitCount_0f7a4 32 = .ok (.iand, 1) := dq_126 (by decide +kernel)
theorem dJ6_bitCount_0f7a4_33 : decode cJ6_bitCount_0f7a4 33 = .ok (.istore_n 0, 1) := dq_59 (by decide +kernel)
theorem dJ6_bitCount_0f7a4_34 : decode cJ6_bitCount_0f7a4 34 = .ok (.iload_n 0, 1) := dq_26 (by decide +kernel)
theorem dJ6_bitCount_0f7a4_35 : decode cJ6_bitCount_0f7a4 35 = .ok (.iload_n 0, 1) := dq_26 (by decide +kernel)
theorem dJ6_bitCount_0f7a4_36 : decode cJ6_bitCount_0f7a4 36 = .ok (.bipush 8, 2) := dq_16 (b1 := 8) (by decide +kernel) (by decide)
theorem dJ6_bitCount_0f7a4_38 : decode cJ6_bitCount_0f7a4 38 = .ok (.iushr, 1) := dq_124 (by decide +kernel)
theorem dJ6_bitCount_0f7a4_39 : decode cJ6_bitCount_0f7a4 39 = .ok (.iadd, 1) := dq_96 (by decide +kernel)
theorem dJ6_bitCount_0f7a4_4 : decode cJ6_bitCount_0f7a4 4 = .ok (.ldc_w 265, 3) := dq_19 (b1 := 1) (b2 := 9) (by decide +kernel) (by decide)
theorem dJ6_bitCount_0f7a4_40 : decode cJ6_bitCount_0f7a4 40 = .ok (.istore_n 0, 1) := dq_59 (by decide +kernel)
theorem dJ6_bitCount_0f7a4_41 : decode cJ6_bitCount_0f7a4 41 = .ok (.iload_n 0, 1) := dq_26 (by decide +kernel)
theorem dJ6_bitCount_0f7a4_42 : decode cJ6_bitCount_0f7a4 42 = .ok (.iload_n 0, 1) := dq_26 (by decide +kernel)
theorem dJ6_bitCount_0f7a4_43 : decode cJ6_bitCount_0f7a4 43 = .ok (.bipush 16, 2) := dq_16 (b1 := 16) (by decide +kernel) (by decide)
theorem dJ6_bitCount_0f7a4_45 : decode cJ6_bitCount_0f7a4 45 = .ok (.iushr, 1) := dq_124 (by decide +kernel)
theorem dJ6_bitCount_0f7a4_46 : decode cJ6_bitCount_0f7a4 46 = .ok (.iadd, 1) := dq_96 (by decide +kernel)
theorem dJ6_bitCount_0f7a4_47 : decode cJ6_bitCount_0f7a4 47 = .ok (.istore_n 0, 1) := dq_59 (by decide +kernel)
theorem dJ6_bitCount_0f7a4_48 : decode cJ6_bitCount_0f7a4 48 = .ok (.iload_n 0, 1) := dq_26 (by decide +kernel)
theorem dJ6_bitCount_0f7a4_49 : decode cJ6_bitCount_0f7a4 49 = .ok (.bipush 63, 2) := dq_16 (b1 := 63) (by decide +kernel) (by decide)
theorem dJ6_bitCount_0f7a4_51 : decode cJ6_bitCount_0f7a4 51 = .ok (.iand, 1) := dq_126 (by decide +kernel)
theorem dJ6_bitCount_0f7a4_52 : decode cJ6_bitCount_0f7a4 52 = .ok (.ireturn, 1) := dq_172 (by decide +kernel)
theorem dJ6_bitCount_0f7a4_7 : decode cJ6_bitCount_0f7a4 7 = .ok (.iand, 1) := dq_126 (by decide +kernel)
theorem dJ6_bitCount_0f7a4_8 : decode cJ6_bitCount_0f7a4 8 = .ok (.isub, 1) := dq_100 (by decide +kernel)
theorem dJ6_bitCount_0f7a4_9 : decode cJ6_bitCount_0f7a4 9 = .ok (.istore_n 0, 1) := dq_59 (by decide +kernel)
theorem dX7_count_0 : decode cX7_count 0 = .ok (.iload_n 1, 1) := dq_27 (by decide +kernel)
theorem dX7_count_1 : decode cX7_count 1 = .ok (.tableswitch 115 0 7 #[47, 55, 63, 71, 79, 87, 99, 107], 47) := by decide +kernel
theorem dX7_count_100 : decode cX7_count 100 = .ok (.aload_n 0, 1) := dq_42 (by decide +kernel)
theorem dX7_count_101 : decode cX7_count 101 = .ok (.getfield 33, 3) := dq_180 (b1 := 0) (b2 := 33) (by decide +kernel) (by decide)
theorem dX7_count_104 : decode cX7_count 104 = .ok (.getfield 138, 3) := dq_180 (b1 := 0) (b2 := 138) (by decide +kernel) (by decide)
theorem dX7_count_107 : decode cX7_count 107 = .ok (.ireturn, 1) := dq_172 (by decide +kernel)
theorem dX7_count_108 : decode cX7_count 108 = .ok (.aload_n 0, 1) := dq_42 (by decide +kernel)
theorem dX7_count_109 : decode cX7_count 109 = .ok (.getfield 19, 3) := dq_180 (b1 := 0) (b2 := 19) (by decide +kernel) (by decide)
theorem dX7_count_112 : decode cX7_count 112 = .ok (.getfield 322, 3) := dq_180 (b1 := 1) (b2 := 66) (by decide +kernel) (by decide)
theorem dX7_count_115 : decode cX7_count 115 = .ok (.ireturn, 1) := dq_172 (by decide +kernel)
theorem dX7_count_116 : decode cX7_count 116 = .ok (.ldc 72, 2) := dq_18 (b1 := 72) (by decide +kernel) (by decide)
theorem dX7_count_118 : decode cX7_count 118 = .ok (.ireturn, 1) := dq_172 (by decide +kernel)
theorem dX7_count_48 : decode cX7_count 48 = .ok (.aload_n 0, 1) := dq_42 (by decide +kernel)
theorem dX7_count_49 : decode cX7_count 49 = .ok (.getfield 10, 3) := dq_180 (b1 := 0) (b2 := 10) (by decide +kernel) (by decide)
theorem dX7_count_52 : decode cX7_count 52 = .ok (.invokevirtual 319, 3) := dq_182 (b1 := 1) (b2 := 63) (by decide +kernel) (by decide)
theorem dX7_count_55 : decode cX7_count 55 = .ok (.ireturn, 1) := dq_172 (by decide +kernel)
theorem dX7_count_56 : decode cX7_count 56 = .ok (.aload_n 0, 1) := dq_42 (by decide +kernel)
theorem dX7_count_57 : decode cX7_count 57 = .ok (.getfield 26, 3) := dq_180 (b1 := 0) (b2 := 26) (by decide +kernel) (by decide)
theorem dX7_count_60 : decode cX7_count 60 = .ok (.getfield 135, 3) := dq_180 (b1 := 0) (b2 := 135) (by decide +kernel) (by decide)
theorem dX7_count_63 : decode cX7_count 63 = .ok (.ireturn, 1) := dq_172 (by decide +kernel)
theorem dX7_count_64 : decode cX7_count 64 = .ok (.aload_n 0, 1) := dq_42 (by decide +kernel)
theorem dX7_count_65 : decode cX7_count 65 = .ok (.getfield 26, 3) := dq_180 (b1 := 0) (b2 := 26) (by decide +kernel) (by decide)
theorem dX7_count_68 : decode cX7_count 68 = .ok (.getfield 269, 3) := dq_180 (b1 := 1) (b2 := 13) (by decide +kernel) (by decide)
theorem dX7_count_71 : decode cX7_count 71 = .ok (.ireturn, 1) := dq_172 (by decide +kernel)
theorem dX7_count_72 : decode cX7_count 72 = .ok (.aload_n 0, 1) := dq_42 (by decide +kernel)
theorem dX7_count_73 : decode cX7_count 73 = .ok (.getfield 26, 3) := dq_180 (b1 := 0) (b2 := 26) (by decide +kernel) (by decide)
theorem dX7_count_76 : decode cX7_count 76 = .ok (.getfield 148, 3) := dq_180 (b1 := 0) (b2 := 148) (by decide +kernel) (by decide)
theorem dX7_count_79 : decode cX7_count 79 = .ok (.ireturn, 1) := dq_172 (by decide +kernel)
theorem dX7_count_80 : decode cX7_count 80 = .ok (.aload_n 0, 1) := dq_42 (by decide +kernel)
theorem dX7_count_81 : decode cX7_count 81 = .ok (.getfield 26, 3) := dq_180 (b1 := 0) (b2 := 26) (by decide +kernel) (by decide)
theorem dX7_count_84 : decode cX7_count 84 = .ok (.getfield 157, 3) := dq_180 (b1 := 0) (b2 := 157) (by decide +kernel) (by decide)
theorem dX7_count_87 : decode cX7_count 87 = .ok (.ireturn, 1) := dq_172 (by decide +kernel)
theorem dX7_count_88 : decode cX7_count 88 = .ok (.aload_n 0, 1) := dq_42 (by decide +kernel)
theorem dX7_count_89 : decode cX7_count 89 = .ok (.getfield 26, 3) := dq_180 (b1 := 0) (b2 := 26) (by decide +kernel) (by decide)
theorem dX7_count_92 : decode cX7_count 92 = .ok (.iconst 0, 1) := dq_3 (by decide +kernel)
theorem dX7_count_93 : decode cX7_count 93 = .ok (.invokevirtual 185, 3) := dq_182 (b1 := 0) (b2 := 185) (by decide +kernel) (by decide)
theorem dX7_count_96 : decode cX7_count 96 = .ok (.invokestatic 296, 3) := dq_184 (b1 := 1) (b2 := 40) (by decide +kernel) (by decide)
theorem dX7_count_99 : decode cX7_count 99 = .ok (.ireturn, 1) := dq_172 (by decide +kernel)
theorem dX7_fault_0 : decode cX7_fault 0 = .ok (.aload_n 0, 1) := dq_42 (by decide +kernel)
theorem dX7_fault_1 : decode cX7_fault 1 = .ok (.getfield 117, 3) := dq_180 (b1 := 0) (b2 := 117) (by decide +kernel) (by decide)
theorem dX7_fault_4 : decode cX7_fault 4 = .ok (.ireturn, 1) := dq_172 (by decide +kernel)
theorem dX7_foundNothing_0 : decode cX7_foundNothing 0 = .ok (.aload_n 0, 1) := dq_42 (by decide +kernel)
theorem dX7_foundNothing_1 : decode cX7_foundNothing 1 = .ok (.iconst 0, 1) := dq_3 (by decide +kernel)
theorem dX7_foundNothing_2 : decode cX7_foundNothing 2 = .ok (.putfield 323, 3) := dq_181 (b1 := 1) (b2 := 67) (by decide +kernel) (by decide)
theorem dX7_foundNothing_5 : decode cX7_foundNothing 5 = .ok (.iload_n 1, 1) := dq_27 (by decide +kernel)
theorem dX7_foundNothing_6 : decode cX7_foundNothing 6 = .ok (.ireturn, 1) := dq_172 (by decide +kernel)
theorem dX7_found_0 : decode cX7_found 0 = .ok (.aload_n 0, 1) := dq_42 (by decide +kernel)
theorem dX7_found_1 : decode cX7_found 1 = .ok (.iload_n 1, 1) := dq_27 (by decide +kernel)
theorem dX7_found_10 : decode cX7_found 10 = .ok (.ireturn, 1) := dq_172 (by decide +kernel)
theorem dX7_found_2 : decode cX7_found 2 = .ok (.putfield 323, 3) := dq_181 (b1 := 1) (b2 := 67) (by decide +kernel) (by decide)
theorem dX7_found_5 : decode cX7_found 5 = .ok (.ldc_w 326, 3) := dq_19 (b1 := 1) (b2 := 70) (by decide +kernel) (by decide)
theorem dX7_found_8 : decode cX7_found 8 = .ok (.iload_n 1, 1) := dq_27 (by decide +kernel)
theorem dX7_found_9 : decode cX7_found 9 = .ok (.isub, 1) := dq_100 (by decide +kernel)
theorem dX7_gust_0 : decode cX7_gust 0 = .ok (.aload_n 0, 1) := dq_42 (by decide +kernel)
theorem dX7_gust_1 : decode cX7_gust 1 = .ok (.getfield 26, 3) := dq_180 (b1 := 0) (b2 := 26) (by decide +kernel) (by decide)
theorem dX7_gust_10 : decode cX7_gust 10 = .ok (.ldc 141, 2) := dq_18 (b1 := 141) (by decide +kernel) (by decide)
theorem dX7_gust_12 : decode cX7_gust 12 = .ok (.ireturn, 1) := dq_172 (by decide +kernel)
theorem dX7_gust_13 : decode cX7_gust 13 = .ok (.iload_n 1, 1) := dq_27 (by decide +kernel)
theorem dX7_gust_14 : decode cX7_gust 14 = .ok (.invokestatic 207, 3) := dq_184 (b1 := 0) (b2 := 207) (by decide +kernel) (by decide)
theorem dX7_gust_17 : decode cX7_gust 17 = .ok (.ifCond .eq 14, 3) := dq_153 (b1 := 0) (b2 := 14) (by decide +kernel) (by decide)
theorem dX7_gust_20 : decode cX7_gust 20 = .ok (.aload_n 0, 1) := dq_42 (by decide +kernel)
theorem dX7_gust_21 : decode cX7_gust 21 = .ok (.getfield 26, 3) := dq_180 (b1 := 0) (b2 := 26) (by decide +kernel) (by decide)
theorem dX7_gust_24 : decode cX7_gust 24 = .ok (.iload_n 1, 1) := dq_27 (by decide +kernel)
theorem dX7_gust_25 : decode cX7_gust 25 = .ok (.invokevirtual 188, 3) := dq_182 (b1 := 0) (b2 := 188) (by decide +kernel) (by decide)
theorem dX7_gust_28 : decode cX7_gust 28 = .ok (.goto 5, 3) := dq_167 (b1 := 0) (b2 := 5) (by decide +kernel) (by decide)
theorem dX7_gust_31 : decode cX7_gust 31 = .ok (.ldc 72, 2) := dq_18 (b1 := 72) (by decide +kernel) (by decide)
theorem dX7_gust_33 : decode cX7_gust 33 = .ok (.ireturn, 1) := dq_172 (by decide +kernel)
theorem dX7_gust_4 : decode cX7_gust 4 = .ok (.invokevirtual 145, 3) := dq_182 (b1 := 0) (b2 := 145) (by decide +kernel) (by decide)
theorem dX7_gust_7 : decode cX7_gust 7 = .ok (.ifCond .ne 6, 3) := dq_154 (b1 := 0) (b2 := 6) (by decide +kernel) (by decide)
theorem dX7_isForetold_0 : decode cX7_isForetold 0 = .ok (.iload_n 0, 1) := dq_26 (by decide +kernel)
theorem dX7_isForetold_1 : decode cX7_isForetold 1 = .ok (.ifCond .lt 13, 3) := dq_155 (b1 := 0) (b2 := 13) (by decide +kernel) (by decide)
theorem dX7_isForetold_10 : decode cX7_isForetold 10 = .ok (.iconst 1, 1) := dq_4 (by decide +kernel)
theorem dX7_isForetold_11 : decode cX7_isForetold 11 = .ok (.goto 4, 3) := dq_167 (b1 := 0) (b2 := 4) (by decide +kernel) (by decide)
theorem dX7_isForetold_14 : decode cX7_isForetold 14 = .ok (.iconst 0, 1) := dq_3 (by decide +kernel)
theorem dX7_isForetold_15 : decode cX7_isForetold 15 = .ok (.ireturn, 1) := dq_172 (by decide +kernel)
theorem dX7_isForetold_4 : decode cX7_isForetold 4 = .ok (.iload_n 0, 1) := dq_26 (by decide +kernel)
theorem dX7_isForetold_5 : decode cX7_isForetold 5 = .ok (.bipush 60, 2) := dq_16 (b1 := 60) (by decide +kernel) (by decide)
theorem dX7_isForetold_7 : decode cX7_isForetold 7 = .ok (.if_icmp .gt 7, 3) := dq_163 (b1 := 0) (b2 := 7) (by decide +kernel) (by decide)
theorem dX7_isHeard_0 : decode cX7_isHeard 0 = .ok (.iload_n 0, 1) := dq_26 (by decide +kernel)
theorem dX7_isHeard_1 : decode cX7_isHeard 1 = .ok (.invokestatic 65, 3) := dq_184 (b1 := 0) (b2 := 65) (by decide +kernel) (by decide)
theorem dX7_isHeard_12 : decode cX7_isHeard 12 = .ok (.iload_n 1, 1) := dq_27 (by decide +kernel)
theorem dX7_isHeard_13 : decode cX7_isHeard 13 = .ok (.bipush 12, 2) := dq_16 (b1 := 12) (by decide +kernel) (by decide)
theorem dX7_isHeard_15 : decode cX7_isHeard 15 = .ok (.if_icmp .gt 7, 3) := dq_163 (b1 := 0) (b2 := 7) (by decide +kernel) (by decide)
theorem dX7_isHeard_18 : decode cX7_isHeard 18 = .ok (.iconst 1, 1) := dq_4 (by decide +kernel)
theorem dX7_isHeard_19 : decode cX7_isHeard 19 = .ok (.goto 4, 3) := dq_167 (b1 := 0) (b2 := 4) (by decide +kernel) (by decide)
theorem dX7_isHeard_22 : decode cX7_isHeard 22 = .ok (.iconst 0, 1) := dq_3 (by decide +kernel)
theorem dX7_isHeard_23 : decode cX7_isHeard 23 = .ok (.ireturn, 1) := dq_172 (by decide +kernel)
theorem dX7_isHeard_4 : decode cX7_isHeard 4 = .ok (.ifCond .eq 18, 3) := dq_153 (b1 := 0) (b2 := 18) (by decide +kernel) (by decide)
theorem dX7_isHeard_7 : decode cX7_isHeard 7 = .ok (.iload_n 1, 1) := dq_27 (by decide +kernel)
theorem dX7_isHeard_8 : decode cX7_isHeard 8 = .ok (.iconst 1, 1) := dq_4 (by decide +kernel)
theorem dX7_isHeard_9 : decode cX7_isHeard 9 = .ok (.if_icmp .lt 13, 3) := dq_161 (b1 := 0) (b2 := 13) (by decide +kernel) (by decide)
theorem dX7_isOfKind_0 : decode cX7_isOfKind 0 = .ok (.iload_n 0, 1) := dq_26 (by decide +kernel)
theorem dX7_isOfKind_1 : decode cX7_isOfKind 1 = .ok (.istore_n 2, 1) := dq_61 (by decide +kernel)
theorem dX7_isOfKind_12 : decode cX7_isOfKind 12 = .ok (.iload_n 2, 1) := dq_28 (by decide +kernel)
theorem dX7_isOfKind_13 : decode cX7_isOfKind 13 = .ok (.ifCond .lt 30, 3) := dq_155 (b1 := 0) (b2 := 30) (by decide +kernel) (by decide)
theorem dX7_isOfKind_16 : decode cX7_isOfKind 16 = .ok (.iload_n 2, 1) := dq_28 (by decide +kernel)
theorem dX7_isOfKind_17 : decode cX7_isOfKind 17 = .ok (.getstatic 327, 3) := dq_178 (b1 := 1) (b2 := 71) (by decide +kernel) (by decide)
theorem dX7_isOfKind_2 : decode cX7_isOfKind 2 = .ok (.iconst 0, 1) := dq_3 (by decide +kernel)
theorem dX7_isOfKind_20 : decode cX7_isOfKind 20 = .ok (.arraylength, 1) := dq_190 (by decide +kernel)
theorem dX7_isOfKind_21 : decode cX7_isOfKind 21 = .ok (.if_icmp .ge 22, 3) := dq_162 (b1 := 0) (b2 := 22) (by decide +kernel) (by decide)
theorem dX7_isOfKind_24 : decode cX7_isOfKind 24 = .ok (.iload_n 2, 1) := dq_28 (by decide +kernel)
theorem dX7_isOfKind_25 : decode cX7_isOfKind 25 = .ok (.iload_n 1, 1) := dq_27 (by decide +kernel)
theorem dX7_isOfKind_26 : decode cX7_isOfKind 26 = .ok (.if_icmp .ne 5, 3) := dq_160 (b1 := 0) (b2 := 5) (by decide +kernel) (by decide)
theorem dX7_isOfKind_29 : decode cX7_isOfKind 29 = .ok (.iconst 1, 1) := dq_4 (by decide +kernel)
theorem dX7_isOfKind_3 : decode cX7_isOfKind 3 = .ok (.istore_n 3, 1) := dq_62 (by decide +kernel)
theorem dX7_isOfKind_30 : decode cX7_isOfKind 30 = .ok (.ireturn, 1) := dq_172 (by decide +kernel)
theorem dX7_isOfKind_31 : decode cX7_isOfKind 31 = .ok (.getstatic 327, 3) := dq_178 (b1 := 1) (b2 := 71) (by decide +kernel) (by decide)
theorem dX7_isOfKind_34 : decode cX7_isOfKind 34 = .ok (.iload_n 2, 1) := dq_28 (by decide +kernel)
theorem dX7_isOfKind_35 : decode cX7_isOfKind 35 = .ok (.iaload, 1) := dq_46 (by decide +kernel)
theorem dX7_isOfKind_36 : decode cX7_isOfKind 36 = .ok (.istore_n 2, 1) := dq_61 (by decide +kernel)
theorem dX7_isOfKind_37 : decode cX7_isOfKind 37 = .ok (.iinc 3 1, 3) := dq_132 (b1 := 3) (b2 := 1) (by decide +kernel) (by decide) (by decide)
theorem dX7_isOfKind_4 : decode cX7_isOfKind 4 = .ok (.iload_n 3, 1) := dq_29 (by decide +kernel)
theorem dX7_isOfKind_40 : decode cX7_isOfKind 40 = .ok (.goto (-36), 3) := dq_167 (b1 := 255) (b2 := 220) (by decide +kernel) (by decide)
theorem dX7_isOfKind_43 : decode cX7_isOfKind 43 = .ok (.iconst 0, 1) := dq_3 (by decide +kernel)
theorem dX7_isOfKind_44 : decode cX7_isOfKind 44 = .ok (.ireturn, 1) := dq_172 (by decide +kernel)
theorem dX7_isOfKind_5 : decode cX7_isOfKind 5 = .ok (.getstatic 327, 3) := dq_178 (b1 := 1) (b2 := 71) (by decide +kernel) (by decide)
theorem dX7_isOfKind_8 : decode cX7_isOfKind 8 = .ok (.arraylength, 1) := dq_190 (by decide +kernel)
theorem dX7_isOfKind_9 : decode cX7_isOfKind 9 = .ok (.if_icmp .ge 34, 3) := dq_162 (b1 := 0) (b2 := 34) (by decide +kernel) (by decide)
theorem dX7_kind_0 : decode cX7_kind 0 = .ok (.aload_n 0, 1) := dq_42 (by decide +kernel)
theorem dX7_kind_1 : decode cX7_kind 1 = .ok (.getfield 26, 3) := dq_180 (b1 := 0) (b2 := 26) (by decide +kernel) (by decide)
theorem dX7_kind_11 : decode cX7_kind 11 = .ok (.aload_n 0, 1) := dq_42 (by decide +kernel)
theorem dX7_kind_12 : decode cX7_kind 12 = .ok (.getfield 26, 3) := dq_180 (b1 := 0) (b2 := 26) (by decide +kernel) (by decide)
theorem dX7_kind_15 : decode cX7_kind 15 = .ok (.getfield 301, 3) := dq_180 (b1 := 1) (b2 := 45) (by decide +kernel) (by decide)
theorem dX7_kind_18 : decode cX7_kind 18 = .ok (.iload_n 1, 1) := dq_27 (by decide +kernel)
theorem dX7_kind_19 : decode cX7_kind 19 = .ok (.iaload, 1) := dq_46 (by decide +kernel)
theorem dX7_kind_20 : decode cX7_kind 20 = .ok (.goto 5, 3) := dq_167 (b1 := 0) (b2 := 5) (by decide +kernel) (by decide)
theorem dX7_kind_23 : decode cX7_kind 23 = .ok (.ldc 72, 2) := dq_18 (b1 := 72) (by decide +kernel) (by decide)
theorem dX7_kind_25 : decode cX7_kind 25 = .ok (.ireturn, 1) := dq_172 (by decide +kernel)
theorem dX7_kind_4 : decode cX7_kind 4 = .ok (.iload_n 1, 1) := dq_27 (by decide +kernel)
theorem dX7_kind_5 : decode cX7_kind 5 = .ok (.invokevirtual 173, 3) := dq_182 (b1 := 0) (b2 := 173) (by decide +kernel) (by decide)
theorem dX7_kind_8 : decode cX7_kind 8 = .ok (.ifCond .eq 15, 3) := dq_153 (b1 := 0) (b2 := 15) (by decide +kernel) (by decide)
theorem dX7_sack_0 : decode cX7_sack 0 = .ok (.aload_n 0, 1) := dq_42 (by decide +kernel)
theorem dX7_sack_1 : decode cX7_sack 1 = .ok (.getfield 26, 3) := dq_180 (b1 := 0) (b2 := 26) (by decide +kernel) (by decide)
theorem dX7_sack_10 : decode cX7_sack 10 = .ok (.ldc 141, 2) := dq_18 (b1 := 141) (by decide +kernel) (by decide)
theorem dX7_sack_100 : decode cX7_sack 100 = .ok (.istore 5, 2) := dq_54 (b1 := 5) (by decide +kernel) (by decide)
theorem dX7_sack_102 : decode cX7_sack 102 = .ok (.iload 6, 2) := dq_21 (b1 := 6) (by decide +kernel) (by decide)
theorem dX7_sack_104 : decode cX7_sack 104 = .ok (.iload 7, 2) := dq_21 (b1 := 7) (by decide +kernel) (by decide)
theorem dX7_sack_106 : decode cX7_sack 106 = .ok (.ior, 1) := dq_128 (by decide +kernel)
theorem dX7_sack_107 : decode cX7_sack 107 = .ok (.istore 6, 2) := dq_54 (b1 := 6) (by decide +kernel) (by decide)
theorem dX7_sack_109 : decode cX7_sack 109 = .ok (.iinc 7 1, 3) := dq_132 (b1 := 7) (b2 := 1) (by decide +kernel) (by decide) (by decide)
theorem dX7_sack_112 : decode cX7_sack 112 = .ok (.goto (-56), 3) := dq_167 (b1 := 255) (b2 := 200) (by decide +kernel) (by decide)
theorem dX7_sack_115 : decode cX7_sack 115 = .ok (.iload_n 2, 1) := dq_28 (by decide +kernel)
theorem dX7_sack_116 : decode cX7_sack 116 = .ok (.ifCond .ne 6, 3) := dq_154 (b1 := 0) (b2 := 6) (by decide +kernel) (by decide)
theorem dX7_sack_119 : decode cX7_sack 119 = .ok (.iload 4, 2) := dq_21 (b1 := 4) (by decide +kernel) (by decide)
theorem dX7_sack_12 : decode cX7_sack 12 = .ok (.ireturn, 1) := dq_172 (by decide +kernel)
theorem dX7_sack_121 : decode cX7_sack 121 = .ok (.ireturn, 1) := dq_172 (by decide +kernel)
theorem dX7_sack_122 : decode cX7_sack 122 = .ok (.iload_n 2, 1) := dq_28 (by decide +kernel)
theorem dX7_sack_123 : decode cX7_sack 123 = .ok (.iconst 2, 1) := dq_5 (by decide +kernel)
theorem dX7_sack_124 : decode cX7_sack 124 = .ok (.if_icmp .ne 8, 3) := dq_160 (b1 := 0) (b2 := 8) (by decide +kernel) (by decide)
theorem dX7_sack_127 : decode cX7_sack 127 = .ok (.iload 6, 2) := dq_21 (b1 := 6) (by decide +kernel) (by decide)
theorem dX7_sack_129 : decode cX7_sack 129 = .ok (.goto 14, 3) := dq_167 (b1 := 0) (b2 := 14) (by decide +kernel) (by decide)
theorem dX7_sack_13 : decode cX7_sack 13 = .ok (.iload_n 1, 1) := dq_27 (by decide +kernel)
theorem dX7_sack_132 : decode cX7_sack 132 = .ok (.iload 4, 2) := dq_21 (b1 := 4) (by decide +kernel) (by decide)
theorem dX7_sack_134 : decode cX7_sack 134 = .ok (.ifCond .ne 7, 3) := dq_154 (b1 := 0) (b2 := 7) (by decide +kernel) (by decide)
theorem dX7_sack_137 : decode cX7_sack 137 = .ok (.iconst 0, 1) := dq_3 (by decide +kernel)
theorem dX7_sack_138 : decode cX7_sack 138 = .ok (.goto 5, 3) := dq_167 (b1 := 0) (b2 := 5) (by decide +kernel) (by decide)
theorem dX7_sack_14 : decode cX7_sack 14 = .ok (.ifCond .lt 18, 3) := dq_155 (b1 := 0) (b2 := 18) (by decide +kernel) (by decide)
theorem dX7_sack_141 : decode cX7_sack 141 = .ok (.iload 5, 2) := dq_21 (b1 := 5) (by decide +kernel) (by decide)
theorem dX7_sack_143 : decode cX7_sack 143 = .ok (.ireturn, 1) := dq_172 (by decide +kernel)
theorem dX7_sack_17 : decode cX7_sack 17 = .ok (.iload_n 1, 1) := dq_27 (by decide +kernel)
theorem dX7_sack_18 : decode cX7_sack 18 = .ok (.bipush 120, 2) := dq_16 (b1 := 120) (by decide +kernel) (by decide)
theorem dX7_sack_20 : decode cX7_sack 20 = .ok (.if_icmp .gt 12, 3) := dq_163 (b1 := 0) (b2 := 12) (by decide +kernel) (by decide)
theorem dX7_sack_23 : decode cX7_sack 23 = .ok (.iload_n 2, 1) := dq_28 (by decide +kernel)
theorem dX7_sack_24 : decode cX7_sack 24 = .ok (.ifCond .lt 8, 3) := dq_155 (b1 := 0) (b2 := 8) (by decide +kernel) (by decide)
theorem dX7_sack_27 : decode cX7_sack 27 = .ok (.iload_n 2, 1) := dq_28 (by decide +kernel)
theorem dX7_sack_28 : decode cX7_sack 28 = .ok (.iconst 2, 1) := dq_5 (by decide +kernel)
theorem dX7_sack_29 : decode cX7_sack 29 = .ok (.if_icmp .le 6, 3) := dq_164 (b1 := 0) (b2 := 6) (by decide +kernel) (by decide)
theorem dX7_sack_32 : decode cX7_sack 32 = .ok (.ldc 72, 2) := dq_18 (b1 := 72) (by decide +kernel) (by decide)
theorem dX7_sack_34 : decode cX7_sack 34 = .ok (.ireturn, 1) := dq_172 (by decide +kernel)
theorem dX7_sack_35 : decode cX7_sack 35 = .ok (.aload_n 0, 1) := dq_42 (by decide +kernel)
theorem dX7_sack_36 : decode cX7_sack 36 = .ok (.getfield 26, 3) := dq_180 (b1 := 0) (b2 := 26) (by decide +kernel) (by decide)
theorem dX7_sack_39 : decode cX7_sack 39 = .ok (.iconst 0, 1) := dq_3 (by decide +kernel)
theorem dX7_sack_4 : decode cX7_sack 4 = .ok (.invokevirtual 145, 3) := dq_182 (b1 := 0) (b2 := 145) (by decide +kernel) (by decide)
theorem dX7_sack_40 : decode cX7_sack 40 = .ok (.invokevirtual 185, 3) := dq_182 (b1 := 0) (b2 := 185) (by decide +kernel) (by decide)
theorem dX7_sack_43 : decode cX7_sack 43 = .ok (.istore_n 3, 1) := dq_62 (by decide +kernel)
theorem dX7_sack_44 : decode cX7_sack 44 = .ok (.iconst 0, 1) := dq_3 (by decide +kernel)
theorem dX7_sack_45 : decode cX7_sack 45 = .ok (.istore 4, 2) := dq_54 (b1 := 4) (by decide +kernel) (by decide)
theorem dX7_sack_47 : decode cX7_sack 47 = .ok (.iload_n 3, 1) := dq_29 (by decide +kernel)
theorem dX7_sack_48 : decode cX7_sack 48 = .ok (.istore 5, 2) := dq_54 (b1 := 5) (by decide +kernel) (by decide)
theorem dX7_sack_50 : decode cX7_sack 50 = .ok (.iconst 0, 1) := dq_3 (by decide +kernel)
theorem dX7_sack_51 : decode cX7_sack 51 = .ok (.istore 6, 2) := dq_54 (b1 := 6) (by decide +kernel) (by decide)
theorem dX7_sack_53 : decode cX7_sack 53 = .ok (.iconst 0, 1) := dq_3 (by decide +kernel)
theorem dX7_sack_54 : decode cX7_sack 54 = .ok (.istore 7, 2) := dq_54 (b1 := 7) (by decide +kernel) (by decide)
theorem dX7_sack_56 : decode cX7_sack 56 = .ok (.iload 7, 2) := dq_21 (b1 := 7) (by decide +kernel) (by decide)
theorem dX7_sack_58 : decode cX7_sack 58 = .ok (.iconst 1, 1) := dq_4 (by decide +kernel)
theorem dX7_sack_59 : decode cX7_sack 59 = .ok (.aload_n 0, 1) := dq_42 (by decide +kernel)
theorem dX7_sack_60 : decode cX7_sack 60 = .ok (.getfield 26, 3) := dq_180 (b1 := 0) (b2 := 26) (by decide +kernel) (by decide)
theorem dX7_sack_63 : decode cX7_sack 63 = .ok (.getfield 135, 3) := dq_180 (b1 := 0) (b2 := 135) (by decide +kernel) (by decide)
theorem dX7_sack_66 : decode cX7_sack 66 = .ok (.ishl, 1) := dq_120 (by decide +kernel)
theorem dX7_sack_67 : decode cX7_sack 67 = .ok (.if_icmp .ge 48, 3) := dq_162 (b1 := 0) (b2 := 48) (by decide +kernel) (by decide)
theorem dX7_sack_7 : decode cX7_sack 7 = .ok (.ifCond .ne 6, 3) := dq_154 (b1 := 0) (b2 := 6) (by decide +kernel) (by decide)
theorem dX7_sack_70 : decode cX7_sack 70 = .ok (.iload 7, 2) := dq_21 (b1 := 7) (by decide +kernel) (by decide)
theorem dX7_sack_72 : decode cX7_sack 72 = .ok (.iload_n 3, 1) := dq_29 (by decide +kernel)
theorem dX7_sack_73 : decode cX7_sack 73 = .ok (.iconst (-1), 1) := dq_2 (by decide +kernel)
theorem dX7_sack_74 : decode cX7_sack 74 = .ok (.ixor, 1) := dq_130 (by decide +kernel)
theorem dX7_sack_75 : decode cX7_sack 75 = .ok (.iand, 1) := dq_126 (by decide +kernel)
theorem dX7_sack_76 : decode cX7_sack 76 = .ok (.ifCond .ne 33, 3) := dq_154 (b1 := 0) (b2 := 33) (by decide +kernel) (by decide)
theorem dX7_sack_79 : decode cX7_sack 79 = .ok (.aload_n 0, 1) := dq_42 (by decide +kernel)
theorem dX7_sack_80 : decode cX7_sack 80 = .ok (.getfield 26, 3) := dq_180 (b1 := 0) (b2 := 26) (by decide +kernel) (by decide)
theorem dX7_sack_83 : decode cX7_sack 83 = .ok (.iload 7, 2) := dq_21 (b1 := 7) (by decide +kernel) (by decide)
theorem dX7_sack_85 : decode cX7_sack 85 = .ok (.invokevirtual 237, 3) := dq_182 (b1 := 0) (b2 := 237) (by decide +kernel) (by decide)
theorem dX7_sack_88 : decode cX7_sack 88 = .ok (.iload_n 1, 1) := dq_27 (by decide +kernel)
theorem dX7_sack_89 : decode cX7_sack 89 = .ok (.if_icmp .ne 20, 3) := dq_160 (b1 := 0) (b2 := 20) (by decide +kernel) (by decide)
theorem dX7_sack_92 : decode cX7_sack 92 = .ok (.iinc 4 1, 3) := dq_132 (b1 := 4) (b2 := 1) (by decide +kernel) (by decide) (by decide)
theorem dX7_sack_95 : decode cX7_sack 95 = .ok (.iload 5, 2) := dq_21 (b1 := 5) (by decide +kernel) (by decide)
theorem dX7_sack_97 : decode cX7_sack 97 = .ok (.iload 7, 2) := dq_21 (b1 := 7) (by decide +kernel) (by decide)
theorem dX7_sack_99 : decode cX7_sack 99 = .ok (.iand, 1) := dq_126 (by decide +kernel)
theorem dX7_share_0 : decode cX7_share 0 = .ok (.aload_n 0, 1) := dq_42 (by decide +kernel)
theorem dX7_share_1 : decode cX7_share 1 = .ok (.getfield 26, 3) := dq_180 (b1 := 0) (b2 := 26) (by decide +kernel) (by decide)
theorem dX7_share_101 : decode cX7_share 101 = .ok (.iload 6, 2) := dq_21 (b1 := 6) (by decide +kernel) (by decide)
theorem dX7_share_103 : decode cX7_share 103 = .ok (.iaload, 1) := dq_46 (by decide +kernel)
theorem dX7_share_104 : decode cX7_share 104 = .ok (.imul, 1) := dq_104 (by decide +kernel)
theorem dX7_share_105 : decode cX7_share 105 = .ok (.iload_n 3, 1) := dq_29 (by decide +kernel)
theorem dX7_share_106 : decode cX7_share 106 = .ok (.idiv, 1) := dq_108 (by decide +kernel)
theorem dX7_share_107 : decode cX7_share 107 = .ok (.isub, 1) := dq_100 (by decide +kernel)
theorem dX7_share_108 : decode cX7_share 108 = .ok (.istore 4, 2) := dq_54 (b1 := 4) (by decide +kernel) (by decide)
theorem dX7_share_11 : decode cX7_share 11 = .ok (.iload_n 2, 1) := dq_28 (by decide +kernel)
theorem dX7_share_110 : decode cX7_share 110 = .ok (.iload 5, 2) := dq_21 (b1 := 5) (by decide +kernel) (by decide)
theorem dX7_share_112 : decode cX7_share 112 = .ok (.iload 6, 2) := dq_21 (b1 := 6) (by decide +kernel) (by decide)
theorem dX7_share_114 : decode cX7_share 114 = .ok (.iload_n 1, 1) := dq_27 (by decide +kernel)
theorem dX7_share_115 : decode cX7_share 115 = .ok (.if_icmp .ge 7, 3) := dq_162 (b1 := 0) (b2 := 7) (by decide +kernel) (by decide)
theorem dX7_share_118 : decode cX7_share 118 = .ok (.iconst 1, 1) := dq_4 (by decide +kernel)
theorem dX7_share_119 : decode cX7_share 119 = .ok (.goto 4, 3) := dq_167 (b1 := 0) (b2 := 4) (by decide +kernel) (by decide)
theorem dX7_share_12 : decode cX7_share 12 = .ok (.ifCond .lt 10, 3) := dq_155 (b1 := 0) (b2 := 10) (by decide +kernel) (by decide)
theorem dX7_share_122 : decode cX7_share 122 = .ok (.iconst 0, 1) := dq_3 (by decide +kernel)
theorem dX7_share_123 : decode cX7_share 123 = .ok (.iadd, 1) := dq_96 (by decide +kernel)
theorem dX7_share_124 : decode cX7_share 124 = .ok (.istore 5, 2) := dq_54 (b1 := 5) (by decide +kernel) (by decide)
theorem dX7_share_126 : decode cX7_share 126 = .ok (.iinc 6 1, 3) := dq_132 (b1 := 6) (b2 := 1) (by decide +kernel) (by decide) (by decide)
theorem dX7_share_129 : decode cX7_share 129 = .ok (.goto (-62), 3) := dq_167 (b1 := 255) (b2 := 194) (by decide +kernel) (by decide)
theorem dX7_share_132 : decode cX7_share 132 = .ok (.iload_n 2, 1) := dq_28 (by decide +kernel)
theorem dX7_share_133 : decode cX7_share 133 = .ok (.aload_n 0, 1) := dq_42 (by decide +kernel)
theorem dX7_share_134 : decode cX7_share 134 = .ok (.getfield 26, 3) := dq_180 (b1 := 0) (b2 := 26) (by decide +kernel) (by decide)
theorem dX7_share_137 : decode cX7_share 137 = .ok (.getfield 240, 3) := dq_180 (b1 := 0) (b2 := 240) (by decide +kernel) (by decide)
theorem dX7_share_140 : decode cX7_share 140 = .ok (.iload_n 1, 1) := dq_27 (by decide +kernel)
theorem dX7_share_141 : decode cX7_share 141 = .ok (.iaload, 1) := dq_46 (by decide +kernel)
theorem dX7_share_142 : decode cX7_share 142 = .ok (.imul, 1) := dq_104 (by decide +kernel)
theorem dX7_share_143 : decode cX7_share 143 = .ok (.iload_n 3, 1) := dq_29 (by decide +kernel)
theorem dX7_share_144 : decode cX7_share 144 = .ok (.idiv, 1) := dq_108 (by decide +kernel)
theorem dX7_share_145 : decode cX7_share 145 = .ok (.iload 5, 2) := dq_21 (b1 := 5) (by decide +kernel) (by decide)
theorem dX7_share_147 : decode cX7_share 147 = .ok (.iload 4, 2) := dq_21 (b1 := 4) (by decide +kernel) (by decide)
theorem dX7_share_149 : decode cX7_share 149 = .ok (.if_icmp .ge 7, 3) := dq_162 (b1 := 0) (b2 := 7) (by decide +kernel) (by decide)
theorem dX7_share_15 : decode cX7_share 15 = .ok (.iload_n 2, 1) := dq_28 (by decide +kernel)
theorem dX7_share_152 : decode cX7_share 152 = .ok (.iconst 1, 1) := dq_4 (by decide +kernel)
theorem dX7_share_153 : decode cX7_share 153 = .ok (.goto 4, 3) := dq_167 (b1 := 0) (b2 := 4) (by decide +kernel) (by decide)
theorem dX7_share_156 : decode cX7_share 156 = .ok (.iconst 0, 1) := dq_3 (by decide +kernel)
theorem dX7_share_157 : decode cX7_share 157 = .ok (.iadd, 1) := dq_96 (by decide +kernel)
theorem dX7_share_158 : decode cX7_share 158 = .ok (.ireturn, 1) := dq_172 (by decide +kernel)
theorem dX7_share_16 : decode cX7_share 16 = .ok (.sipush 999, 3) := dq_17 (b1 := 3) (b2 := 231) (by decide +kernel) (by decide)
theorem dX7_share_19 : decode cX7_share 19 = .ok (.if_icmp .le 6, 3) := dq_164 (b1 := 0) (b2 := 6) (by decide +kernel) (by decide)
theorem dX7_share_22 : decode cX7_share 22 = .ok (.ldc 72, 2) := dq_18 (b1 := 72) (by decide +kernel) (by decide)
theorem dX7_share_24 : decode cX7_share 24 = .ok (.ireturn, 1) := dq_172 (by decide +kernel)
theorem dX7_share_25 : decode cX7_share 25 = .ok (.aload_n 0, 1) := dq_42 (by decide +kernel)
theorem dX7_share_26 : decode cX7_share 26 = .ok (.getfield 26, 3) := dq_180 (b1 := 0) (b2 := 26) (by decide +kernel) (by decide)
theorem dX7_share_29 : decode cX7_share 29 = .ok (.aload_n 0, 1) := dq_42 (by decide +kernel)
theorem dX7_share_30 : decode cX7_share 30 = .ok (.getfield 26, 3) := dq_180 (b1 := 0) (b2 := 26) (by decide +kernel) (by decide)
theorem dX7_share_33 : decode cX7_share 33 = .ok (.iconst 0, 1) := dq_3 (by decide +kernel)
theorem dX7_share_34 : decode cX7_share 34 = .ok (.invokevirtual 185, 3) := dq_182 (b1 := 0) (b2 := 185) (by decide +kernel) (by decide)
theorem dX7_share_37 : decode cX7_share 37 = .ok (.invokevirtual 237, 3) := dq_182 (b1 := 0) (b2 := 237) (by decide +kernel) (by decide)
theorem dX7_share_4 : decode cX7_share 4 = .ok (.iload_n 1, 1) := dq_27 (by decide +kernel)
theorem dX7_share_40 : decode cX7_share 40 = .ok (.istore_n 3, 1) := dq_62 (by decide +kernel)
theorem dX7_share_41 : decode cX7_share 41 = .ok (.aload_n 0, 1) := dq_42 (by decide +kernel)
theorem dX7_share_42 : decode cX7_share 42 = .ok (.getfield 26, 3) := dq_180 (b1 := 0) (b2 := 26) (by decide +kernel) (by decide)
theorem dX7_share_45 : decode cX7_share 45 = .ok (.iload_n 1, 1) := dq_27 (by decide +kernel)
theorem dX7_share_46 : decode cX7_share 46 = .ok (.invokevirtual 179, 3) := dq_182 (b1 := 0) (b2 := 179) (by decide +kernel) (by decide)
theorem dX7_share_49 : decode cX7_share 49 = .ok (.ifCond .eq 7, 3) := dq_153 (b1 := 0) (b2 := 7) (by decide +kernel) (by decide)
theorem dX7_share_5 : decode cX7_share 5 = .ok (.invokevirtual 173, 3) := dq_182 (b1 := 0) (b2 := 173) (by decide +kernel) (by decide)
theorem dX7_share_52 : decode cX7_share 52 = .ok (.iload_n 3, 1) := dq_29 (by decide +kernel)
theorem dX7_share_53 : decode cX7_share 53 = .ok (.ifCond .gt 5, 3) := dq_157 (b1 := 0) (b2 := 5) (by decide +kernel) (by decide)
theorem dX7_share_56 : decode cX7_share 56 = .ok (.iconst 0, 1) := dq_3 (by decide +kernel)
theorem dX7_share_57 : decode cX7_share 57 = .ok (.ireturn, 1) := dq_172 (by decide +kernel)
theorem dX7_share_58 : decode cX7_share 58 = .ok (.iload_n 2, 1) := dq_28 (by decide +kernel)
theorem dX7_share_59 : decode cX7_share 59 = .ok (.istore 4, 2) := dq_54 (b1 := 4) (by decide +kernel) (by decide)
theorem dX7_share_61 : decode cX7_share 61 = .ok (.iconst 0, 1) := dq_3 (by decide +kernel)
theorem dX7_share_62 : decode cX7_share 62 = .ok (.istore 5, 2) := dq_54 (b1 := 5) (by decide +kernel) (by decide)
theorem dX7_share_64 : decode cX7_share 64 = .ok (.iconst 0, 1) := dq_3 (by decide +kernel)
theorem dX7_share_65 : decode cX7_share 65 = .ok (.istore 6, 2) := dq_54 (b1 := 6) (by decide +kernel) (by decide)
theorem dX7_share_67 : decode cX7_share 67 = .ok (.iload 6, 2) := dq_21 (b1 := 6) (by decide +kernel) (by decide)
theorem dX7_share_69 : decode cX7_share 69 = .ok (.aload_n 0, 1) := dq_42 (by decide +kernel)
theorem dX7_share_70 : decode cX7_share 70 = .ok (.getfield 26, 3) := dq_180 (b1 := 0) (b2 := 26) (by decide +kernel) (by decide)
theorem dX7_share_73 : decode cX7_share 73 = .ok (.getfield 135, 3) := dq_180 (b1 := 0) (b2 := 135) (by decide +kernel) (by decide)
theorem dX7_share_76 : decode cX7_share 76 = .ok (.if_icmp .ge 56, 3) := dq_162 (b1 := 0) (b2 := 56) (by decide +kernel) (by decide)
theorem dX7_share_79 : decode cX7_share 79 = .ok (.aload_n 0, 1) := dq_42 (by decide +kernel)
theorem dX7_share_8 : decode cX7_share 8 = .ok (.ifCond .eq 14, 3) := dq_153 (b1 := 0) (b2 := 14) (by decide +kernel) (by decide)
theorem dX7_share_80 : decode cX7_share 80 = .ok (.getfield 26, 3) := dq_180 (b1 := 0) (b2 := 26) (by decide +kernel) (by decide)
theorem dX7_share_83 : decode cX7_share 83 = .ok (.iload 6, 2) := dq_21 (b1 := 6) (by decide +kernel) (by decide)
theorem dX7_share_85 : decode cX7_share 85 = .ok (.invokevirtual 179, 3) := dq_182 (b1 := 0) (b2 := 179) (by decide +kernel) (by decide)
theorem dX7_share_88 : decode cX7_share 88 = .ok (.ifCond .eq 38, 3) := dq_153 (b1 := 0) (b2 := 38) (by decide +kernel) (by decide)
theorem dX7_share_91 : decode cX7_share 91 = .ok (.iload 4, 2) := dq_21 (b1 := 4) (by decide +kernel) (by decide)
theorem dX7_share_93 : decode cX7_share 93 = .ok (.iload_n 2, 1) := dq_28 (by decide +kernel)
theorem dX7_share_94 : decode cX7_share 94 = .ok (.aload_n 0, 1) := dq_42 (by decide +kernel)
theorem dX7_share_95 : decode cX7_share 95 = .ok (.getfield 26, 3) := dq_180 (b1 := 0) (b2 := 26) (by decide +kernel) (by decide)
theorem dX7_share_98 : decode cX7_share 98 = .ok (.getfield 240, 3) := dq_180 (b1 := 0) (b2 := 240) (by decide +kernel) (by decide)
theorem dX7_sound_0 : decode cX7_sound 0 = .ok (.aload_n 0, 1) := dq_42 (by decide +kernel)
theorem dX7_sound_1 : decode cX7_sound 1 = .ok (.getfield 26, 3) := dq_180 (b1 := 0) (b2 := 26) (by decide +kernel) (by decide)
theorem dX7_sound_11 : decode cX7_sound 11 = .ok (.iload_n 2, 1) := dq_28 (by decide +kernel)
theorem dX7_sound_12 : decode cX7_sound 12 = .ok (.ifCond .lt 8, 3) := dq_155 (b1 := 0) (b2 := 8) (by decide +kernel) (by decide)
theorem dX7_sound_15 : decode cX7_sound 15 = .ok (.iload_n 2, 1) := dq_28 (by decide +kernel)
theorem dX7_sound_16 : decode cX7_sound 16 = .ok (.iconst 3, 1) := dq_6 (by decide +kernel)
theorem dX7_sound_17 : decode cX7_sound 17 = .ok (.if_icmp .le 6, 3) := dq_164 (b1 := 0) (b2 := 6) (by decide +kernel) (by decide)
theorem dX7_sound_20 : decode cX7_sound 20 = .ok (.ldc 72, 2) := dq_18 (b1 := 72) (by decide +kernel) (by decide)
theorem dX7_sound_22 : decode cX7_sound 22 = .ok (.ireturn, 1) := dq_172 (by decide +kernel)
theorem dX7_sound_23 : decode cX7_sound 23 = .ok (.iload_n 2, 1) := dq_28 (by decide +kernel)
theorem dX7_sound_24 : decode cX7_sound 24 = .ok (.iconst 3, 1) := dq_6 (by decide +kernel)
theorem dX7_sound_25 : decode cX7_sound 25 = .ok (.if_icmp .ne 22, 3) := dq_160 (b1 := 0) (b2 := 22) (by decide +kernel) (by decide)
theorem dX7_sound_28 : decode cX7_sound 28 = .ok (.aload_n 0, 1) := dq_42 (by decide +kernel)
theorem dX7_sound_29 : decode cX7_sound 29 = .ok (.getfield 26, 3) := dq_180 (b1 := 0) (b2 := 26) (by decide +kernel) (by decide)
theorem dX7_sound_32 : decode cX7_sound 32 = .ok (.iload_n 1, 1) := dq_27 (by decide +kernel)
theorem dX7_sound_33 : decode cX7_sound 33 = .ok (.aload_n 0, 1) := dq_42 (by decide +kernel)
theorem dX7_sound_34 : decode cX7_sound 34 = .ok (.getfield 26, 3) := dq_180 (b1 := 0) (b2 := 26) (by decide +kernel) (by decide)
theorem dX7_sound_37 : decode cX7_sound 37 = .ok (.iconst 0, 1) := dq_3 (by decide +kernel)
theorem dX7_sound_38 : decode cX7_sound 38 = .ok (.invokevirtual 188, 3) := dq_182 (b1 := 0) (b2 := 188) (by decide +kernel) (by decide)
theorem dX7_sound_4 : decode cX7_sound 4 = .ok (.iload_n 1, 1) := dq_27 (by decide +kernel)
theorem dX7_sound_41 : decode cX7_sound 41 = .ok (.invokevirtual 191, 3) := dq_182 (b1 := 0) (b2 := 191) (by decide +kernel) (by decide)
theorem dX7_sound_44 : decode cX7_sound 44 = .ok (.goto 12, 3) := dq_167 (b1 := 0) (b2 := 12) (by decide +kernel) (by decide)
theorem dX7_sound_47 : decode cX7_sound 47 = .ok (.aload_n 0, 1) := dq_42 (by decide +kernel)
theorem dX7_sound_48 : decode cX7_sound 48 = .ok (.getfield 26, 3) := dq_180 (b1 := 0) (b2 := 26) (by decide +kernel) (by decide)
theorem dX7_sound_5 : decode cX7_sound 5 = .ok (.invokevirtual 173, 3) := dq_182 (b1 := 0) (b2 := 173) (by decide +kernel) (by decide)
theorem dX7_sound_51 : decode cX7_sound 51 = .ok (.iload_n 1, 1) := dq_27 (by decide +kernel)
theorem dX7_sound_52 : decode cX7_sound 52 = .ok (.iload_n 2, 1) := dq_28 (by decide +kernel)
theorem dX7_sound_53 : decode cX7_sound 53 = .ok (.invokevirtual 195, 3) := dq_182 (b1 := 0) (b2 := 195) (by decide +kernel) (by decide)
theorem dX7_sound_56 : decode cX7_sound 56 = .ok (.ireturn, 1) := dq_172 (by decide +kernel)
theorem dX7_sound_8 : decode cX7_sound 8 = .ok (.ifCond .eq 12, 3) := dq_153 (b1 := 0) (b2 := 12) (by decide +kernel) (by decide)
theorem dX7_stand_0 : decode cX7_stand 0 = .ok (.aload_n 0, 1) := dq_42 (by decide +kernel)
theorem dX7_stand_1 : decode cX7_stand 1 = .ok (.getfield 26, 3) := dq_180 (b1 := 0) (b2 := 26) (by decide +kernel) (by decide)
theorem dX7_stand_10 : decode cX7_stand 10 = .ok (.ldc 141, 2) := dq_18 (b1 := 141) (by decide +kernel) (by decide)
theorem dX7_stand_101 : decode cX7_stand 101 = .ok (.iconst 1, 1) := dq_4 (by decide +kernel)
theorem dX7_stand_102 : decode cX7_stand 102 = .ok (.invokevirtual 185, 3) := dq_182 (b1 := 0) (b2 := 185) (by decide +kernel) (by decide)
theorem dX7_stand_105 : decode cX7_stand 105 = .ok (.ireturn, 1) := dq_172 (by decide +kernel)
theorem dX7_stand_106 : decode cX7_stand 106 = .ok (.aload_n 0, 1) := dq_42 (by decide +kernel)
theorem dX7_stand_107 : decode cX7_stand 107 = .ok (.getfield 26, 3) := dq_180 (b1 := 0) (b2 := 26) (by decide +kernel) (by decide)
theorem dX7_stand_110 : decode cX7_stand 110 = .ok (.iconst 2, 1) := dq_5 (by decide +kernel)
theorem dX7_stand_111 : decode cX7_stand 111 = .ok (.invokevirtual 185, 3) := dq_182 (b1 := 0) (b2 := 185) (by decide +kernel) (by decide)
theorem dX7_stand_114 : decode cX7_stand 114 = .ok (.ireturn, 1) := dq_172 (by decide +kernel)
theorem dX7_stand_115 : decode cX7_stand 115 = .ok (.ldc 72, 2) := dq_18 (b1 := 72) (by decide +kernel) (by decide)
theorem dX7_stand_117 : decode cX7_stand 117 = .ok (.ireturn, 1) := dq_172 (by decide +kernel)
theorem dX7_stand_12 : decode cX7_stand 12 = .ok (.ireturn, 1) := dq_172 (by decide +kernel)
theorem dX7_stand_13 : decode cX7_stand 13 = .ok (.iload_n 1, 1) := dq_27 (by decide +kernel)
theorem dX7_stand_14 : decode cX7_stand 14 = .ok (.tableswitch 101 0 6 #[42, 50, 58, 66, 74, 83, 92], 42) := by decide +kernel
theorem dX7_stand_4 : decode cX7_stand 4 = .ok (.invokevirtual 145, 3) := dq_182 (b1 := 0) (b2 := 145) (by decide +kernel) (by decide)
theorem dX7_stand_56 : decode cX7_stand 56 = .ok (.aload_n 0, 1) := dq_42 (by decide +kernel)
theorem dX7_stand_57 : decode cX7_stand 57 = .ok (.getfield 26, 3) := dq_180 (b1 := 0) (b2 := 26) (by decide +kernel) (by decide)
theorem dX7_stand_60 : decode cX7_stand 60 = .ok (.getfield 198, 3) := dq_180 (b1 := 0) (b2 := 198) (by decide +kernel) (by decide)
theorem dX7_stand_63 : decode cX7_stand 63 = .ok (.ireturn, 1) := dq_172 (by decide +kernel)
theorem dX7_stand_64 : decode cX7_stand 64 = .ok (.aload_n 0, 1) := dq_42 (by decide +kernel)
theorem dX7_stand_65 : decode cX7_stand 65 = .ok (.getfield 26, 3) := dq_180 (b1 := 0) (b2 := 26) (by decide +kernel) (by decide)
theorem dX7_stand_68 : decode cX7_stand 68 = .ok (.getfield 201, 3) := dq_180 (b1 := 0) (b2 := 201) (by decide +kernel) (by decide)
theorem dX7_stand_7 : decode cX7_stand 7 = .ok (.ifCond .ne 6, 3) := dq_154 (b1 := 0) (b2 := 6) (by decide +kernel) (by decide)
theorem dX7_stand_71 : decode cX7_stand 71 = .ok (.ireturn, 1) := dq_172 (by decide +kernel)
theorem dX7_stand_72 : decode cX7_stand 72 = .ok (.aload_n 0, 1) := dq_42 (by decide +kernel)
theorem dX7_stand_73 : decode cX7_stand 73 = .ok (.getfield 26, 3) := dq_180 (b1 := 0) (b2 := 26) (by decide +kernel) (by decide)
theorem dX7_stand_76 : decode cX7_stand 76 = .ok (.getfield 204, 3) := dq_180 (b1 := 0) (b2 := 204) (by decide +kernel) (by decide)
theorem dX7_stand_79 : decode cX7_stand 79 = .ok (.ireturn, 1) := dq_172 (by decide +kernel)
theorem dX7_stand_80 : decode cX7_stand 80 = .ok (.aload_n 0, 1) := dq_42 (by decide +kernel)
theorem dX7_stand_81 : decode cX7_stand 81 = .ok (.getfield 26, 3) := dq_180 (b1 := 0) (b2 := 26) (by decide +kernel) (by decide)
theorem dX7_stand_84 : decode cX7_stand 84 = .ok (.getfield 163, 3) := dq_180 (b1 := 0) (b2 := 163) (by decide +kernel) (by decide)
theorem dX7_stand_87 : decode cX7_stand 87 = .ok (.ireturn, 1) := dq_172 (by decide +kernel)
theorem dX7_stand_88 : decode cX7_stand 88 = .ok (.aload_n 0, 1) := dq_42 (by decide +kernel)
theorem dX7_stand_89 : decode cX7_stand 89 = .ok (.getfield 26, 3) := dq_180 (b1 := 0) (b2 := 26) (by decide +kernel) (by decide)
theorem dX7_stand_92 : decode cX7_stand 92 = .ok (.iconst 0, 1) := dq_3 (by decide +kernel)
theorem dX7_stand_93 : decode cX7_stand 93 = .ok (.invokevirtual 185, 3) := dq_182 (b1 := 0) (b2 := 185) (by decide +kernel) (by decide)
theorem dX7_stand_96 : decode cX7_stand 96 = .ok (.ireturn, 1) := dq_172 (by decide +kernel)
theorem dX7_stand_97 : decode cX7_stand 97 = .ok (.aload_n 0, 1) := dq_42 (by decide +kernel)
theorem dX7_stand_98 : decode cX7_stand 98 = .ok (.getfield 26, 3) := dq_180 (b1 := 0) (b2 := 26) (by decide +kernel) (by decide)
theorem dX7_status_0 : decode cX7_status 0 = .ok (.aload_n 0, 1) := dq_42 (by decide +kernel)
theorem dX7_status_1 : decode cX7_status 1 = .ok (.getfield 323, 3) := dq_180 (b1 := 1) (b2 := 67) (by decide +kernel) (by decide)
theorem dX7_status_4 : decode cX7_status 4 = .ok (.ireturn, 1) := dq_172 (by decide +kernel)
theorem dX7_trace_0 : decode cX7_trace 0 = .ok (.iload_n 1, 1) := dq_27 (by decide +kernel)
theorem dX7_trace_1 : decode cX7_trace 1 = .ok (.ifCond .lt 26, 3) := dq_155 (b1 := 0) (b2 := 26) (by decide +kernel) (by decide)
theorem dX7_trace_12 : decode cX7_trace 12 = .ok (.if_icmp .ge 15, 3) := dq_162 (b1 := 0) (b2 := 15) (by decide +kernel) (by decide)
theorem dX7_trace_15 : decode cX7_trace 15 = .ok (.aload_n 0, 1) := dq_42 (by decide +kernel)
theorem dX7_trace_16 : decode cX7_trace 16 = .ok (.getfield 61, 3) := dq_180 (b1 := 0) (b2 := 61) (by decide +kernel) (by decide)
theorem dX7_trace_19 : decode cX7_trace 19 = .ok (.getfield 316, 3) := dq_180 (b1 := 1) (b2 := 60) (by decide +kernel) (by decide)
theorem dX7_trace_22 : decode cX7_trace 22 = .ok (.iload_n 1, 1) := dq_27 (by decide +kernel)
theorem dX7_trace_23 : decode cX7_trace 23 = .ok (.iaload, 1) := dq_46 (by decide +kernel)
theorem dX7_trace_24 : decode cX7_trace 24 = .ok (.goto 5, 3) := dq_167 (b1 := 0) (b2 := 5) (by decide +kernel) (by decide)
theorem dX7_trace_27 : decode cX7_trace 27 = .ok (.ldc 220, 2) := dq_18 (b1 := 220) (by decide +kernel) (by decide)
theorem dX7_trace_29 : decode cX7_trace 29 = .ok (.ireturn, 1) := dq_172 (by decide +kernel)
theorem dX7_trace_4 : decode cX7_trace 4 = .ok (.iload_n 1, 1) := dq_27 (by decide +kernel)
theorem dX7_trace_5 : decode cX7_trace 5 = .ok (.aload_n 0, 1) := dq_42 (by decide +kernel)
theorem dX7_trace_6 : decode cX7_trace 6 = .ok (.getfield 61, 3) := dq_180 (b1 := 0) (b2 := 61) (by decide +kernel) (by decide)
theorem dX7_trace_9 : decode cX7_trace 9 = .ok (.getfield 313, 3) := dq_180 (b1 := 1) (b2 := 57) (by decide +kernel) (by decide)
theorem mb_X7_count_wsX7_count_r2 {w : Cond} (h : w ∈ wsX7_count_r2) : w ∈ wsX7_count := by unfold wsX7_count; exact List.mem_cons_of_mem _ (List.mem_append_left _ (List.mem_append_left _ (List.mem_append_left _ (List.mem_append_left _ (List.mem_append_left _ (List.mem_append_right _ (h)))))))
theorem mx_X7_count_32 : Cond.code yJ6_bitCount_0f7a4 cJ6_bitCount_0f7a4 1 (some .int) ∈ wsX7_count := mb_X7_count_wsX7_count_r2 (List.mem_of_getElem? (i := 7) rfl)
theorem mx_X7_count_33 : Cond.constant RJ6 265 (1431655765) ∈ wsX7_count := mb_X7_count_wsX7_count_r2 (List.mem_of_getElem? (i := 8) rfl)
theorem mx_X7_count_34 : Cond.constant RJ6 266 (858993459) ∈ wsX7_count := mb_X7_count_wsX7_count_r2 (List.mem_of_getElem? (i := 9) rfl)
theorem mx_X7_count_35 : Cond.constant RJ6 267 (252645135) ∈ wsX7_count := mb_X7_count_wsX7_count_r2 (List.mem_of_getElem? (i := 10) rfl)
theorem ggX7_count_J6_bitCount_0f7a4 : GoodIn wsX7_count wsJ6_bitCount_0f7a4 := goodIn_sub (by unfold wsJ6_bitCount_0f7a4; exact List.forall_mem_cons.mpr ⟨mx_X7_count_32, List.forall_mem_cons.mpr ⟨mx_X7_count_33, List.forall_mem_cons.mpr ⟨mx_X7_count_34, List.forall_mem_cons.mpr ⟨mx_X7_count_35, fun _ h_ => absurd h_ List.not_mem_nil⟩⟩⟩⟩) (by decide +kernel)
set_option maxRecDepth 20000 in
theorem gX7_count_J6_bitCount_0f7a4 : GoodIn wsX7_count (va_wsS RX7 296 yJ6_bitCount_0f7a4 wsJ6_bitCount_0f7a4) := goodIn_app (goodIn_of _ (by decide +kernel)) ggX7_count_J6_bitCount_0f7a4
theorem mx_X7_count_26 : Cond.code yX3_soundsThatAre cX3_soundsThatAre 4 (some .int) ∈ wsX7_count := mb_X7_count_wsX7_count_r2 (List.mem_of_getElem? (i := 1) rfl)
theorem mx_X7_count_27 : Cond.fieldLink RX3 49 "MillTalk$Level" "soundCount" "I" ∈ wsX7_count := mb_X7_count_wsX7_count_r2 (List.mem_of_getElem? (i := 2) rfl)
theorem mx_X7_count_28 : Cond.fieldLink RX3 24 "MillTalk$Level" "hows" "[I" ∈ wsX7_count := mb_X7_count_wsX7_count_r2 (List.mem_of_getElem? (i := 3) rfl)
theorem mb_X7_count_wsX30 {w : Cond} (h : w ∈ wsX30) : w ∈ wsX7_count := by unfold wsX7_count; exact List.mem_cons_of_mem _ (List.mem_append_left _ (List.mem_append_left _ (List.mem_append_left _ (List.mem_append_right _ (h)))))
theorem ggX7_count_X3_soundsThatAre : GoodIn wsX7_count wsX3_soundsThatAre := goodIn_sub (by unfold wsX3_soundsThatAre; exact List.forall_mem_cons.mpr ⟨mx_X7_count_26, List.forall_mem_append.mpr ⟨List.forall_mem_cons.mpr ⟨mx_X7_count_27, List.forall_mem_cons.mpr ⟨mx_X7_count_28, fun _ h_ => absurd h_ List.not_mem_nil⟩⟩, (fun _ h_ => mb_X7_count_wsX30 h_)⟩⟩) (by decide +kernel)
theorem mb_X7_count_wsX7_count_r1 {w : Cond} (h : w ∈ wsX7_count_r1) : w ∈ wsX7_count := by unfold wsX7_count; exact List.mem_cons_of_mem _ (List.mem_append_left _ (List.mem_append_left _ (List.mem_append_left _ (List.mem_append_left _ (List.mem_append_left _ (List.mem_append_left _ (h)))))))
theorem mx_X7_count_22 : Cond.methodLink RX7 185 yX3_soundsThatAre ∈ wsX7_count := mb_X7_count_wsX7_count_r1 (List.mem_of_getElem? (i := 21) rfl)
theorem mx_X7_count_23 : Cond.instanceMethod yX3_soundsThatAre ∈ wsX7_count := mb_X7_count_wsX7_count_r1 (List.mem_of_getElem? (i := 22) rfl)
theorem mx_X7_count_24 : Cond.selects RX3 yX3_soundsThatAre yX3_soundsThatAre ∈ wsX7_count := mb_X7_count_wsX7_count_r1 (List.mem_of_getElem? (i := 23) rfl)
theorem mx_X7_count_25 : Cond.initialized RX3 ∈ wsX7_count := mb_X7_count_wsX7_count_r2 (List.mem_of_getElem? (i := 0) rfl)
theorem gX7_count_X3_soundsThatAre : GoodIn wsX7_count (wsV RX7 185 RX3 yX3_soundsThatAre wsX3_soundsThatAre) := goodIn_app (goodIn_sub (List.forall_mem_cons.mpr ⟨mx_X7_count_22, List.forall_mem_cons.mpr ⟨mx_X7_count_23, List.forall_mem_cons.mpr ⟨mx_X7_count_24, List.forall_mem_cons.mpr ⟨mx_X7_count_25, fun _ h_ => absurd h_ List.not_mem_nil⟩⟩⟩⟩) (by decide +kernel)) ggX7_count_X3_soundsThatAre
theorem mx_X7_count_16 : Cond.code yX5_present cX5_present 3 (some .int) ∈ wsX7_count := mb_X7_count_wsX7_count_r1 (List.mem_of_getElem? (i := 15) rfl)
theorem mx_X7_count_17 : Cond.methodLink RX5 29 yX5_isMissing ∈ wsX7_count := mb_X7_count_wsX7_count_r1 (List.mem_of_getElem? (i := 16) rfl)
theorem mx_X7_count_18 : Cond.instanceMethod yX5_isMissing ∈ wsX7_count := mb_X7_count_wsX7_count_r1 (List.mem_of_getElem? (i := 17) rfl)
theorem mx_X7_count_19 : Cond.selects RX5 yX5_isMissing yX5_isMissing ∈ wsX7_count := mb_X7_count_wsX7_count_r1 (List.mem_of_getElem? (i := 18) rfl)
theorem mx_X7_count_15 : Cond.initialized RX5 ∈ wsX7_count := mb_X7_count_wsX7_count_r1 (List.mem_of_getElem? (i := 14) rfl)
theorem mx_X7_count_20 : Cond.code yX5_isMissing cX5_isMissing 2 (some .boolean) ∈ wsX7_count := mb_X7_count_wsX7_count_r1 (List.mem_of_getElem? (i := 19) rfl)
theorem mx_X7_count_21 : Cond.fieldLink RX5 16 "MillTalk$Rows" "lanes" "[I" ∈ wsX7_count := mb_X7_count_wsX7_count_r1 (List.mem_of_getElem? (i := 20) rfl)
theorem mb_X7_count_wsX50 {w : Cond} (h : w ∈ wsX50) : w ∈ wsX7_count := by unfold wsX7_count; exact List.mem_cons_of_mem _ (List.mem_append_right _ (h))
theorem ggX7_count_X5_present : GoodIn wsX7_count wsX5_present := goodIn_sub (by unfold wsX5_present; exact List.forall_mem_cons.mpr ⟨mx_X7_count_16, List.forall_mem_append.mpr ⟨List.forall_mem_cons.mpr ⟨mx_X7_count_17, List.forall_mem_cons.mpr ⟨mx_X7_count_18, List.forall_mem_cons.mpr ⟨mx_X7_count_19, List.forall_mem_cons.mpr ⟨mx_X7_count_15, List.forall_mem_cons.mpr ⟨mx_X7_count_20, List.forall_mem_cons.mpr ⟨mx_X7_count_21, fun _ h_ => absurd h_ List.not_mem_nil⟩⟩⟩⟩⟩⟩, (fun _ h_ => mb_X7_count_wsX50 h_)⟩⟩) (by decide +kernel)
theorem mx_X7_count_12 : Cond.methodLink RX7 319 yX5_present ∈ wsX7_count := mb_X7_count_wsX7_count_r1 (List.mem_of_getElem? (i := 11) rfl)
theorem mx_X7_count_13 : Cond.instanceMethod yX5_present ∈ wsX7_count := mb_X7_count_wsX7_count_r1 (List.mem_of_getElem? (i := 12) rfl)
theorem mx_X7_count_14 : Cond.selects RX5 yX5_present yX5_present ∈ wsX7_count := mb_X7_count_wsX7_count_r1 (List.mem_of_getElem? (i := 13) rfl)
theorem gX7_count_X5_present : GoodIn wsX7_count (wsV RX7 319 RX5 yX5_present wsX5_present) := goodIn_app (goodIn_sub (List.forall_mem_cons.mpr ⟨mx_X7_count_12, List.forall_mem_cons.mpr ⟨mx_X7_count_13, List.forall_mem_cons.mpr ⟨mx_X7_count_14, List.forall_mem_cons.mpr ⟨mx_X7_count_15, fun _ h_ => absurd h_ List.not_mem_nil⟩⟩⟩⟩) (by decide +kernel)) ggX7_count_X5_present
theorem mx_X7_gust_8 : Cond.code yX3_isTold cX3_isTold 1 (some .boolean) ∈ wsX7_gust := by unfold wsX7_gust; exact List.mem_cons_of_mem _ (List.mem_append_left _ (List.mem_append_left _ (List.mem_of_getElem? (i := 7) rfl)))
theorem mx_X7_gust_9 : Cond.fieldLink RX3 27 "MillTalk$Level" "cells" "I" ∈ wsX7_gust := by unfold wsX7_gust; exact List.mem_cons_of_mem _ (List.mem_append_left _ (List.mem_append_left _ (List.mem_of_getElem? (i := 8) rfl)))
theorem mb_X7_gust_wsX30 {w : Cond} (h : w ∈ wsX30) : w ∈ wsX7_gust := by unfold wsX7_gust; exact List.mem_cons_of_mem _ (List.mem_append_right _ (h))
theorem ggX7_gust_X3_isTold : GoodIn wsX7_gust wsX3_isTold := goodIn_sub (by unfold wsX3_isTold; exact List.forall_mem_cons.mpr ⟨mx_X7_gust_8, List.forall_mem_append.mpr ⟨List.forall_mem_cons.mpr ⟨mx_X7_gust_9, fun _ h_ => absurd h_ List.not_mem_nil⟩, (fun _ h_ => mb_X7_gust_wsX30 h_)⟩⟩) (by decide +kernel)
theorem mx_X7_gust_4 : Cond.methodLink RX7 145 yX3_isTold ∈ wsX7_gust := by unfold wsX7_gust; exact List.mem_cons_of_mem _ (List.mem_append_left _ (List.mem_append_left _ (List.mem_of_getElem? (i := 3) rfl)))
theorem mx_X7_gust_5 : Cond.instanceMethod yX3_isTold ∈ wsX7_gust := by unfold wsX7_gust; exact List.mem_cons_of_mem _ (List.mem_append_left _ (List.mem_append_left _ (List.mem_of_getElem? (i := 4) rfl)))
theorem mx_X7_gust_6 : Cond.selects RX3 yX3_isTold yX3_isTold ∈ wsX7_gust := by unfold wsX7_gust; exact List.mem_cons_of_mem _ (List.mem_append_left _ (List.mem_append_left _ (List.mem_of_getElem? (i := 5) rfl)))
theorem mx_X7_gust_7 : Cond.initialized RX3 ∈ wsX7_gust := by unfold wsX7_gust; exact List.mem_cons_of_mem _ (List.mem_append_left _ (List.mem_append_left _ (List.mem_of_getElem? (i := 6) rfl)))
theorem gX7_gust_X3_isTold : GoodIn wsX7_gust (wsV RX7 145 RX3 yX3_isTold wsX3_isTold) := goodIn_app (goodIn_sub (List.forall_mem_cons.mpr ⟨mx_X7_gust_4, List.forall_mem_cons.mpr ⟨mx_X7_gust_5, List.forall_mem_cons.mpr ⟨mx_X7_gust_6, List.forall_mem_cons.mpr ⟨mx_X7_gust_7, fun _ h_ => absurd h_ List.not_mem_nil⟩⟩⟩⟩) (by decide +kernel)) ggX7_gust_X3_isTold
theorem mx_X7_gust_17 : Cond.code yX3_windOn cX3_windOn 2 (some .int) ∈ wsX7_gust := by unfold wsX7_gust; exact List.mem_cons_of_mem _ (List.mem_append_left _ (List.mem_append_left _ (List.mem_of_getElem? (i := 16) rfl)))
theorem mx_X7_gust_18 : Cond.fieldLink RX3 46 "MillTalk$Level" "windCount" "I" ∈ wsX7_gust := by unfold wsX7_gust; exact List.mem_cons_of_mem _ (List.mem_append_left _ (List.mem_append_left _ (List.mem_of_getElem? (i := 17) rfl)))
theorem mx_X7_gust_19 : Cond.fieldLink RX3 9 "MillTalk$Level" "winds" "[I" ∈ wsX7_gust := by unfold wsX7_gust; exact List.mem_cons_of_mem _ (List.mem_append_left _ (List.mem_append_left _ (List.mem_of_getElem? (i := 18) rfl)))
theorem mx_X7_gust_20 : Cond.fieldLink RX3 40 "MillTalk$Level" "hour" "I" ∈ wsX7_gust := by unfold wsX7_gust; exact List.mem_cons_of_mem _ (List.mem_append_left _ (List.mem_append_left _ (List.mem_of_getElem? (i := 19) rfl)))
theorem ggX7_gust_X3_windOn : GoodIn wsX7_gust wsX3_windOn := goodIn_sub (by unfold wsX3_windOn; exact List.forall_mem_cons.mpr ⟨mx_X7_gust_17, List.forall_mem_append.mpr ⟨List.forall_mem_cons.mpr ⟨mx_X7_gust_18, List.forall_mem_cons.mpr ⟨mx_X7_gust_19, List.forall_mem_cons.mpr ⟨mx_X7_gust_20, fun _ h_ => absurd h_ List.not_mem_nil⟩⟩⟩, (fun _ h_ => mb_X7_gust_wsX30 h_)⟩⟩) (by decide +kernel)
theorem mx_X7_gust_14 : Cond.methodLink RX7 188 yX3_windOn ∈ wsX7_gust := by unfold wsX7_gust; exact List.mem_cons_of_mem _ (List.mem_append_left _ (List.mem_append_left _ (List.mem_of_getElem? (i := 13) rfl)))
theorem mx_X7_gust_15 : Cond.instanceMethod yX3_windOn ∈ wsX7_gust := by unfold wsX7_gust; exact List.mem_cons_of_mem _ (List.mem_append_left _ (List.mem_append_left _ (List.mem_of_getElem? (i := 14) rfl)))
theorem mx_X7_gust_16 : Cond.selects RX3 yX3_windOn yX3_windOn ∈ wsX7_gust := by unfold wsX7_gust; exact List.mem_cons_of_mem _ (List.mem_append_left _ (List.mem_append_left _ (List.mem_of_getElem? (i := 15) rfl)))
theorem gX7_gust_X3_windOn : GoodIn wsX7_gust (wsV RX7 188 RX3 yX3_windOn wsX3_windOn) := goodIn_app (goodIn_sub (List.forall_mem_cons.mpr ⟨mx_X7_gust_14, List.forall_mem_cons.mpr ⟨mx_X7_gust_15, List.forall_mem_cons.mpr ⟨mx_X7_gust_16, List.forall_mem_cons.mpr ⟨mx_X7_gust_7, fun _ h_ => absurd h_ List.not_mem_nil⟩⟩⟩⟩) (by decide +kernel)) ggX7_gust_X3_windOn
theorem mx_X7_gust_13 : Cond.code yX7_isForetold cX7_isForetold 1 (some .boolean) ∈ wsX7_gust := by unfold wsX7_gust; exact List.mem_cons_of_mem _ (List.mem_append_left _ (List.mem_append_left _ (List.mem_of_getElem? (i := 12) rfl)))
theorem ggX7_gust_X7_isForetold : GoodIn wsX7_gust wsX7_isForetold := goodIn_sub (by unfold wsX7_isForetold; exact List.forall_mem_cons.mpr ⟨mx_X7_gust_13, fun _ h_ => absurd h_ List.not_mem_nil⟩) (by decide +kernel)
set_option maxRecDepth 20000 in
theorem gX7_gust_X7_isForetold : GoodIn wsX7_gust (va_wsS RX7 207 yX7_isForetold wsX7_isForetold) := goodIn_app (goodIn_of _ (by decide +kernel)) ggX7_gust_X7_isForetold
theorem mx_X7_isHeard_4 : Cond.code yX5_isRow cX5_isRow 1 (some .boolean) ∈ wsX7_isHeard := by unfold wsX7_isHeard; exact List.mem_cons_of_mem _ (List.mem_of_getElem? (i := 3) rfl)
theorem ggX7_isHeard_X5_isRow : GoodIn wsX7_isHeard wsX5_isRow := goodIn_sub (by unfold wsX5_isRow; exact List.forall_mem_cons.mpr ⟨mx_X7_isHeard_4, fun _ h_ => absurd h_ List.not_mem_nil⟩) (by decide +kernel)
set_option maxRecDepth 20000 in
theorem gX7_isHeard_X5_isRow : GoodIn wsX7_isHeard (va_wsS RX7 65 yX5_isRow wsX5_isRow) := goodIn_app (goodIn_of _ (by decide +kernel)) ggX7_isHeard_X5_isRow
theorem mx_X7_kind_8 : Cond.code yX3_hasSound cX3_hasSound 2 (some .boolean) ∈ wsX7_kind := by unfold wsX7_kind; exact List.mem_cons_of_mem _ (List.mem_append_left _ (List.mem_append_left _ (List.mem_of_getElem? (i := 7) rfl)))
theorem mx_X7_kind_9 : Cond.fieldLink RX3 49 "MillTalk$Level" "soundCount" "I" ∈ wsX7_kind := by unfold wsX7_kind; exact List.mem_cons_of_mem _ (List.mem_append_left _ (List.mem_append_left _ (List.mem_of_getElem? (i := 8) rfl)))
theorem mb_X7_kind_wsX30 {w : Cond} (h : w ∈ wsX30) : w ∈ wsX7_kind := by unfold wsX7_kind; exact List.mem_cons_of_mem _ (List.mem_append_right _ (h))
theorem ggX7_kind_X3_hasSound : GoodIn wsX7_kind wsX3_hasSound := goodIn_sub (by unfold wsX3_hasSound; exact List.forall_mem_cons.mpr ⟨mx_X7_kind_8, List.forall_mem_append.mpr ⟨List.forall_mem_cons.mpr ⟨mx_X7_kind_9, fun _ h_ => absurd h_ List.not_mem_nil⟩, (fun _ h_ => mb_X7_kind_wsX30 h_)⟩⟩) (by decide +kernel)
theorem mx_X7_kind_4 : Cond.methodLink RX7 173 yX3_hasSound ∈ wsX7_kind := by unfold wsX7_kind; exact List.mem_cons_of_mem _ (List.mem_append_left _ (List.mem_append_left _ (List.mem_of_getElem? (i := 3) rfl)))
theorem mx_X7_kind_5 : Cond.instanceMethod yX3_hasSound ∈ wsX7_kind := by unfold wsX7_kind; exact List.mem_cons_of_mem _ (List.mem_append_left _ (List.mem_append_left _ (List.mem_of_getElem? (i := 4) rfl)))
theorem mx_X7_kind_6 : Cond.selects RX3 yX3_hasSound yX3_hasSound ∈ wsX7_kind := by unfold wsX7_kind; exact List.mem_cons_of_mem _ (List.mem_append_left _ (List.mem_append_left _ (List.mem_of_getElem? (i := 5) rfl)))
theorem mx_X7_kind_7 : Cond.initialized RX3 ∈ wsX7_kind := by unfold wsX7_kind; exact List.mem_cons_of_mem _ (List.mem_append_left _ (List.mem_append_left _ (List.mem_of_getElem? (i := 6) rfl)))
theorem gX7_kind_X3_hasSound : GoodIn wsX7_kind (wsV RX7 173 RX3 yX3_hasSound wsX3_hasSound) := goodIn_app (goodIn_sub (List.forall_mem_cons.mpr ⟨mx_X7_kind_4, List.forall_mem_cons.mpr ⟨mx_X7_kind_5, List.forall_mem_cons.mpr ⟨mx_X7_kind_6, List.forall_mem_cons.mpr ⟨mx_X7_kind_7, fun _ h_ => absurd h_ List.not_mem_nil⟩⟩⟩⟩) (by decide +kernel)) ggX7_kind_X3_hasSound
theorem mx_X7_sack_9 : Cond.code yX3_isTold cX3_isTold 1 (some .boolean) ∈ wsX7_sack := by unfold wsX7_sack; exact List.mem_cons_of_mem _ (List.mem_append_left _ (List.mem_append_left _ (List.mem_of_getElem? (i := 8) rfl)))
theorem mx_X7_sack_10 : Cond.fieldLink RX3 27 "MillTalk$Level" "cells" "I" ∈ wsX7_sack := by unfold wsX7_sack; exact List.mem_cons_of_mem _ (List.mem_append_left _ (List.mem_append_left _ (List.mem_of_getElem? (i := 9) rfl)))
theorem mb_X7_sack_wsX30 {w : Cond} (h : w ∈ wsX30) : w ∈ wsX7_sack := by unfold wsX7_sack; exact List.mem_cons_of_mem _ (List.mem_append_right _ (h))
theorem ggX7_sack_X3_isTold : GoodIn wsX7_sack wsX3_isTold := goodIn_sub (by unfold wsX3_isTold; exact List.forall_mem_cons.mpr ⟨mx_X7_sack_9, List.forall_mem_append.mpr ⟨List.forall_mem_cons.mpr ⟨mx_X7_sack_10, fun _ h_ => absurd h_ List.not_mem_nil⟩, (fun _ h_ => mb_X7_sack_wsX30 h_)⟩⟩) (by decide +kernel)
theorem mx_X7_sack_5 : Cond.methodLink RX7 145 yX3_isTold ∈ wsX7_sack := by unfold wsX7_sack; exact List.mem_cons_of_mem _ (List.mem_append_left _ (List.mem_append_left _ (List.mem_of_getElem? (i := 4) rfl)))
theorem mx_X7_sack_6 : Cond.instanceMethod yX3_isTold ∈ wsX7_sack := by unfold wsX7_sack; exact List.mem_cons_of_mem _ (List.mem_append_left _ (List.mem_append_left _ (List.mem_of_getElem? (i := 5) rfl)))
theorem mx_X7_sack_7 : Cond.selects RX3 yX3_isTold yX3_isTold ∈ wsX7_sack := by unfold wsX7_sack; exact List.mem_cons_of_mem _ (List.mem_append_left _ (List.mem_append_left _ (List.mem_of_getElem? (i := 6) rfl)))
theorem mx_X7_sack_8 : Cond.initialized RX3 ∈ wsX7_sack := by unfold wsX7_sack; exact List.mem_cons_of_mem _ (List.mem_append_left _ (List.mem_append_left _ (List.mem_of_getElem? (i := 7) rfl)))
theorem gX7_sack_X3_isTold : GoodIn wsX7_sack (wsV RX7 145 RX3 yX3_isTold wsX3_isTold) := goodIn_app (goodIn_sub (List.forall_mem_cons.mpr ⟨mx_X7_sack_5, List.forall_mem_cons.mpr ⟨mx_X7_sack_6, List.forall_mem_cons.mpr ⟨mx_X7_sack_7, List.forall_mem_cons.mpr ⟨mx_X7_sack_8, fun _ h_ => absurd h_ List.not_mem_nil⟩⟩⟩⟩) (by decide +kernel)) ggX7_sack_X3_isTold
theorem mx_X7_sack_20 : Cond.code yX3_loudOf cX3_loudOf 4 (some .int) ∈ wsX7_sack := by unfold wsX7_sack; exact List.mem_cons_of_mem _ (List.mem_append_left _ (List.mem_append_left _ (List.mem_of_getElem? (i := 19) rfl)))
theorem mx_X7_sack_15 : Cond.fieldLink RX3 49 "MillTalk$Level" "soundCount" "I" ∈ wsX7_sack := by unfold wsX7_sack; exact List.mem_cons_of_mem _ (List.mem_append_left _ (List.mem_append_left _ (List.mem_of_getElem? (i := 14) rfl)))
theorem mx_X7_sack_21 : Cond.fieldLink RX3 21 "MillTalk$Level" "louds" "[I" ∈ wsX7_sack := by unfold wsX7_sack; exact List.mem_cons_of_mem _ (List.mem_append_left _ (List.mem_append_left _ (List.mem_of_getElem? (i := 20) rfl)))
theorem ggX7_sack_X3_loudOf : GoodIn wsX7_sack wsX3_loudOf := goodIn_sub (by unfold wsX3_loudOf; exact List.forall_mem_cons.mpr ⟨mx_X7_sack_20, List.forall_mem_append.mpr ⟨List.forall_mem_cons.mpr ⟨mx_X7_sack_15, List.forall_mem_cons.mpr ⟨mx_X7_sack_21, fun _ h_ => absurd h_ List.not_mem_nil⟩⟩, (fun _ h_ => mb_X7_sack_wsX30 h_)⟩⟩) (by decide +kernel)
theorem mx_X7_sack_17 : Cond.methodLink RX7 237 yX3_loudOf ∈ wsX7_sack := by unfold wsX7_sack; exact List.mem_cons_of_mem _ (List.mem_append_left _ (List.mem_append_left _ (List.mem_of_getElem? (i := 16) rfl)))
theorem mx_X7_sack_18 : Cond.instanceMethod yX3_loudOf ∈ wsX7_sack := by unfold wsX7_sack; exact List.mem_cons_of_mem _ (List.mem_append_left _ (List.mem_append_left _ (List.mem_of_getElem? (i := 17) rfl)))
theorem mx_X7_sack_19 : Cond.selects RX3 yX3_loudOf yX3_loudOf ∈ wsX7_sack := by unfold wsX7_sack; exact List.mem_cons_of_mem _ (List.mem_append_left _ (List.mem_append_left _ (List.mem_of_getElem? (i := 18) rfl)))
theorem gX7_sack_X3_loudOf : GoodIn wsX7_sack (wsV RX7 237 RX3 yX3_loudOf wsX3_loudOf) := goodIn_app (goodIn_sub (List.forall_mem_cons.mpr ⟨mx_X7_sack_17, List.forall_mem_cons.mpr ⟨mx_X7_sack_18, List.forall_mem_cons.mpr ⟨mx_X7_sack_19, List.forall_mem_cons.mpr ⟨mx_X7_sack_8, fun _ h_ => absurd h_ List.not_mem_nil⟩⟩⟩⟩) (by decide +kernel)) ggX7_sack_X3_loudOf
theorem mx_X7_sack_14 : Cond.code yX3_soundsThatAre cX3_soundsThatAre 4 (some .int) ∈ wsX7_sack := by unfold wsX7_sack; exact List.mem_cons_of_mem _ (List.mem_append_left _ (List.mem_append_left _ (List.mem_of_getElem? (i := 13) rfl)))
theorem mx_X7_sack_16 : Cond.fieldLink RX3 24 "MillTalk$Level" "hows" "[I" ∈ wsX7_sack := by unfold wsX7_sack; exact List.mem_cons_of_mem _ (List.mem_append_left _ (List.mem_append_left _ (List.mem_of_getElem? (i := 15) rfl)))
theorem ggX7_sack_X3_soundsThatAre : GoodIn wsX7_sack wsX3_soundsThatAre := goodIn_sub (by unfold wsX3_soundsThatAre; exact List.forall_mem_cons.mpr ⟨mx_X7_sack_14, List.forall_mem_append.mpr ⟨List.forall_mem_cons.mpr ⟨mx_X7_sack_15, List.forall_mem_cons.mpr ⟨mx_X7_sack_16, fun _ h_ => absurd h_ List.not_mem_nil⟩⟩, (fun _ h_ => mb_X7_sack_wsX30 h_)⟩⟩) (by decide +kernel)
theorem mx_X7_sack_11 : Cond.methodLink RX7 185 yX3_soundsThatAre ∈ wsX7_sack := by unfold wsX7_sack; exact List.mem_cons_of_mem _ (List.mem_append_left _ (List.mem_append_left _ (List.mem_of_getElem? (i := 10) rfl)))
theorem mx_X7_sack_12 : Cond.instanceMethod yX3_soundsThatAre ∈ wsX7_sack := by unfold wsX7_sack; exact List.mem_cons_of_mem _ (List.mem_append_left _ (List.mem_append_left _ (List.mem_of_getElem? (i := 11) rfl)))
theorem mx_X7_sack_13 : Cond.selects RX3 yX3_soundsThatAre yX3_soundsThatAre ∈ wsX7_sack := by unfold wsX7_sack; exact List.mem_cons_of_mem _ (List.mem_append_left _ (List.mem_append_left _ (List.mem_of_getElem? (i := 12) rfl)))
theorem gX7_sack_X3_soundsThatAre : GoodIn wsX7_sack (wsV RX7 185 RX3 yX3_soundsThatAre wsX3_soundsThatAre) := goodIn_app (goodIn_sub (List.forall_mem_cons.mpr ⟨mx_X7_sack_11, List.forall_mem_cons.mpr ⟨mx_X7_sack_12, List.forall_mem_cons.mpr ⟨mx_X7_sack_13, List.forall_mem_cons.mpr ⟨mx_X7_sack_8, fun _ h_ => absurd h_ List.not_mem_nil⟩⟩⟩⟩) (by decide +kernel)) ggX7_sack_X3_soundsThatAre
theorem mx_X7_share_9 : Cond.code yX3_hasSound cX3_hasSound 2 (some .boolean) ∈ wsX7_share := by unfold wsX7_share; exact List.mem_cons_of_mem _ (List.mem_append_left _ (List.mem_append_left _ (List.mem_of_getElem? (i := 8) rfl)))
theorem mx_X7_share_10 : Cond.fieldLink RX3 49 "MillTalk$Level" "soundCount" "I" ∈ wsX7_share := by unfold wsX7_share; exact List.mem_cons_of_mem _ (List.mem_append_left _ (List.mem_append_left _ (List.mem_of_getElem? (i := 9) rfl)))
theorem mb_X7_share_wsX30 {w : Cond} (h : w ∈ wsX30) : w ∈ wsX7_share := by unfold wsX7_share; exact List.mem_cons_of_mem _ (List.mem_append_right _ (h))
theorem ggX7_share_X3_hasSound : GoodIn wsX7_share wsX3_hasSound := goodIn_sub (by unfold wsX3_hasSound; exact List.forall_mem_cons.mpr ⟨mx_X7_share_9, List.forall_mem_append.mpr ⟨List.forall_mem_cons.mpr ⟨mx_X7_share_10, fun _ h_ => absurd h_ List.not_mem_nil⟩, (fun _ h_ => mb_X7_share_wsX30 h_)⟩⟩) (by decide +kernel)
theorem mx_X7_share_5 : Cond.methodLink RX7 173 yX3_hasSound ∈ wsX7_share := by unfold wsX7_share; exact List.mem_cons_of_mem _ (List.mem_append_left _ (List.mem_append_left _ (List.mem_of_getElem? (i := 4) rfl)))
theorem mx_X7_share_6 : Cond.instanceMethod yX3_hasSound ∈ wsX7_share := by unfold wsX7_share; exact List.mem_cons_of_mem _ (List.mem_append_left _ (List.mem_append_left _ (List.mem_of_getElem? (i := 5) rfl)))
theorem mx_X7_share_7 : Cond.selects RX3 yX3_hasSound yX3_hasSound ∈ wsX7_share := by unfold wsX7_share; exact List.mem_cons_of_mem _ (List.mem_append_left _ (List.mem_append_left _ (List.mem_of_getElem? (i := 6) rfl)))
theorem mx_X7_share_8 : Cond.initialized RX3 ∈ wsX7_share := by unfold wsX7_share; exact List.mem_cons_of_mem _ (List.mem_append_left _ (List.mem_append_left _ (List.mem_of_getElem? (i := 7) rfl)))
theorem gX7_share_X3_hasSound : GoodIn wsX7_share (wsV RX7 173 RX3 yX3_hasSound wsX3_hasSound) := goodIn_app (goodIn_sub (List.forall_mem_cons.mpr ⟨mx_X7_share_5, List.forall_mem_cons.mpr ⟨mx_X7_share_6, List.forall_mem_cons.mpr ⟨mx_X7_share_7, List.forall_mem_cons.mpr ⟨mx_X7_share_8, fun _ h_ => absurd h_ List.not_mem_nil⟩⟩⟩⟩) (by decide +kernel)) ggX7_share_X3_hasSound
theorem mx_X7_share_24 : Cond.code yX3_isLoose cX3_isLoose 2 (some .boolean) ∈ wsX7_share := by unfold wsX7_share; exact List.mem_cons_of_mem _ (List.mem_append_left _ (List.mem_append_left _ (List.mem_of_getElem? (i := 23) rfl)))
theorem mx_X7_share_15 : Cond.fieldLink RX3 24 "MillTalk$Level" "hows" "[I" ∈ wsX7_share := by unfold wsX7_share; exact List.mem_cons_of_mem _ (List.mem_append_left _ (List.mem_append_left _ (List.mem_of_getElem? (i := 14) rfl)))
theorem ggX7_share_X3_isLoose : GoodIn wsX7_share wsX3_isLoose := goodIn_sub (by unfold wsX3_isLoose; exact List.forall_mem_cons.mpr ⟨mx_X7_share_24, List.forall_mem_append.mpr ⟨List.forall_mem_cons.mpr ⟨mx_X7_share_15, fun _ h_ => absurd h_ List.not_mem_nil⟩, (fun _ h_ => mb_X7_share_wsX30 h_)⟩⟩) (by decide +kernel)
theorem mx_X7_share_21 : Cond.methodLink RX7 179 yX3_isLoose ∈ wsX7_share := by unfold wsX7_share; exact List.mem_cons_of_mem _ (List.mem_append_left _ (List.mem_append_left _ (List.mem_of_getElem? (i := 20) rfl)))
theorem mx_X7_share_22 : Cond.instanceMethod yX3_isLoose ∈ wsX7_share := by unfold wsX7_share; exact List.mem_cons_of_mem _ (List.mem_append_left _ (List.mem_append_left _ (List.mem_of_getElem? (i := 21) rfl)))
theorem mx_X7_share_23 : Cond.selects RX3 yX3_isLoose yX3_isLoose ∈ wsX7_share := by unfold wsX7_share; exact List.mem_cons_of_mem _ (List.mem_append_left _ (List.mem_append_left _ (List.mem_of_getElem? (i := 22) rfl)))
theorem gX7_share_X3_isLoose : GoodIn wsX7_share (wsV RX7 179 RX3 yX3_isLoose wsX3_isLoose) := goodIn_app (goodIn_sub (List.forall_mem_cons.mpr ⟨mx_X7_share_21, List.forall_mem_cons.mpr ⟨mx_X7_share_22, List.forall_mem_cons.mpr ⟨mx_X7_share_23, List.forall_mem_cons.mpr ⟨mx_X7_share_8, fun _ h_ => absurd h_ List.not_mem_nil⟩⟩⟩⟩) (by decide +kernel)) ggX7_share_X3_isLoose
theorem mx_X7_share_19 : Cond.code yX3_loudOf cX3_loudOf 4 (some .int) ∈ wsX7_share := by unfold wsX7_share; exact List.mem_cons_of_mem _ (List.mem_append_left _ (List.mem_append_left _ (List.mem_of_getElem? (i := 18) rfl)))
theorem mx_X7_share_20 : Cond.fieldLink RX3 21 "MillTalk$Level" "louds" "[I" ∈ wsX7_share := by unfold wsX7_share; exact List.mem_cons_of_mem _ (List.mem_append_left _ (List.mem_append_left _ (List.mem_of_getElem? (i := 19) rfl)))
theorem ggX7_share_X3_loudOf : GoodIn wsX7_share wsX3_loudOf := goodIn_sub (by unfold wsX3_loudOf; exact List.forall_mem_cons.mpr ⟨mx_X7_share_19, List.forall_mem_append.mpr ⟨List.forall_mem_cons.mpr ⟨mx_X7_share_10, List.forall_mem_cons.mpr ⟨mx_X7_share_20, fun _ h_ => absurd h_ List.not_mem_nil⟩⟩, (fun _ h_ => mb_X7_share_wsX30 h_)⟩⟩) (by decide +kernel)
theorem mx_X7_share_16 : Cond.methodLink RX7 237 yX3_loudOf ∈ wsX7_share := by unfold wsX7_share; exact List.mem_cons_of_mem _ (List.mem_append_left _ (List.mem_append_left _ (List.mem_of_getElem? (i := 15) rfl)))
theorem mx_X7_share_17 : Cond.instanceMethod yX3_loudOf ∈ wsX7_share := by unfold wsX7_share; exact List.mem_cons_of_mem _ (List.mem_append_left _ (List.mem_append_left _ (List.mem_of_getElem? (i := 16) rfl)))
theorem mx_X7_share_18 : Cond.selects RX3 yX3_loudOf yX3_loudOf ∈ wsX7_share := by unfold wsX7_share; exact List.mem_cons_of_mem _ (List.mem_append_left _ (List.mem_append_left _ (List.mem_of_getElem? (i := 17) rfl)))
theorem gX7_share_X3_loudOf : GoodIn wsX7_share (wsV RX7 237 RX3 yX3_loudOf wsX3_loudOf) := goodIn_app (goodIn_sub (List.forall_mem_cons.mpr ⟨mx_X7_share_16, List.forall_mem_cons.mpr ⟨mx_X7_share_17, List.forall_mem_cons.mpr ⟨mx_X7_share_18, List.forall_mem_cons.mpr ⟨mx_X7_share_8, fun _ h_ => absurd h_ List.not_mem_nil⟩⟩⟩⟩) (by decide +kernel)) ggX7_share_X3_loudOf
theorem mx_X7_share_14 : Cond.code yX3_soundsThatAre cX3_soundsThatAre 4 (some .int) ∈ wsX7_share := by unfold wsX7_share; exact List.mem_cons_of_mem _ (List.mem_append_left _ (List.mem_append_left _ (List.mem_of_getElem? (i := 13) rfl)))
theorem ggX7_share_X3_soundsThatAre : GoodIn wsX7_share wsX3_soundsThatAre := goodIn_sub (by unfold wsX3_soundsThatAre; exact List.forall_mem_cons.mpr ⟨mx_X7_share_14, List.forall_mem_append.mpr ⟨List.forall_mem_cons.mpr ⟨mx_X7_share_10, List.forall_mem_cons.mpr ⟨mx_X7_share_15, fun _ h_ => absurd h_ List.not_mem_nil⟩⟩, (fun _ h_ => mb_X7_share_wsX30 h_)⟩⟩) (by decide +kernel)
theorem mx_X7_share_11 : Cond.methodLink RX7 185 yX3_soundsThatAre ∈ wsX7_share := by unfold wsX7_share; exact List.mem_cons_of_mem _ (List.mem_append_left _ (List.mem_append_left _ (List.mem_of_getElem? (i := 10) rfl)))
theorem mx_X7_share_12 : Cond.instanceMethod yX3_soundsThatAre ∈ wsX7_share := by unfold wsX7_share; exact List.mem_cons_of_mem _ (List.mem_append_left _ (List.mem_append_left _ (List.mem_of_getElem? (i := 11) rfl)))
theorem mx_X7_share_13 : Cond.selects RX3 yX3_soundsThatAre yX3_soundsThatAre ∈ wsX7_share := by unfold wsX7_share; exact List.mem_cons_of_mem _ (List.mem_append_left _ (List.mem_append_left _ (List.mem_of_getElem? (i := 12) rfl)))
theorem gX7_share_X3_soundsThatAre : GoodIn wsX7_share (wsV RX7 185 RX3 yX3_soundsThatAre wsX3_soundsThatAre) := goodIn_app (goodIn_sub (List.forall_mem_cons.mpr ⟨mx_X7_share_11, List.forall_mem_cons.mpr ⟨mx_X7_share_12, List.forall_mem_cons.mpr ⟨mx_X7_share_13, List.forall_mem_cons.mpr ⟨mx_X7_share_8, fun _ h_ => absurd h_ List.not_mem_nil⟩⟩⟩⟩) (by decide +kernel)) ggX7_share_X3_soundsThatAre
theorem mb_X7_sound_wsX7_sound_r1 {w : Cond} (h : w ∈ wsX7_sound_r1) : w ∈ wsX7_sound := by unfold wsX7_sound; exact List.mem_cons_of_mem _ (List.mem_append_left _ (List.mem_append_left _ (List.mem_append_left _ (h))))
theorem mx_X7_sound_19 : Cond.code yX3_driftOf cX3_driftOf 4 (some .int) ∈ wsX7_sound := mb_X7_sound_wsX7_sound_r1 (List.mem_of_getElem? (i := 18) rfl)
theorem mx_X7_sound_20 : Cond.fieldLink RX3 15 "MillTalk$Level" "kinds" "[I" ∈ wsX7_sound := mb_X7_sound_wsX7_sound_r1 (List.mem_of_getElem? (i := 19) rfl)
theorem mb_X7_sound_wsX30 {w : Cond} (h : w ∈ wsX30) : w ∈ wsX7_sound := by unfold wsX7_sound; exact List.mem_cons_of_mem _ (List.mem_append_right _ (h))
theorem ggX7_sound_X3_driftOf : GoodIn wsX7_sound wsX3_driftOf := goodIn_sub (by unfold wsX3_driftOf; exact List.forall_mem_cons.mpr ⟨mx_X7_sound_19, List.forall_mem_append.mpr ⟨List.forall_mem_cons.mpr ⟨mx_X7_sound_20, fun _ h_ => absurd h_ List.not_mem_nil⟩, (fun _ h_ => mb_X7_sound_wsX30 h_)⟩⟩) (by decide +kernel)
theorem mx_X7_sound_16 : Cond.methodLink RX7 191 yX3_driftOf ∈ wsX7_sound := mb_X7_sound_wsX7_sound_r1 (List.mem_of_getElem? (i := 15) rfl)
theorem mx_X7_sound_17 : Cond.instanceMethod yX3_driftOf ∈ wsX7_sound := mb_X7_sound_wsX7_sound_r1 (List.mem_of_getElem? (i := 16) rfl)
theorem mx_X7_sound_18 : Cond.selects RX3 yX3_driftOf yX3_driftOf ∈ wsX7_sound := mb_X7_sound_wsX7_sound_r1 (List.mem_of_getElem? (i := 17) rfl)
theorem mx_X7_sound_6 : Cond.initialized RX3 ∈ wsX7_sound := mb_X7_sound_wsX7_sound_r1 (List.mem_of_getElem? (i := 5) rfl)
theorem gX7_sound_X3_driftOf : GoodIn wsX7_sound (wsV RX7 191 RX3 yX3_driftOf wsX3_driftOf) := goodIn_app (goodIn_sub (List.forall_mem_cons.mpr ⟨mx_X7_sound_16, List.forall_mem_cons.mpr ⟨mx_X7_sound_17, List.forall_mem_cons.mpr ⟨mx_X7_sound_18, List.forall_mem_cons.mpr ⟨mx_X7_sound_6, fun _ h_ => absurd h_ List.not_mem_nil⟩⟩⟩⟩) (by decide +kernel)) ggX7_sound_X3_driftOf
theorem mx_X7_sound_7 : Cond.code yX3_hasSound cX3_hasSound 2 (some .boolean) ∈ wsX7_sound := mb_X7_sound_wsX7_sound_r1 (List.mem_of_getElem? (i := 6) rfl)
theorem mx_X7_sound_8 : Cond.fieldLink RX3 49 "MillTalk$Level" "soundCount" "I" ∈ wsX7_sound := mb_X7_sound_wsX7_sound_r1 (List.mem_of_getElem? (i := 7) rfl)
theorem ggX7_sound_X3_hasSound : GoodIn wsX7_sound wsX3_hasSound := goodIn_sub (by unfold wsX3_hasSound; exact List.forall_mem_cons.mpr ⟨mx_X7_sound_7, List.forall_mem_append.mpr ⟨List.forall_mem_cons.mpr ⟨mx_X7_sound_8, fun _ h_ => absurd h_ List.not_mem_nil⟩, (fun _ h_ => mb_X7_sound_wsX30 h_)⟩⟩) (by decide +kernel)
theorem mx_X7_sound_3 : Cond.methodLink RX7 173 yX3_hasSound ∈ wsX7_sound := mb_X7_sound_wsX7_sound_r1 (List.mem_of_getElem? (i := 2) rfl)
theorem mx_X7_sound_4 : Cond.instanceMethod yX3_hasSound ∈ wsX7_sound := mb_X7_sound_wsX7_sound_r1 (List.mem_of_getElem? (i := 3) rfl)
theorem mx_X7_sound_5 : Cond.selects RX3 yX3_hasSound yX3_hasSound ∈ wsX7_sound := mb_X7_sound_wsX7_sound_r1 (List.mem_of_getElem? (i := 4) rfl)
theorem gX7_sound_X3_hasSound : GoodIn wsX7_sound (wsV RX7 173 RX3 yX3_hasSound wsX3_hasSound) := goodIn_app (goodIn_sub (List.forall_mem_cons.mpr ⟨mx_X7_sound_3, List.forall_mem_cons.mpr ⟨mx_X7_sound_4, List.forall_mem_cons.mpr ⟨mx_X7_sound_5, List.forall_mem_cons.mpr ⟨mx_X7_sound_6, fun _ h_ => absurd h_ List.not_mem_nil⟩⟩⟩⟩) (by decide +kernel)) ggX7_sound_X3_hasSound
theorem mx_X7_sound_24 : Cond.code yX3_tellOf cX3_tellOf 3 (some .int) ∈ wsX7_sound := mb_X7_sound_wsX7_sound_r1 (List.mem_of_getElem? (i := 23) rfl)
theorem mb_X7_sound_wsX7_sound_r2 {w : Cond} (h : w ∈ wsX7_sound_r2) : w ∈ wsX7_sound := by unfold wsX7_sound; exact List.mem_cons_of_mem _ (List.mem_append_left _ (List.mem_append_left _ (List.mem_append_right _ (h))))
theorem mx_X7_sound_25 : Cond.fieldLink RX3 18 "MillTalk$Level" "places" "[I" ∈ wsX7_sound := mb_X7_sound_wsX7_sound_r2 (List.mem_of_getElem? (i := 0) rfl)
theorem mx_X7_sound_26 : Cond.constant RX3 62 (-1000000) ∈ wsX7_sound := mb_X7_sound_wsX7_sound_r2 (List.mem_of_getElem? (i := 1) rfl)
theorem mx_X7_sound_27 : Cond.fieldLink RX3 24 "MillTalk$Level" "hows" "[I" ∈ wsX7_sound := mb_X7_sound_wsX7_sound_r2 (List.mem_of_getElem? (i := 2) rfl)
theorem mx_X7_sound_28 : Cond.fieldLink RX3 21 "MillTalk$Level" "louds" "[I" ∈ wsX7_sound := mb_X7_sound_wsX7_sound_r2 (List.mem_of_getElem? (i := 3) rfl)
theorem mx_X7_sound_29 : Cond.methodLink RX3 58 yX3_isLoose ∈ wsX7_sound := mb_X7_sound_wsX7_sound_r2 (List.mem_of_getElem? (i := 4) rfl)
theorem mx_X7_sound_30 : Cond.instanceMethod yX3_isLoose ∈ wsX7_sound := mb_X7_sound_wsX7_sound_r2 (List.mem_of_getElem? (i := 5) rfl)
theorem mx_X7_sound_31 : Cond.selects RX3 yX3_isLoose yX3_isLoose ∈ wsX7_sound := mb_X7_sound_wsX7_sound_r2 (List.mem_of_getElem? (i := 6) rfl)
theorem mx_X7_sound_32 : Cond.code yX3_isLoose cX3_isLoose 2 (some .boolean) ∈ wsX7_sound := mb_X7_sound_wsX7_sound_r2 (List.mem_of_getElem? (i := 7) rfl)
theorem ggX7_sound_X3_tellOf : GoodIn wsX7_sound wsX3_tellOf := goodIn_sub (by unfold wsX3_tellOf; exact List.forall_mem_cons.mpr ⟨mx_X7_sound_24, List.forall_mem_append.mpr ⟨List.forall_mem_cons.mpr ⟨mx_X7_sound_25, List.forall_mem_cons.mpr ⟨mx_X7_sound_26, List.forall_mem_cons.mpr ⟨mx_X7_sound_27, List.forall_mem_cons.mpr ⟨mx_X7_sound_28, List.forall_mem_cons.mpr ⟨mx_X7_sound_29, List.forall_mem_cons.mpr ⟨mx_X7_sound_30, List.forall_mem_cons.mpr ⟨mx_X7_sound_31, List.forall_mem_cons.mpr ⟨mx_X7_sound_6, List.forall_mem_cons.mpr ⟨mx_X7_sound_32, fun _ h_ => absurd h_ List.not_mem_nil⟩⟩⟩⟩⟩⟩⟩⟩⟩, (fun _ h_ => mb_X7_sound_wsX30 h_)⟩⟩) (by decide +kernel)
theorem mx_X7_sound_21 : Cond.methodLink RX7 195 yX3_tellOf ∈ wsX7_sound := mb_X7_sound_wsX7_sound_r1 (List.mem_of_getElem? (i := 20) rfl)
theorem mx_X7_sound_22 : Cond.instanceMethod yX3_tellOf ∈ wsX7_sound := mb_X7_sound_wsX7_sound_r1 (List.mem_of_getElem? (i := 21) rfl)
theorem mx_X7_sound_23 : Cond.selects RX3 yX3_tellOf yX3_tellOf ∈ wsX7_sound := mb_X7_sound_wsX7_sound_r1 (List.mem_of_getElem? (i := 22) rfl)
theorem gX7_sound_X3_tellOf : GoodIn wsX7_sound (wsV RX7 195 RX3 yX3_tellOf wsX3_tellOf) := goodIn_app (goodIn_sub (List.forall_mem_cons.mpr ⟨mx_X7_sound_21, List.forall_mem_cons.mpr ⟨mx_X7_sound_22, List.forall_mem_cons.mpr ⟨mx_X7_sound_23, List.forall_mem_cons.mpr ⟨mx_X7_sound_6, fun _ h_ => absurd h_ List.not_mem_nil⟩⟩⟩⟩) (by decide +kernel)) ggX7_sound_X3_tellOf
theorem mx_X7_sound_12 : Cond.code yX3_windOn cX3_windOn 2 (some .int) ∈ wsX7_sound := mb_X7_sound_wsX7_sound_r1 (List.mem_of_getElem? (i := 11) rfl)
theorem mx_X7_sound_13 : Cond.fieldLink RX3 46 "MillTalk$Level" "windCount" "I" ∈ wsX7_sound := mb_X7_sound_wsX7_sound_r1 (List.mem_of_getElem? (i := 12) rfl)
theorem mx_X7_sound_14 : Cond.fieldLink RX3 9 "MillTalk$Level" "winds" "[I" ∈ wsX7_sound := mb_X7_sound_wsX7_sound_r1 (List.mem_of_getElem? (i := 13) rfl)
theorem mx_X7_sound_15 : Cond.fieldLink RX3 40 "MillTalk$Level" "hour" "I" ∈ wsX7_sound := mb_X7_sound_wsX7_sound_r1 (List.mem_of_getElem? (i := 14) rfl)
theorem ggX7_sound_X3_windOn : GoodIn wsX7_sound wsX3_windOn := goodIn_sub (by unfold wsX3_windOn; exact List.forall_mem_cons.mpr ⟨mx_X7_sound_12, List.forall_mem_append.mpr ⟨List.forall_mem_cons.mpr ⟨mx_X7_sound_13, List.forall_mem_cons.mpr ⟨mx_X7_sound_14, List.forall_mem_cons.mpr ⟨mx_X7_sound_15, fun _ h_ => absurd h_ List.not_mem_nil⟩⟩⟩, (fun _ h_ => mb_X7_sound_wsX30 h_)⟩⟩) (by decide +kernel)
theorem mx_X7_sound_9 : Cond.methodLink RX7 188 yX3_windOn ∈ wsX7_sound := mb_X7_sound_wsX7_sound_r1 (List.mem_of_getElem? (i := 8) rfl)
theorem mx_X7_sound_10 : Cond.instanceMethod yX3_windOn ∈ wsX7_sound := mb_X7_sound_wsX7_sound_r1 (List.mem_of_getElem? (i := 9) rfl)
theorem mx_X7_sound_11 : Cond.selects RX3 yX3_windOn yX3_windOn ∈ wsX7_sound := mb_X7_sound_wsX7_sound_r1 (List.mem_of_getElem? (i := 10) rfl)
theorem gX7_sound_X3_windOn : GoodIn wsX7_sound (wsV RX7 188 RX3 yX3_windOn wsX3_windOn) := goodIn_app (goodIn_sub (List.forall_mem_cons.mpr ⟨mx_X7_sound_9, List.forall_mem_cons.mpr ⟨mx_X7_sound_10, List.forall_mem_cons.mpr ⟨mx_X7_sound_11, List.forall_mem_cons.mpr ⟨mx_X7_sound_6, fun _ h_ => absurd h_ List.not_mem_nil⟩⟩⟩⟩) (by decide +kernel)) ggX7_sound_X3_windOn
theorem mx_X7_stand_12 : Cond.code yX3_isTold cX3_isTold 1 (some .boolean) ∈ wsX7_stand := by unfold wsX7_stand; exact List.mem_cons_of_mem _ (List.mem_append_left _ (List.mem_append_left _ (List.mem_of_getElem? (i := 11) rfl)))
theorem mx_X7_stand_13 : Cond.fieldLink RX3 27 "MillTalk$Level" "cells" "I" ∈ wsX7_stand := by unfold wsX7_stand; exact List.mem_cons_of_mem _ (List.mem_append_left _ (List.mem_append_left _ (List.mem_of_getElem? (i := 12) rfl)))
theorem mb_X7_stand_wsX30 {w : Cond} (h : w ∈ wsX30) : w ∈ wsX7_stand := by unfold wsX7_stand; exact List.mem_cons_of_mem _ (List.mem_append_right _ (h))
theorem ggX7_stand_X3_isTold : GoodIn wsX7_stand wsX3_isTold := goodIn_sub (by unfold wsX3_isTold; exact List.forall_mem_cons.mpr ⟨mx_X7_stand_12, List.forall_mem_append.mpr ⟨List.forall_mem_cons.mpr ⟨mx_X7_stand_13, fun _ h_ => absurd h_ List.not_mem_nil⟩, (fun _ h_ => mb_X7_stand_wsX30 h_)⟩⟩) (by decide +kernel)
theorem mx_X7_stand_8 : Cond.methodLink RX7 145 yX3_isTold ∈ wsX7_stand := by unfold wsX7_stand; exact List.mem_cons_of_mem _ (List.mem_append_left _ (List.mem_append_left _ (List.mem_of_getElem? (i := 7) rfl)))
theorem mx_X7_stand_9 : Cond.instanceMethod yX3_isTold ∈ wsX7_stand := by unfold wsX7_stand; exact List.mem_cons_of_mem _ (List.mem_append_left _ (List.mem_append_left _ (List.mem_of_getElem? (i := 8) rfl)))
theorem mx_X7_stand_10 : Cond.selects RX3 yX3_isTold yX3_isTold ∈ wsX7_stand := by unfold wsX7_stand; exact List.mem_cons_of_mem _ (List.mem_append_left _ (List.mem_append_left _ (List.mem_of_getElem? (i := 9) rfl)))
theorem mx_X7_stand_11 : Cond.initialized RX3 ∈ wsX7_stand := by unfold wsX7_stand; exact List.mem_cons_of_mem _ (List.mem_append_left _ (List.mem_append_left _ (List.mem_of_getElem? (i := 10) rfl)))
theorem gX7_stand_X3_isTold : GoodIn wsX7_stand (wsV RX7 145 RX3 yX3_isTold wsX3_isTold) := goodIn_app (goodIn_sub (List.forall_mem_cons.mpr ⟨mx_X7_stand_8, List.forall_mem_cons.mpr ⟨mx_X7_stand_9, List.forall_mem_cons.mpr ⟨mx_X7_stand_10, List.forall_mem_cons.mpr ⟨mx_X7_stand_11, fun _ h_ => absurd h_ List.not_mem_nil⟩⟩⟩⟩) (by decide +kernel)) ggX7_stand_X3_isTold
theorem mx_X7_stand_17 : Cond.code yX3_soundsThatAre cX3_soundsThatAre 4 (some .int) ∈ wsX7_stand := by unfold wsX7_stand; exact List.mem_cons_of_mem _ (List.mem_append_left _ (List.mem_append_left _ (List.mem_of_getElem? (i := 16) rfl)))
theorem mx_X7_stand_18 : Cond.fieldLink RX3 49 "MillTalk$Level" "soundCount" "I" ∈ wsX7_stand := by unfold wsX7_stand; exact List.mem_cons_of_mem _ (List.mem_append_left _ (List.mem_append_left _ (List.mem_of_getElem? (i := 17) rfl)))
theorem mx_X7_stand_19 : Cond.fieldLink RX3 24 "MillTalk$Level" "hows" "[I" ∈ wsX7_stand := by unfold wsX7_stand; exact List.mem_cons_of_mem _ (List.mem_append_left _ (List.mem_append_left _ (List.mem_of_getElem? (i := 18) rfl)))
theorem ggX7_stand_X3_soundsThatAre : GoodIn wsX7_stand wsX3_soundsThatAre := goodIn_sub (by unfold wsX3_soundsThatAre; exact List.forall_mem_cons.mpr ⟨mx_X7_stand_17, List.forall_mem_append.mpr ⟨List.forall_mem_cons.mpr ⟨mx_X7_stand_18, List.forall_mem_cons.mpr ⟨mx_X7_stand_19, fun _ h_ => absurd h_ List.not_mem_nil⟩⟩, (fun _ h_ => mb_X7_stand_wsX30 h_)⟩⟩) (by decide +kernel)
theorem mx_X7_stand_14 : Cond.methodLink RX7 185 yX3_soundsThatAre ∈ wsX7_stand := by unfold wsX7_stand; exact List.mem_cons_of_mem _ (List.mem_append_left _ (List.mem_append_left _ (List.mem_of_getElem? (i := 13) rfl)))
theorem mx_X7_stand_15 : Cond.instanceMethod yX3_soundsThatAre ∈ wsX7_stand := by unfold wsX7_stand; exact List.mem_cons_of_mem _ (List.mem_append_left _ (List.mem_append_left _ (List.mem_of_getElem? (i := 14) rfl)))
theorem mx_X7_stand_16 : Cond.selects RX3 yX3_soundsThatAre yX3_soundsThatAre ∈ wsX7_stand := by unfold wsX7_stand; exact List.mem_cons_of_mem _ (List.mem_append_left _ (List.mem_append_left _ (List.mem_of_getElem? (i := 15) rfl)))
theorem gX7_stand_X3_soundsThatAre : GoodIn wsX7_stand (wsV RX7 185 RX3 yX3_soundsThatAre wsX3_soundsThatAre) := goodIn_app (goodIn_sub (List.forall_mem_cons.mpr ⟨mx_X7_stand_14, List.forall_mem_cons.mpr ⟨mx_X7_stand_15, List.forall_mem_cons.mpr ⟨mx_X7_stand_16, List.forall_mem_cons.mpr ⟨mx_X7_stand_11, fun _ h_ => absurd h_ List.not_mem_nil⟩⟩⟩⟩) (by decide +kernel)) ggX7_stand_X3_soundsThatAre
theorem mb_X7_count_wsX00 {w : Cond} (h : w ∈ wsX00) : w ∈ wsX7_count := by unfold wsX7_count; exact List.mem_cons_of_mem _ (List.mem_append_left _ (List.mem_append_left _ (List.mem_append_right _ (h))))
theorem i_X7_count_X0 : ∀ w ∈ u_ws RX0 TX0 3, w ∈ wsX7_count := fun _ h_ => mb_X7_count_wsX00 h_
theorem i_X7_count_X3 : ∀ w ∈ u_ws RX3 TX3 13, w ∈ wsX7_count := fun _ h_ => mb_X7_count_wsX30 h_
theorem mb_X7_count_wsX60 {w : Cond} (h : w ∈ wsX60) : w ∈ wsX7_count := by unfold wsX7_count; exact List.mem_cons_of_mem _ (List.mem_append_left _ (List.mem_append_right _ (h)))
theorem i_X7_count_X6 : ∀ w ∈ u_ws RX6 TX6 6, w ∈ wsX7_count := fun _ h_ => mb_X7_count_wsX60 h_
theorem mb_X7_count_wsX70 {w : Cond} (h : w ∈ wsX70) : w ∈ wsX7_count := by unfold wsX7_count; exact List.mem_cons_of_mem _ (List.mem_append_left _ (List.mem_append_left _ (List.mem_append_left _ (List.mem_append_left _ (List.mem_append_right _ (h))))))
theorem i_X7_count_X7 : ∀ w ∈ u_ws RX7 TX7 11, w ∈ wsX7_count := fun _ h_ => mb_X7_count_wsX70 h_
theorem mb_X7_fault_wsX70 {w : Cond} (h : w ∈ wsX70) : w ∈ wsX7_fault := by unfold wsX7_fault; exact List.mem_cons_of_mem _ (List.mem_append_right _ (h))
theorem i_X7_fault_X7 : ∀ w ∈ u_ws RX7 TX7 11, w ∈ wsX7_fault := fun _ h_ => mb_X7_fault_wsX70 h_
theorem mb_X7_found_wsX70 {w : Cond} (h : w ∈ wsX70) : w ∈ wsX7_found := by unfold wsX7_found; exact List.mem_cons_of_mem _ (List.mem_append_right _ (h))
theorem i_X7_found_X7 : ∀ w ∈ u_ws RX7 TX7 11, w ∈ wsX7_found := fun _ h_ => mb_X7_found_wsX70 h_
theorem mb_X7_foundNothing_wsX70 {w : Cond} (h : w ∈ wsX70) : w ∈ wsX7_foundNothing := by unfold wsX7_foundNothing; exact List.mem_cons_of_mem _ (List.mem_append_right _ (h))
theorem i_X7_foundNothing_X7 : ∀ w ∈ u_ws RX7 TX7 11, w ∈ wsX7_foundNothing := fun _ h_ => mb_X7_foundNothing_wsX70 h_
theorem mb_X7_gust_wsX70 {w : Cond} (h : w ∈ wsX70) : w ∈ wsX7_gust := by unfold wsX7_gust; exact List.mem_cons_of_mem _ (List.mem_append_left _ (List.mem_append_right _ (h)))
theorem i_X7_gust_X7 : ∀ w ∈ u_ws RX7 TX7 11, w ∈ wsX7_gust := fun _ h_ => mb_X7_gust_wsX70 h_
theorem i_X7_kind_X3 : ∀ w ∈ u_ws RX3 TX3 13, w ∈ wsX7_kind := fun _ h_ => mb_X7_kind_wsX30 h_
theorem mb_X7_kind_wsX70 {w : Cond} (h : w ∈ wsX70) : w ∈ wsX7_kind := by unfold wsX7_kind; exact List.mem_cons_of_mem _ (List.mem_append_left _ (List.mem_append_right _ (h)))
theorem i_X7_kind_X7 : ∀ w ∈ u_ws RX7 TX7 11, w ∈ wsX7_kind := fun _ h_ => mb_X7_kind_wsX70 h_
theorem i_X7_sack_X3 : ∀ w ∈ u_ws RX3 TX3 13, w ∈ wsX7_sack := fun _ h_ => mb_X7_sack_wsX30 h_
theorem mb_X7_sack_wsX70 {w : Cond} (h : w ∈ wsX70) : w ∈ wsX7_sack := by unfold wsX7_sack; exact List.mem_cons_of_mem _ (List.mem_append_left _ (List.mem_append_right _ (h)))
theorem i_X7_sack_X7 : ∀ w ∈ u_ws RX7 TX7 11, w ∈ wsX7_sack := fun _ h_ => mb_X7_sack_wsX70 h_
theorem i_X7_share_X3 : ∀ w ∈ u_ws RX3 TX3 13, w ∈ wsX7_share := fun _ h_ => mb_X7_share_wsX30 h_
theorem mb_X7_share_wsX70 {w : Cond} (h : w ∈ wsX70) : w ∈ wsX7_share := by unfold wsX7_share; exact List.mem_cons_of_mem _ (List.mem_append_left _ (List.mem_append_right _ (h)))
theorem i_X7_share_X7 : ∀ w ∈ u_ws RX7 TX7 11, w ∈ wsX7_share := fun _ h_ => mb_X7_share_wsX70 h_
theorem mb_X7_sound_wsX70 {w : Cond} (h : w ∈ wsX70) : w ∈ wsX7_sound := by unfold wsX7_sound; exact List.mem_cons_of_mem _ (List.mem_append_left _ (List.mem_append_right _ (h)))
theorem i_X7_sound_X7 : ∀ w ∈ u_ws RX7 TX7 11, w ∈ wsX7_sound := fun _ h_ => mb_X7_sound_wsX70 h_
theorem i_X7_stand_X3 : ∀ w ∈ u_ws RX3 TX3 13, w ∈ wsX7_stand := fun _ h_ => mb_X7_stand_wsX30 h_
theorem mb_X7_stand_wsX70 {w : Cond} (h : w ∈ wsX70) : w ∈ wsX7_stand := by unfold wsX7_stand; exact List.mem_cons_of_mem _ (List.mem_append_left _ (List.mem_append_right _ (h)))
theorem i_X7_stand_X7 : ∀ w ∈ u_ws RX7 TX7 11, w ∈ wsX7_stand := fun _ h_ => mb_X7_stand_wsX70 h_
theorem mb_X7_status_wsX70 {w : Cond} (h : w ∈ wsX70) : w ∈ wsX7_status := by unfold wsX7_status; exact List.mem_cons_of_mem _ (List.mem_append_right _ (h))
theorem i_X7_status_X7 : ∀ w ∈ u_ws RX7 TX7 11, w ∈ wsX7_status := fun _ h_ => mb_X7_status_wsX70 h_
theorem mb_X7_trace_wsX10 {w : Cond} (h : w ∈ wsX10) : w ∈ wsX7_trace := by unfold wsX7_trace; exact List.mem_cons_of_mem _ (List.mem_append_right _ (h))
theorem i_X7_trace_X1 : ∀ w ∈ u_ws RX1 TX1 6, w ∈ wsX7_trace := fun _ h_ => mb_X7_trace_wsX10 h_
theorem mb_X7_trace_wsX70 {w : Cond} (h : w ∈ wsX70) : w ∈ wsX7_trace := by unfold wsX7_trace; exact List.mem_cons_of_mem _ (List.mem_append_left _ (List.mem_append_right _ (h)))
theorem i_X7_trace_X7 : ∀ w ∈ u_ws RX7 TX7 11, w ∈ wsX7_trace := fun _ h_ => mb_X7_trace_wsX70 h_
theorem mx_X7_found_1 : Cond.fieldLink RX7 323 "MillTalk" "latestFinding" "I" ∈ wsX7_found := by unfold wsX7_found; exact List.mem_cons_of_mem _ (List.mem_append_left _ (List.mem_of_getElem? (i := 0) rfl))
theorem mx_X7_found_2 : Cond.constant RX7 326 (-1000010) ∈ wsX7_found := by unfold wsX7_found; exact List.mem_cons_of_mem _ (List.mem_append_left _ (List.mem_of_getElem? (i := 1) rfl))
theorem mx_X7_foundNothing_1 : Cond.fieldLink RX7 323 "MillTalk" "latestFinding" "I" ∈ wsX7_foundNothing := by unfold wsX7_foundNothing; exact List.mem_cons_of_mem _ (List.mem_append_left _ (List.mem_of_getElem? (i := 0) rfl))
theorem mx_X7_isOfKind_1 : Cond.fieldLink RX7 327 "MillTalk" "NEXT_KIND" "[I" ∈ wsX7_isOfKind := by unfold wsX7_isOfKind; exact List.mem_cons_of_mem _ (List.mem_of_getElem? (i := 0) rfl)
theorem mx_X7_fault_1 : Cond.fieldLink RX7 117 "MillTalk" "latestFault" "I" ∈ wsX7_fault := by unfold wsX7_fault; exact List.mem_cons_of_mem _ (List.mem_append_left _ (List.mem_of_getElem? (i := 0) rfl))
theorem mx_X7_status_1 : Cond.fieldLink RX7 323 "MillTalk" "latestFinding" "I" ∈ wsX7_status := by unfold wsX7_status; exact List.mem_cons_of_mem _ (List.mem_append_left _ (List.mem_of_getElem? (i := 0) rfl))
theorem mx_X7_kind_1 : Cond.fieldLink RX7 26 "MillTalk" "now" "LMillTalk$Level;" ∈ wsX7_kind := by unfold wsX7_kind; exact List.mem_cons_of_mem _ (List.mem_append_left _ (List.mem_append_left _ (List.mem_of_getElem? (i := 0) rfl)))
theorem mx_X7_kind_3 : Cond.constant RX7 72 (-1000001) ∈ wsX7_kind := by unfold wsX7_kind; exact List.mem_cons_of_mem _ (List.mem_append_left _ (List.mem_append_left _ (List.mem_of_getElem? (i := 2) rfl)))
theorem mx_X7_kind_2 : Cond.fieldLink RX7 301 "MillTalk$Level" "kinds" "[I" ∈ wsX7_kind := by unfold wsX7_kind; exact List.mem_cons_of_mem _ (List.mem_append_left _ (List.mem_append_left _ (List.mem_of_getElem? (i := 1) rfl)))
theorem mx_X7_stand_1 : Cond.fieldLink RX7 26 "MillTalk" "now" "LMillTalk$Level;" ∈ wsX7_stand := by unfold wsX7_stand; exact List.mem_cons_of_mem _ (List.mem_append_left _ (List.mem_append_left _ (List.mem_of_getElem? (i := 0) rfl)))
theorem mx_X7_stand_2 : Cond.constant RX7 141 (-1000002) ∈ wsX7_stand := by unfold wsX7_stand; exact List.mem_cons_of_mem _ (List.mem_append_left _ (List.mem_append_left _ (List.mem_of_getElem? (i := 1) rfl)))
theorem mx_X7_stand_3 : Cond.fieldLink RX7 198 "MillTalk$Level" "cells" "I" ∈ wsX7_stand := by unfold wsX7_stand; exact List.mem_cons_of_mem _ (List.mem_append_left _ (List.mem_append_left _ (List.mem_of_getElem? (i := 2) rfl)))
theorem mx_X7_stand_4 : Cond.fieldLink RX7 201 "MillTalk$Level" "mill" "I" ∈ wsX7_stand := by unfold wsX7_stand; exact List.mem_cons_of_mem _ (List.mem_append_left _ (List.mem_append_left _ (List.mem_of_getElem? (i := 3) rfl)))
theorem mx_X7_stand_5 : Cond.fieldLink RX7 204 "MillTalk$Level" "reach" "I" ∈ wsX7_stand := by unfold wsX7_stand; exact List.mem_cons_of_mem _ (List.mem_append_left _ (List.mem_append_left _ (List.mem_of_getElem? (i := 4) rfl)))
theorem mx_X7_stand_6 : Cond.fieldLink RX7 163 "MillTalk$Level" "cap" "I" ∈ wsX7_stand := by unfold wsX7_stand; exact List.mem_cons_of_mem _ (List.mem_append_left _ (List.mem_append_left _ (List.mem_of_getElem? (i := 5) rfl)))
theorem mx_X7_stand_7 : Cond.constant RX7 72 (-1000001) ∈ wsX7_stand := by unfold wsX7_stand; exact List.mem_cons_of_mem _ (List.mem_append_left _ (List.mem_append_left _ (List.mem_of_getElem? (i := 6) rfl)))
theorem mx_X7_gust_1 : Cond.fieldLink RX7 26 "MillTalk" "now" "LMillTalk$Level;" ∈ wsX7_gust := by unfold wsX7_gust; exact List.mem_cons_of_mem _ (List.mem_append_left _ (List.mem_append_left _ (List.mem_of_getElem? (i := 0) rfl)))
theorem mx_X7_gust_2 : Cond.constant RX7 141 (-1000002) ∈ wsX7_gust := by unfold wsX7_gust; exact List.mem_cons_of_mem _ (List.mem_append_left _ (List.mem_append_left _ (List.mem_of_getElem? (i := 1) rfl)))
theorem mx_X7_gust_3 : Cond.constant RX7 72 (-1000001) ∈ wsX7_gust := by unfold wsX7_gust; exact List.mem_cons_of_mem _ (List.mem_append_left _ (List.mem_append_left _ (List.mem_of_getElem? (i := 2) rfl)))
theorem mx_X7_sound_1 : Cond.fieldLink RX7 26 "MillTalk" "now" "LMillTalk$Level;" ∈ wsX7_sound := mb_X7_sound_wsX7_sound_r1 (List.mem_of_getElem? (i := 0) rfl)
theorem mx_X7_sound_2 : Cond.constant RX7 72 (-1000001) ∈ wsX7_sound := mb_X7_sound_wsX7_sound_r1 (List.mem_of_getElem? (i := 1) rfl)
theorem mx_X7_share_1 : Cond.fieldLink RX7 26 "MillTalk" "now" "LMillTalk$Level;" ∈ wsX7_share := by unfold wsX7_share; exact List.mem_cons_of_mem _ (List.mem_append_left _ (List.mem_append_left _ (List.mem_of_getElem? (i := 0) rfl)))
theorem mx_X7_share_2 : Cond.constant RX7 72 (-1000001) ∈ wsX7_share := by unfold wsX7_share; exact List.mem_cons_of_mem _ (List.mem_append_left _ (List.mem_append_left _ (List.mem_of_getElem? (i := 1) rfl)))
theorem mx_X7_share_3 : Cond.fieldLink RX7 135 "MillTalk$Level" "soundCount" "I" ∈ wsX7_share := by unfold wsX7_share; exact List.mem_cons_of_mem _ (List.mem_append_left _ (List.mem_append_left _ (List.mem_of_getElem? (i := 2) rfl)))
theorem mx_X7_share_4 : Cond.fieldLink RX7 240 "MillTalk$Level" "louds" "[I" ∈ wsX7_share := by unfold wsX7_share; exact List.mem_cons_of_mem _ (List.mem_append_left _ (List.mem_append_left _ (List.mem_of_getElem? (i := 3) rfl)))
theorem mx_X7_sack_1 : Cond.fieldLink RX7 26 "MillTalk" "now" "LMillTalk$Level;" ∈ wsX7_sack := by unfold wsX7_sack; exact List.mem_cons_of_mem _ (List.mem_append_left _ (List.mem_append_left _ (List.mem_of_getElem? (i := 0) rfl)))
theorem mx_X7_sack_2 : Cond.constant RX7 141 (-1000002) ∈ wsX7_sack := by unfold wsX7_sack; exact List.mem_cons_of_mem _ (List.mem_append_left _ (List.mem_append_left _ (List.mem_of_getElem? (i := 1) rfl)))
theorem mx_X7_sack_3 : Cond.constant RX7 72 (-1000001) ∈ wsX7_sack := by unfold wsX7_sack; exact List.mem_cons_of_mem _ (List.mem_append_left _ (List.mem_append_left _ (List.mem_of_getElem? (i := 2) rfl)))
theorem mx_X7_sack_4 : Cond.fieldLink RX7 135 "MillTalk$Level" "soundCount" "I" ∈ wsX7_sack := by unfold wsX7_sack; exact List.mem_cons_of_mem _ (List.mem_append_left _ (List.mem_append_left _ (List.mem_of_getElem? (i := 3) rfl)))
theorem mx_X7_trace_4 : Cond.constant RX7 220 (-1000000) ∈ wsX7_trace := by unfold wsX7_trace; exact List.mem_cons_of_mem _ (List.mem_append_left _ (List.mem_append_left _ (List.mem_of_getElem? (i := 3) rfl)))
theorem mx_X7_trace_1 : Cond.fieldLink RX7 61 "MillTalk" "asks" "LMillTalk$Asks;" ∈ wsX7_trace := by unfold wsX7_trace; exact List.mem_cons_of_mem _ (List.mem_append_left _ (List.mem_append_left _ (List.mem_of_getElem? (i := 0) rfl)))
theorem mx_X7_trace_2 : Cond.fieldLink RX7 313 "MillTalk$Asks" "traced" "I" ∈ wsX7_trace := by unfold wsX7_trace; exact List.mem_cons_of_mem _ (List.mem_append_left _ (List.mem_append_left _ (List.mem_of_getElem? (i := 1) rfl)))
theorem mx_X7_trace_3 : Cond.fieldLink RX7 316 "MillTalk$Asks" "trace" "[I" ∈ wsX7_trace := by unfold wsX7_trace; exact List.mem_cons_of_mem _ (List.mem_append_left _ (List.mem_append_left _ (List.mem_of_getElem? (i := 2) rfl)))
theorem mx_J6_bitCount_0f7a4_1 : Cond.constant RJ6 265 (1431655765) ∈ wsJ6_bitCount_0f7a4 := by unfold wsJ6_bitCount_0f7a4; exact List.mem_cons_of_mem _ (List.mem_of_getElem? (i := 0) rfl)
theorem mx_J6_bitCount_0f7a4_2 : Cond.constant RJ6 266 (858993459) ∈ wsJ6_bitCount_0f7a4 := by unfold wsJ6_bitCount_0f7a4; exact List.mem_cons_of_mem _ (List.mem_of_getElem? (i := 1) rfl)
theorem mx_J6_bitCount_0f7a4_3 : Cond.constant RJ6 267 (252645135) ∈ wsJ6_bitCount_0f7a4 := by unfold wsJ6_bitCount_0f7a4; exact List.mem_cons_of_mem _ (List.mem_of_getElem? (i := 2) rfl)
theorem mx_X7_count_1 : Cond.fieldLink RX7 10 "MillTalk" "rows" "LMillTalk$Rows;" ∈ wsX7_count := mb_X7_count_wsX7_count_r1 (List.mem_of_getElem? (i := 0) rfl)
theorem mx_X7_count_2 : Cond.fieldLink RX7 26 "MillTalk" "now" "LMillTalk$Level;" ∈ wsX7_count := mb_X7_count_wsX7_count_r1 (List.mem_of_getElem? (i := 1) rfl)
theorem mx_X7_count_3 : Cond.fieldLink RX7 135 "MillTalk$Level" "soundCount" "I" ∈ wsX7_count := mb_X7_count_wsX7_count_r1 (List.mem_of_getElem? (i := 2) rfl)
theorem mx_X7_count_4 : Cond.fieldLink RX7 269 "MillTalk$Level" "windCount" "I" ∈ wsX7_count := mb_X7_count_wsX7_count_r1 (List.mem_of_getElem? (i := 3) rfl)
theorem mx_X7_count_5 : Cond.fieldLink RX7 148 "MillTalk$Level" "hour" "I" ∈ wsX7_count := mb_X7_count_wsX7_count_r1 (List.mem_of_getElem? (i := 4) rfl)
theorem mx_X7_count_6 : Cond.fieldLink RX7 157 "MillTalk$Level" "meal" "I" ∈ wsX7_count := mb_X7_count_wsX7_count_r1 (List.mem_of_getElem? (i := 5) rfl)
theorem mx_X7_count_7 : Cond.fieldLink RX7 33 "MillTalk" "acts" "LMillTalk$Acts;" ∈ wsX7_count := mb_X7_count_wsX7_count_r1 (List.mem_of_getElem? (i := 6) rfl)
theorem mx_X7_count_8 : Cond.fieldLink RX7 138 "MillTalk$Acts" "size" "I" ∈ wsX7_count := mb_X7_count_wsX7_count_r1 (List.mem_of_getElem? (i := 7) rfl)
theorem mx_X7_count_9 : Cond.fieldLink RX7 19 "MillTalk" "tape" "LMillTalk$Tape;" ∈ wsX7_count := mb_X7_count_wsX7_count_r1 (List.mem_of_getElem? (i := 8) rfl)
theorem mx_X7_count_10 : Cond.fieldLink RX7 322 "MillTalk$Tape" "size" "I" ∈ wsX7_count := mb_X7_count_wsX7_count_r1 (List.mem_of_getElem? (i := 9) rfl)
theorem mx_X7_count_11 : Cond.constant RX7 72 (-1000001) ∈ wsX7_count := mb_X7_count_wsX7_count_r1 (List.mem_of_getElem? (i := 10) rfl)
