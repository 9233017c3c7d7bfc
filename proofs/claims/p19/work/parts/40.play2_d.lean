/-! by turns -/
noncomputable def tgC (r : RF) : RF := upd r 6 (1 - r 6)
noncomputable def nwI (r : RF) : Nat := 8 + (r 5).toNatClampNeg % (r 3).toNatClampNeg
noncomputable def tgW (r : RF) : RF := upd r (nwI r) (4 - r (nwI r))
noncomputable def cmb (b : Bool) (x y : Int32) : Int32 := if b = true then (if x < y then y else x) else (if y < x then y else x)
noncomputable def tgP (b : Bool) (r : RF) : RF := if b = true then tgC r else tgW r
noncomputable def btV (m : Nat) : Nat → Bool → RF → Int32
  | 0, _, r => mGo m r 7
  | n + 1, b, r => cmb b (btV m n (!b) r) (btV m n (!b) (tgP b r))
theorem sub_2 (a x : Int32) : a - (a - x) = x := by grind
theorem tw_2 {g1 : RF} {ww hh : Nat} : twX (twX g1 ww hh) ww hh = g1 := by
  unfold twX
  split
  · rfl
  · rename_i h
    funext q
    by_cases e : q = hh % ww
    · rw [e, pk_us, pk_us, sub_2]
    · rw [pk_un e, pk_un e]
section PLP
variable {v0 v1 v2 v3 v5 a b : Int32} {hh ww kk : Nat} {g1 g2 g3 g4 g5 f g : RF}
theorem pl_s (hN : okN 999 (nrm v0 v1 v2 v3 hh v5 ww kk g1 g2 g3 g4 g5)) (e1 : a = v3) (e2 : f = g1) : nrm v0 v1 v2 a hh v5 ww kk f g2 g3 g4 g5 = nrm v0 v1 v2 v3 hh v5 ww kk g1 g2 g3 g4 g5 := by rw [e1, e2]
theorem pl_c (hN : okN 999 (nrm v0 v1 v2 v3 hh v5 ww kk g1 g2 g3 g4 g5)) (e1 : a = v3) (e2 : f = g1) (e3 : b = 1 - a) : nrm v0 v1 v2 b hh v5 ww kk f g2 g3 g4 g5 = tgP true (nrm v0 v1 v2 v3 hh v5 ww kk g1 g2 g3 g4 g5) := by
  show _ = upd (nrm v0 v1 v2 v3 hh v5 ww kk g1 g2 g3 g4 g5) 6 (1 - nrm v0 v1 v2 v3 hh v5 ww kk g1 g2 g3 g4 g5 6)
  rw [nr6, nru6, e3, e1, e2]
theorem pl_w (hN : okN 999 (nrm v0 v1 v2 v3 hh v5 ww kk g1 g2 g3 g4 g5)) (hw : ww ≤ 6) (hk : kk ≤ 6) (hH : hh ≤ 999) (e1 : a = v3) (e2 : f = g1) (e3 : g = twX f ww hh) : nrm v0 v1 v2 a hh v5 ww kk g g2 g3 g4 g5 = tgP false (nrm v0 v1 v2 v3 hh v5 ww kk g1 g2 g3 g4 g5) := by
  obtain ⟨_, _, _, _, _, _, _, _, _, _, _, _, _, -, -, -, -, hr⟩ := hN
  obtain ⟨c, m, re, ca, me, -, B, -, -⟩ := okRow_X hr hw hk (by omega)
  have h1 : ¬ ww = 0 := by omega
  have hm : hh % ww < ww := Nat.mod_lt _ (by omega)
  have e5 : (nI hh).toNatClampNeg = hh := nI_clamp (by omega)
  have e6 : (nI ww).toNatClampNeg = ww := nI_clamp (by omega)
  have en : nwI (nrm v0 v1 v2 v3 hh v5 ww kk g1 g2 g3 g4 g5) = 8 + hh % ww := by
    unfold nwI
    rw [nr5, nr3, e5, e6]
  show _ = tgW (nrm v0 v1 v2 v3 hh v5 ww kk g1 g2 g3 g4 g5)
  unfold tgW
  rw [en, nrg1 hm hw, nrug1 hm hw, e1, e3, e2]
  unfold twX
  rw [if_neg h1]
end PLP
theorem tgC_ok {r : RF} (h : okN 999 r) : okN 999 (tgC r) := cap_ok h
theorem tgW_ok {r : RF} (h : okN 999 r) : okN 999 (tgW r) := by
  obtain ⟨v0, v1, v2, v3, hh, v5, ww, kk, g1, g2, g3, g4, g5, c, m, re, ca, me, rfl, a, b, kb, E, B, W, S⟩ := okN_X h
  have hm : hh % ww < ww := Nat.mod_lt _ (by omega)
  have e5 : (nI hh).toNatClampNeg = hh := nI_clamp (by omega)
  have e6 : (nI ww).toNatClampNeg = ww := nI_clamp (by omega)
  have en : nwI (nrm v0 v1 v2 v3 hh v5 ww kk g1 g2 g3 g4 g5) = 8 + hh % ww := by
    unfold nwI
    rw [nr5, nr3, e5, e6]
  obtain ⟨x, hx, ex⟩ := W _ hm
  unfold tgW
  rw [en, nrg1 hm b, ex, show (4 : Int32) - nI x = nI (4 - x) from pk_sub (a := 4) hx]
  exact ok_wnd h nr3 b hm (by omega)
theorem tgP_ok {r : RF} (b : Bool) (h : okN 999 r) : okN 999 (tgP b r) := by
  cases b
  · exact tgW_ok h
  · exact tgC_ok h
noncomputable def a_byt (r : RF) (n m : Int32) : Int32 := if r 0 = 0 then -1000002 else if (n < 0 ∨ 4 < n) ∨ (m < 1 ∨ 20 < m) then -1000001 else btV m.toNatClampNeg n.toNatClampNeg true r
theorem byt_0 {r : RF} {n m : Int32} (h : r 0 = 0) : (-1000002 : Int32) = a_byt r n m := by
  unfold a_byt
  rw [if_pos h]
theorem byt_n {r : RF} {n m : Int32} (h0 : ¬ r 0 = 0) (h : (n < 0 ∨ 4 < n) ∨ (m < 1 ∨ 20 < m)) : (-1000001 : Int32) = a_byt r n m := by
  unfold a_byt
  rw [if_neg h0, if_pos h]
theorem byt_g {r : RF} {n m : Nat} (h0 : ¬ r 0 = 0) (h : ¬ ((nI n < 0 ∨ 4 < nI n) ∨ (nI m < 1 ∨ 20 < nI m))) (hn : n ≤ 4) (hm : m ≤ 20) : a_byt r (nI n) (nI m) = btV m n true r := by
  have e1 : (nI n).toNatClampNeg = n := nI_clamp (by omega)
  have e2 : (nI m).toNatClampNeg = m := nI_clamp (by omega)
  unfold a_byt
  rw [if_neg h0, if_neg h, e1, e2]
theorem bt_0 {v0 v1 v2 v3 v5 r : Int32} {hh ww kk m : Nat} {g1 g2 g3 g4 g5 f1 f2 f3 f4 f5 : RF} {b : Bool} (hN : okN 999 (nrm v0 v1 v2 v3 hh v5 ww kk g1 g2 g3 g4 g5)) (hH : hh ≤ 999) (hw : ww ≤ 6) (hk : kk ≤ 6) (hm : m ≤ 20) (c1 : ∀ j : Nat, j < 6 → f1 j = g1 j) (c2 : ∀ j : Nat, j < 6 → f2 j = g2 j) (c3 : ∀ j : Nat, j < 6 → f3 j = g3 j) (c4 : ∀ j : Nat, j < 6 → f4 j = g4 j) (c5 : ∀ j : Nat, j < 6 → f5 j = g5 j) (e : r = (pmX v0 v1 v2 v3 f1 ww hh kk f2 m (v5, f3, f4, f5)).1) : r = btV m 0 b (nrm v0 v1 v2 v3 hh v5 ww kk g1 g2 g3 g4 g5) := by
  obtain ⟨_, _, _, _, _, _, _, _, _, _, _, _, _, -, -, -, -, hr⟩ := hN
  exact meal_X hr hw hk (by omega) c1 c2 c3 c4 c5 e
theorem pb_c {a b c d v : Int32} (e1 : d = 1 - c) (e2 : c = b) (e3 : b = 1 - a) (e4 : a = v) : d = v := by rw [e1, e2, e3, e4, sub_2]
theorem pb_w {a b c d v : RF} {ww hh : Nat} (e1 : d = twX c ww hh) (e2 : c = b) (e3 : b = twX a ww hh) (e4 : a = v) : d = v := by rw [e1, e2, e3, e4, tw_2]
theorem pb_0 {m n : Nat} {L R : RF} {x y v : Int32} (hx : x = btV m n true L) (hy : y = btV m n true R) (hR : R = tgP false L) (e : v = if y < x then y else x) : v = btV m (n + 1) false L := by
  rw [e, hx, hy, hR]
  rfl
theorem pb_1 {m n : Nat} {L R : RF} {x y v : Int32} (hx : x = btV m n false L) (hy : y = btV m n false R) (hR : R = tgP true L) (e : v = if x < y then y else x) : v = btV m (n + 1) true L := by
  rw [e, hx, hy, hR]
  rfl
theorem ct_e {r : Int32} {k t j : Nat} {R L : RF} (h : r = btV j k true R) (e : R = L) (hz : k = if 4 < t then 4 else t) (ht : t ≤ 4) : r = btV j t true L := by
  rw [if_neg (by omega)] at hz
  rw [h, e, hz]

