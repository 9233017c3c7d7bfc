/-! by turns, on the other side: all rows of turns, then the best of two and two -/
noncomputable def evB (k : Nat) : Bool := decide (k % 2 = 0)
noncomputable def plS (r : RF) : Nat → Nat → RF
  | 0, _ => r
  | k + 1, x => if x % 2 = 1 then tgP (evB k) (plS r k (x / 2)) else plS r k (x / 2)
noncomputable def wVV (m n : Nat) (r : RF) (k x : Nat) : Int32 := btV m (n - k) (evB k) (plS r k x)
theorem evB_s (k : Nat) : (!evB k) = evB (k + 1) := by
  unfold evB
  by_cases h : k % 2 = 0
  · rw [decide_eq_true h, decide_eq_false (by omega)]
    rfl
  · rw [decide_eq_false h, decide_eq_true (by omega)]
    rfl
theorem wV_s {m n k x : Nat} {r : RF} (hk : k < n) : wVV m n r k x = cmb (evB k) (wVV m n r (k + 1) (2 * x)) (wVV m n r (k + 1) (2 * x + 1)) := by
  have e1 : plS r (k + 1) (2 * x) = plS r k x := by
    show (if 2 * x % 2 = 1 then tgP (evB k) (plS r k (2 * x / 2)) else plS r k (2 * x / 2)) = _
    rw [if_neg (by omega), show 2 * x / 2 = x by omega]
  have e2 : plS r (k + 1) (2 * x + 1) = tgP (evB k) (plS r k x) := by
    show (if (2 * x + 1) % 2 = 1 then tgP (evB k) (plS r k ((2 * x + 1) / 2)) else plS r k ((2 * x + 1) / 2)) = _
    rw [if_pos (by omega), show (2 * x + 1) / 2 = x by omega]
  have e3 : n - k = n - (k + 1) + 1 := by omega
  unfold wVV
  rw [e1, e2, e3, ← evB_s]
  rfl
theorem cmb_1 {x y : Int32} (b : Bool) (c : x ≤ y) (h : b = false) : x = cmb b x y := by
  rw [h]
  exact ((if_neg (by decide)).trans (if_neg (i_nlt.mpr c))).symm
theorem cmb_2 {x y : Int32} (b : Bool) (c : x ≤ y) (h : b = true) : y = cmb b x y := by
  rw [h]
  refine Eq.trans ?_ (if_pos rfl).symm
  by_cases q : x < y
  · rw [if_pos q]
  · rw [if_neg q]
    exact Int32.le_antisymm (i_nlt.mp q) c
theorem cmb_3 {x y : Int32} (b : Bool) (c : ¬ x ≤ y) (h : b = false) : y = cmb b x y := by
  rw [h]
  exact ((if_neg (by decide)).trans (if_pos (i_nle.mp c))).symm
theorem cmb_4 {x y : Int32} (b : Bool) (c : ¬ x ≤ y) (h : b = true) : x = cmb b x y := by
  rw [h]
  have q : ¬ x < y := fun z => c (i_nlt.mp (fun y2 => absurd z (by rw [Int32.lt_iff_toInt_lt] at *; omega)))
  exact ((if_pos rfl).trans (if_neg q)).symm
set_option maxRecDepth 100000 in
theorem has16 : ∀ z : Nat, z < 16 → ∀ k : Nat, k < 4 → (hasB (nI z) (nI k) ↔ z / 2 ^ k % 2 = 1) := by
  unfold hasB
  decide +kernel
theorem cd_2 {n i : Nat} (hn : n ≤ 4) (hi : i < n) {v : Int32} (e : v = cdn n i - cdn n i / 2 * 2) : v = 0 ↔ evB (n - 1 - i) = true := by
  rw [e, cdn_nat (by omega) hi]
  unfold evB
  rcases (show n - 1 - i = 0 ∨ n - 1 - i = 1 ∨ n - 1 - i = 2 ∨ n - 1 - i = 3 by omega) with q | q | q | q <;> rw [q] <;> decide
theorem ev_f {b : Bool} (h : ¬ b = true) : b = false := by
  cases b
  · rfl
  · exact absurd rfl h
section BYM
variable {fs w g g2 : RF} {w9 k9 h9 n m i k x z sh sd : Nat} {v v2 u a b : Int32}
theorem pl_nw {r : RF} (h5 : r 5 = nI h9) (h3 : r 3 = nI w9) (hh : h9 < 2 ^ 31) (hw : w9 ≤ 6) (hw1 : 1 ≤ w9) : nwI r = 8 + h9 % w9 := by
  unfold nwI
  rw [h5, h3, nI_clamp hh, nI_clamp (by omega)]
theorem up_id {f : RF} {i : Nat} {v : Int32} (e : v = f i) : upd f i v = f := by
  funext q
  unfold upd
  split
  · rename_i h
    rw [e, h]
  · rfl
/-- one ply more -/
theorem pl_no (hh : x / 2 ^ (n - (k + 1)) % 2 = 1 ↔ hasB (nI x) v) (f : ¬ hasB (nI x) v) (hk : k < n) (e : m38 w = plS (m38 fs) k (x / 2 ^ (n - k))) : m38 w = plS (m38 fs) (k + 1) (x / 2 ^ (n - (k + 1))) := by
  have e1 : x / 2 ^ (n - (k + 1)) / 2 = x / 2 ^ (n - k) := by
    rw [show n - k = n - (k + 1) + 1 by omega, Nat.pow_succ, Nat.div_div_eq_div_mul]
  show _ = (if x / 2 ^ (n - (k + 1)) % 2 = 1 then tgP (evB k) (plS (m38 fs) k (x / 2 ^ (n - (k + 1)) / 2)) else plS (m38 fs) k (x / 2 ^ (n - (k + 1)) / 2))
  rw [if_neg (fun q => f (hh.mp q)), e1]
  exact e
theorem pl_ye {r : RF} (hh : x / 2 ^ (n - (k + 1)) % 2 = 1 ↔ hasB (nI x) v) (f : hasB (nI x) v) (hk : k < n) (e : m38 w = plS (m38 fs) k (x / 2 ^ (n - k))) (e2 : r = tgP (evB k) (m38 w)) : r = plS (m38 fs) (k + 1) (x / 2 ^ (n - (k + 1))) := by
  have e1 : x / 2 ^ (n - (k + 1)) / 2 = x / 2 ^ (n - k) := by
    rw [show n - k = n - (k + 1) + 1 by omega, Nat.pow_succ, Nat.div_div_eq_div_mul]
  show _ = (if x / 2 ^ (n - (k + 1)) % 2 = 1 then tgP (evB k) (plS (m38 fs) k (x / 2 ^ (n - (k + 1)) / 2)) else plS (m38 fs) k (x / 2 ^ (n - (k + 1)) / 2))
  rw [if_pos (hh.mpr f), e1, ← e]
  exact e2
theorem pl_has (hn : n ≤ 4) (hk : k < n) (hs : (1 : Int32) <<< (nI n &&& 31) = nI sh) (hb : sh ≤ 16) (hx : x < sh) (e1 : v = nI n - 1) (e2 : v2 = v - nI k) : x / 2 ^ (n - (k + 1)) % 2 = 1 ↔ hasB (nI x) v2 := by
  have e : v2 = nI (n - (k + 1)) := by
    rw [e2, e1]
    exact (cdn_nat (n := n) (i := k) (by omega) hk).trans (by congr 1; omega)
  rw [e, has16 x (by omega) _ (by omega)]
theorem by_same (e0 : v = w 6) (hu : g = upd w 6 v) (e1 : v2 = g (8 + z)) (hu2 : g2 = upd g (8 + z) v2) : g2 = w := by
  rw [hu2, up_id e1, hu, up_id e0]
theorem by_cap (e0 : v = w 6) (e3 : u = 1 - v) (hu : g = upd w 6 u) (e1 : v2 = g (8 + z)) (hu2 : g2 = upd g (8 + z) v2) (hk : k % 2 = 0) : m38 g2 = tgP (evB k) (m38 w) := by
  have ev : evB k = true := decide_eq_true hk
  have e6 : m38 w 6 = w 6 := rfl
  rw [ev, hu2, up_id e1, hu, m38_up (by decide), e3, e0]
  show _ = upd (m38 w) 6 (1 - m38 w 6)
  rw [e6]
theorem by_wnd (hM : okM w w9 k9 h9) (hw1 : 1 ≤ w9) (hh : h9 ≤ 999) (e0 : v = w 6) (hu : g = upd w 6 v) (e1 : v2 = g (8 + z)) (e3 : u = 4 - v2) (hu2 : g2 = upd g (8 + z) u) (hz : z = h9 % w9) (hk : k % 2 = 1) : m38 g2 = tgP (evB k) (m38 w) := by
  have h6 := hM.2.2.2.1
  have hm : h9 % w9 < w9 := Nat.mod_lt _ (by omega)
  have ev : evB k = false := decide_eq_false (by omega)
  have en : nwI (m38 w) = 8 + z := by
    rw [pl_nw (r := m38 w) hM.2.2.1 hM.1 (by omega) h6 hw1, hz]
  have eg : g = w := by rw [hu, up_id e0]
  rw [ev, hu2, m38_up (by omega), e3, e1, eg]
  show _ = upd (m38 w) (nwI (m38 w)) (4 - m38 w (nwI (m38 w)))
  rw [en, m38_at (by omega)]
theorem by_row (hM : okM w w9 k9 h9) (hw1 : 1 ≤ w9) (h : ∀ q : Nat, q < x → g q = wVV m n (m38 fs) n q) (e : m38 w = plS (m38 fs) n (x / 2 ^ (n - n))) (hr : a = mGo m w 7) (hu : g2 = upd g x a) : ∀ q : Nat, q < x + 1 → g2 q = wVV m n (m38 fs) n q := by
  intro q hq
  rw [hu]
  by_cases t : q = x
  · have e1 : a = mGo m (m38 w) 7 := by
      rw [hr, mGoM hM hw1, mm7]
    rw [t, pk_us, e1, e]
    unfold wVV
    rw [Nat.sub_self, Nat.pow_zero, Nat.div_one]
    rfl
  · rw [pk_un t]
    exact h q (by omega)
theorem by_sh (hn : n ≤ 4) (hs : (1 : Int32) <<< (nI n &&& 31) = nI sh) (hb : sh ≤ 16) : sh = 2 ^ n := by
  have h1 : 2 ^ n ≤ 2 ^ 4 := Nat.pow_le_pow_right (by decide) hn
  exact (nI_eq (by omega) (by omega)).mp (hs.symm.trans (shlN n (by omega)))
theorem by_sd (hn : n ≤ 4) (hi : i < n) (hs : (1 : Int32) <<< (cdn n i &&& 31) = nI sd) (hb : sd ≤ 8) : sd = 2 ^ (n - 1 - i) := by
  have h1 : 2 ^ (n - 1 - i) ≤ 2 ^ 4 := Nat.pow_le_pow_right (by decide) (by omega)
  rw [cdn_nat (by omega) hi] at hs
  exact (nI_eq (by omega) (by omega)).mp (hs.symm.trans (shlN _ (by omega)))
theorem by_i3 (hn : n ≤ 4) (hs : (1 : Int32) <<< (nI n &&& 31) = nI sh) (hb : sh ≤ 16) (h : ∀ q : Nat, q < sh → g q = wVV m n (m38 fs) n q) : ∀ q : Nat, q < 2 ^ (n - 0) → g q = wVV m n (m38 fs) (n - 0) q := by
  rw [Nat.sub_zero, ← by_sh hn hs hb]
  exact h
/-- the best of two -/
theorem by_two (hi : i < n) (hx : x < 2 ^ (n - 1 - i)) (h5 : ∀ q : Nat, 2 * x ≤ q → q < 2 ^ (n - i) → g q = wVV m n (m38 fs) (n - i) q) (e1 : a = g (2 * x)) (e2 : b = g ((2 * x) + 1)) : wVV m n (m38 fs) (n - 1 - i) x = cmb (evB (n - 1 - i)) a b := by
  have p : 2 ^ (n - i) = 2 ^ (n - 1 - i) * 2 := by rw [show n - i = n - 1 - i + 1 by omega, Nat.pow_succ]
  have e : n - i = n - 1 - i + 1 := by omega
  rw [wV_s (by omega), e1, e2, h5 _ (by omega) (by omega), h5 _ (by omega) (by omega), e]
theorem by_4 (h4 : ∀ q : Nat, q < x → g q = wVV m n (m38 fs) k q) (hu : g2 = upd g x a) (e : a = wVV m n (m38 fs) k x) : ∀ q : Nat, q < x + 1 → g2 q = wVV m n (m38 fs) k q := by
  intro q hq
  rw [hu]
  by_cases t : q = x
  · rw [t, pk_us, e]
  · rw [pk_un t]
    exact h4 q (by omega)
theorem by_5 (h5 : ∀ q : Nat, 2 * x ≤ q → q < 2 ^ k → g q = wVV m n (m38 fs) k q) (hu : g2 = upd g x a) : ∀ q : Nat, 2 * (x + 1) ≤ q → q < 2 ^ k → g2 q = wVV m n (m38 fs) k q := by
  intro q h1 h2
  rw [hu, pk_un (by omega)]
  exact h5 q (by omega) h2
theorem by_3 (hn : n ≤ 4) (hi : i < n) (hs : (1 : Int32) <<< (cdn n i &&& 31) = nI sd) (hb : sd ≤ 8) (h4 : ∀ q : Nat, q < sd → g q = wVV m n (m38 fs) (n - 1 - i) q) : ∀ q : Nat, q < 2 ^ (n - (i + 1)) → g q = wVV m n (m38 fs) (n - (i + 1)) q := by
  have e := by_sd hn hi hs hb
  rw [show n - (i + 1) = n - 1 - i by omega, ← e]
  exact h4
theorem by_e (h0 : ¬ fs 0 = 0) (q2 : ¬ (nI n < 0 ∨ 4 < nI n)) (q5 : ¬ (nI m < 1 ∨ 20 < nI m)) (hn : n ≤ 4) (hm : m ≤ 20) (h : ∀ q : Nat, q < 2 ^ (n - n) → g q = wVV m n (m38 fs) (n - n) q) (e : a = g 0) : a = a_byt (m38 fs) (nI n) (nI m) := by
  have z0 : ¬ m38 fs 0 = 0 := h0
  rw [byt_g z0 (fun q => q.elim q2 q5) hn hm, e, h 0 (by rw [Nat.sub_self]; decide)]
  unfold wVV
  rw [Nat.sub_self]
  rfl
end BYM
theorem dX8_byTurns_0 : decode cX8_byTurns 0 = .ok (.aload_n 0, 1) := dq_42 (by decide +kernel)
theorem dX8_byTurns_1 : decode cX8_byTurns 1 = .ok (.getfield 138, 3) := dq_180 (b1 := 0) (b2 := 138) (by decide +kernel) (by decide)
theorem dX8_byTurns_10 : decode cX8_byTurns 10 = .ok (.iload_n 1, 1) := dq_27 (by decide +kernel)
theorem dX8_byTurns_102 : decode cX8_byTurns 102 = .ok (.iload 5, 2) := dq_21 (b1 := 5) (by decide +kernel) (by decide)
theorem dX8_byTurns_104 : decode cX8_byTurns 104 = .ok (.iconst 2, 1) := dq_5 (by decide +kernel)
theorem dX8_byTurns_105 : decode cX8_byTurns 105 = .ok (.irem, 1) := dq_112 (by decide +kernel)
theorem dX8_byTurns_106 : decode cX8_byTurns 106 = .ok (.ifCond .ne 15, 3) := dq_154 (b1 := 0) (b2 := 15) (by decide +kernel) (by decide)
theorem dX8_byTurns_109 : decode cX8_byTurns 109 = .ok (.iconst 1, 1) := dq_4 (by decide +kernel)
theorem dX8_byTurns_11 : decode cX8_byTurns 11 = .ok (.i2l, 1) := dq_133 (by decide +kernel)
theorem dX8_byTurns_110 : decode cX8_byTurns 110 = .ok (.aload_n 0, 1) := dq_42 (by decide +kernel)
theorem dX8_byTurns_111 : decode cX8_byTurns 111 = .ok (.getfield 19, 3) := dq_180 (b1 := 0) (b2 := 19) (by decide +kernel) (by decide)
theorem dX8_byTurns_114 : decode cX8_byTurns 114 = .ok (.bipush 6, 2) := dq_16 (b1 := 6) (by decide +kernel) (by decide)
theorem dX8_byTurns_116 : decode cX8_byTurns 116 = .ok (.iaload, 1) := dq_46 (by decide +kernel)
theorem dX8_byTurns_117 : decode cX8_byTurns 117 = .ok (.isub, 1) := dq_100 (by decide +kernel)
theorem dX8_byTurns_118 : decode cX8_byTurns 118 = .ok (.goto 10, 3) := dq_167 (b1 := 0) (b2 := 10) (by decide +kernel) (by decide)
theorem dX8_byTurns_12 : decode cX8_byTurns 12 = .ok (.lconst 0, 1) := dq_9 (by decide +kernel)
theorem dX8_byTurns_121 : decode cX8_byTurns 121 = .ok (.aload_n 0, 1) := dq_42 (by decide +kernel)
theorem dX8_byTurns_122 : decode cX8_byTurns 122 = .ok (.getfield 19, 3) := dq_180 (b1 := 0) (b2 := 19) (by decide +kernel) (by decide)
theorem dX8_byTurns_125 : decode cX8_byTurns 125 = .ok (.bipush 6, 2) := dq_16 (b1 := 6) (by decide +kernel) (by decide)
theorem dX8_byTurns_127 : decode cX8_byTurns 127 = .ok (.iaload, 1) := dq_46 (by decide +kernel)
theorem dX8_byTurns_128 : decode cX8_byTurns 128 = .ok (.iastore, 1) := dq_79 (by decide +kernel)
theorem dX8_byTurns_129 : decode cX8_byTurns 129 = .ok (.aload_n 0, 1) := dq_42 (by decide +kernel)
theorem dX8_byTurns_13 : decode cX8_byTurns 13 = .ok (.ldc2_w 171, 3) := dq_20 (b1 := 0) (b2 := 171) (by decide +kernel) (by decide)
theorem dX8_byTurns_130 : decode cX8_byTurns 130 = .ok (.getfield 19, 3) := dq_180 (b1 := 0) (b2 := 19) (by decide +kernel) (by decide)
theorem dX8_byTurns_133 : decode cX8_byTurns 133 = .ok (.iload_n 3, 1) := dq_29 (by decide +kernel)
theorem dX8_byTurns_134 : decode cX8_byTurns 134 = .ok (.iload 6, 2) := dq_21 (b1 := 6) (by decide +kernel) (by decide)
theorem dX8_byTurns_136 : decode cX8_byTurns 136 = .ok (.ifCond .eq 22, 3) := dq_153 (b1 := 0) (b2 := 22) (by decide +kernel) (by decide)
theorem dX8_byTurns_139 : decode cX8_byTurns 139 = .ok (.iload 5, 2) := dq_21 (b1 := 5) (by decide +kernel) (by decide)
theorem dX8_byTurns_141 : decode cX8_byTurns 141 = .ok (.iconst 2, 1) := dq_5 (by decide +kernel)
theorem dX8_byTurns_142 : decode cX8_byTurns 142 = .ok (.irem, 1) := dq_112 (by decide +kernel)
theorem dX8_byTurns_143 : decode cX8_byTurns 143 = .ok (.iconst 1, 1) := dq_4 (by decide +kernel)
theorem dX8_byTurns_144 : decode cX8_byTurns 144 = .ok (.if_icmp .ne 14, 3) := dq_160 (b1 := 0) (b2 := 14) (by decide +kernel) (by decide)
theorem dX8_byTurns_147 : decode cX8_byTurns 147 = .ok (.iconst 4, 1) := dq_7 (by decide +kernel)
theorem dX8_byTurns_148 : decode cX8_byTurns 148 = .ok (.aload_n 0, 1) := dq_42 (by decide +kernel)
theorem dX8_byTurns_149 : decode cX8_byTurns 149 = .ok (.getfield 19, 3) := dq_180 (b1 := 0) (b2 := 19) (by decide +kernel) (by decide)
theorem dX8_byTurns_152 : decode cX8_byTurns 152 = .ok (.iload_n 3, 1) := dq_29 (by decide +kernel)
theorem dX8_byTurns_153 : decode cX8_byTurns 153 = .ok (.iaload, 1) := dq_46 (by decide +kernel)
theorem dX8_byTurns_154 : decode cX8_byTurns 154 = .ok (.isub, 1) := dq_100 (by decide +kernel)
theorem dX8_byTurns_155 : decode cX8_byTurns 155 = .ok (.goto 9, 3) := dq_167 (b1 := 0) (b2 := 9) (by decide +kernel) (by decide)
theorem dX8_byTurns_158 : decode cX8_byTurns 158 = .ok (.aload_n 0, 1) := dq_42 (by decide +kernel)
theorem dX8_byTurns_159 : decode cX8_byTurns 159 = .ok (.getfield 19, 3) := dq_180 (b1 := 0) (b2 := 19) (by decide +kernel) (by decide)
theorem dX8_byTurns_16 : decode cX8_byTurns 16 = .ok (.invokestatic 57, 3) := dq_184 (b1 := 0) (b2 := 57) (by decide +kernel) (by decide)
theorem dX8_byTurns_162 : decode cX8_byTurns 162 = .ok (.iload_n 3, 1) := dq_29 (by decide +kernel)
theorem dX8_byTurns_163 : decode cX8_byTurns 163 = .ok (.iaload, 1) := dq_46 (by decide +kernel)
theorem dX8_byTurns_164 : decode cX8_byTurns 164 = .ok (.iastore, 1) := dq_79 (by decide +kernel)
theorem dX8_byTurns_165 : decode cX8_byTurns 165 = .ok (.iinc 5 1, 3) := dq_132 (b1 := 5) (b2 := 1) (by decide +kernel) (by decide) (by decide)
theorem dX8_byTurns_168 : decode cX8_byTurns 168 = .ok (.goto (-96), 3) := dq_167 (b1 := 255) (b2 := 160) (by decide +kernel) (by decide)
theorem dX8_byTurns_171 : decode cX8_byTurns 171 = .ok (.aload_n 0, 1) := dq_42 (by decide +kernel)
theorem dX8_byTurns_172 : decode cX8_byTurns 172 = .ok (.getfield 37, 3) := dq_180 (b1 := 0) (b2 := 37) (by decide +kernel) (by decide)
theorem dX8_byTurns_175 : decode cX8_byTurns 175 = .ok (.iload 4, 2) := dq_21 (b1 := 4) (by decide +kernel) (by decide)
theorem dX8_byTurns_177 : decode cX8_byTurns 177 = .ok (.aload_n 0, 1) := dq_42 (by decide +kernel)
theorem dX8_byTurns_178 : decode cX8_byTurns 178 = .ok (.iload_n 2, 1) := dq_28 (by decide +kernel)
theorem dX8_byTurns_179 : decode cX8_byTurns 179 = .ok (.invokevirtual 200, 3) := dq_182 (b1 := 0) (b2 := 200) (by decide +kernel) (by decide)
theorem dX8_byTurns_182 : decode cX8_byTurns 182 = .ok (.iastore, 1) := dq_79 (by decide +kernel)
theorem dX8_byTurns_183 : decode cX8_byTurns 183 = .ok (.iinc 4 1, 3) := dq_132 (b1 := 4) (b2 := 1) (by decide +kernel) (by decide) (by decide)
theorem dX8_byTurns_186 : decode cX8_byTurns 186 = .ok (.goto (-125), 3) := dq_167 (b1 := 255) (b2 := 131) (by decide +kernel) (by decide)
theorem dX8_byTurns_189 : decode cX8_byTurns 189 = .ok (.iload_n 1, 1) := dq_27 (by decide +kernel)
theorem dX8_byTurns_19 : decode cX8_byTurns 19 = .ok (.ifCond .eq 15, 3) := dq_153 (b1 := 0) (b2 := 15) (by decide +kernel) (by decide)
theorem dX8_byTurns_190 : decode cX8_byTurns 190 = .ok (.iconst 1, 1) := dq_4 (by decide +kernel)
theorem dX8_byTurns_191 : decode cX8_byTurns 191 = .ok (.isub, 1) := dq_100 (by decide +kernel)
theorem dX8_byTurns_192 : decode cX8_byTurns 192 = .ok (.istore 4, 2) := dq_54 (b1 := 4) (by decide +kernel) (by decide)
theorem dX8_byTurns_194 : decode cX8_byTurns 194 = .ok (.iload 4, 2) := dq_21 (b1 := 4) (by decide +kernel) (by decide)
theorem dX8_byTurns_196 : decode cX8_byTurns 196 = .ok (.ifCond .lt 92, 3) := dq_155 (b1 := 0) (b2 := 92) (by decide +kernel) (by decide)
theorem dX8_byTurns_199 : decode cX8_byTurns 199 = .ok (.iconst 0, 1) := dq_3 (by decide +kernel)
theorem dX8_byTurns_200 : decode cX8_byTurns 200 = .ok (.istore 5, 2) := dq_54 (b1 := 5) (by decide +kernel) (by decide)
theorem dX8_byTurns_202 : decode cX8_byTurns 202 = .ok (.iload 5, 2) := dq_21 (b1 := 5) (by decide +kernel) (by decide)
theorem dX8_byTurns_204 : decode cX8_byTurns 204 = .ok (.iconst 1, 1) := dq_4 (by decide +kernel)
theorem dX8_byTurns_205 : decode cX8_byTurns 205 = .ok (.iload 4, 2) := dq_21 (b1 := 4) (by decide +kernel) (by decide)
theorem dX8_byTurns_207 : decode cX8_byTurns 207 = .ok (.ishl, 1) := dq_120 (by decide +kernel)
theorem dX8_byTurns_208 : decode cX8_byTurns 208 = .ok (.if_icmp .ge 74, 3) := dq_162 (b1 := 0) (b2 := 74) (by decide +kernel) (by decide)
theorem dX8_byTurns_211 : decode cX8_byTurns 211 = .ok (.aload_n 0, 1) := dq_42 (by decide +kernel)
theorem dX8_byTurns_212 : decode cX8_byTurns 212 = .ok (.getfield 37, 3) := dq_180 (b1 := 0) (b2 := 37) (by decide +kernel) (by decide)
theorem dX8_byTurns_215 : decode cX8_byTurns 215 = .ok (.iconst 2, 1) := dq_5 (by decide +kernel)
theorem dX8_byTurns_216 : decode cX8_byTurns 216 = .ok (.iload 5, 2) := dq_21 (b1 := 5) (by decide +kernel) (by decide)
theorem dX8_byTurns_218 : decode cX8_byTurns 218 = .ok (.imul, 1) := dq_104 (by decide +kernel)
theorem dX8_byTurns_219 : decode cX8_byTurns 219 = .ok (.iaload, 1) := dq_46 (by decide +kernel)
theorem dX8_byTurns_22 : decode cX8_byTurns 22 = .ok (.iload_n 2, 1) := dq_28 (by decide +kernel)
theorem dX8_byTurns_220 : decode cX8_byTurns 220 = .ok (.istore 6, 2) := dq_54 (b1 := 6) (by decide +kernel) (by decide)
theorem dX8_byTurns_222 : decode cX8_byTurns 222 = .ok (.aload_n 0, 1) := dq_42 (by decide +kernel)
theorem dX8_byTurns_223 : decode cX8_byTurns 223 = .ok (.getfield 37, 3) := dq_180 (b1 := 0) (b2 := 37) (by decide +kernel) (by decide)
theorem dX8_byTurns_226 : decode cX8_byTurns 226 = .ok (.iconst 2, 1) := dq_5 (by decide +kernel)
theorem dX8_byTurns_227 : decode cX8_byTurns 227 = .ok (.iload 5, 2) := dq_21 (b1 := 5) (by decide +kernel) (by decide)
theorem dX8_byTurns_229 : decode cX8_byTurns 229 = .ok (.imul, 1) := dq_104 (by decide +kernel)
theorem dX8_byTurns_23 : decode cX8_byTurns 23 = .ok (.i2l, 1) := dq_133 (by decide +kernel)
theorem dX8_byTurns_230 : decode cX8_byTurns 230 = .ok (.iconst 1, 1) := dq_4 (by decide +kernel)
theorem dX8_byTurns_231 : decode cX8_byTurns 231 = .ok (.iadd, 1) := dq_96 (by decide +kernel)
theorem dX8_byTurns_232 : decode cX8_byTurns 232 = .ok (.iaload, 1) := dq_46 (by decide +kernel)
theorem dX8_byTurns_233 : decode cX8_byTurns 233 = .ok (.istore 7, 2) := dq_54 (b1 := 7) (by decide +kernel) (by decide)
theorem dX8_byTurns_235 : decode cX8_byTurns 235 = .ok (.aload_n 0, 1) := dq_42 (by decide +kernel)
theorem dX8_byTurns_236 : decode cX8_byTurns 236 = .ok (.getfield 37, 3) := dq_180 (b1 := 0) (b2 := 37) (by decide +kernel) (by decide)
theorem dX8_byTurns_239 : decode cX8_byTurns 239 = .ok (.iload 5, 2) := dq_21 (b1 := 5) (by decide +kernel) (by decide)
theorem dX8_byTurns_24 : decode cX8_byTurns 24 = .ok (.lconst 1, 1) := dq_10 (by decide +kernel)
theorem dX8_byTurns_241 : decode cX8_byTurns 241 = .ok (.iload 6, 2) := dq_21 (b1 := 6) (by decide +kernel) (by decide)
theorem dX8_byTurns_243 : decode cX8_byTurns 243 = .ok (.iload 7, 2) := dq_21 (b1 := 7) (by decide +kernel) (by decide)
theorem dX8_byTurns_245 : decode cX8_byTurns 245 = .ok (.if_icmp .le 7, 3) := dq_164 (b1 := 0) (b2 := 7) (by decide +kernel) (by decide)
theorem dX8_byTurns_248 : decode cX8_byTurns 248 = .ok (.iconst 1, 1) := dq_4 (by decide +kernel)
theorem dX8_byTurns_249 : decode cX8_byTurns 249 = .ok (.goto 4, 3) := dq_167 (b1 := 0) (b2 := 4) (by decide +kernel) (by decide)
theorem dX8_byTurns_25 : decode cX8_byTurns 25 = .ok (.ldc2_w 176, 3) := dq_20 (b1 := 0) (b2 := 176) (by decide +kernel) (by decide)
theorem dX8_byTurns_252 : decode cX8_byTurns 252 = .ok (.iconst 0, 1) := dq_3 (by decide +kernel)
theorem dX8_byTurns_253 : decode cX8_byTurns 253 = .ok (.iload 4, 2) := dq_21 (b1 := 4) (by decide +kernel) (by decide)
theorem dX8_byTurns_255 : decode cX8_byTurns 255 = .ok (.iconst 2, 1) := dq_5 (by decide +kernel)
theorem dX8_byTurns_256 : decode cX8_byTurns 256 = .ok (.irem, 1) := dq_112 (by decide +kernel)
theorem dX8_byTurns_257 : decode cX8_byTurns 257 = .ok (.ifCond .ne 7, 3) := dq_154 (b1 := 0) (b2 := 7) (by decide +kernel) (by decide)
theorem dX8_byTurns_260 : decode cX8_byTurns 260 = .ok (.iconst 1, 1) := dq_4 (by decide +kernel)
theorem dX8_byTurns_261 : decode cX8_byTurns 261 = .ok (.goto 4, 3) := dq_167 (b1 := 0) (b2 := 4) (by decide +kernel) (by decide)
theorem dX8_byTurns_264 : decode cX8_byTurns 264 = .ok (.iconst 0, 1) := dq_3 (by decide +kernel)
theorem dX8_byTurns_265 : decode cX8_byTurns 265 = .ok (.if_icmp .ne 8, 3) := dq_160 (b1 := 0) (b2 := 8) (by decide +kernel) (by decide)
theorem dX8_byTurns_268 : decode cX8_byTurns 268 = .ok (.iload 6, 2) := dq_21 (b1 := 6) (by decide +kernel) (by decide)
theorem dX8_byTurns_270 : decode cX8_byTurns 270 = .ok (.goto 5, 3) := dq_167 (b1 := 0) (b2 := 5) (by decide +kernel) (by decide)
theorem dX8_byTurns_273 : decode cX8_byTurns 273 = .ok (.iload 7, 2) := dq_21 (b1 := 7) (by decide +kernel) (by decide)
theorem dX8_byTurns_275 : decode cX8_byTurns 275 = .ok (.iastore, 1) := dq_79 (by decide +kernel)
theorem dX8_byTurns_276 : decode cX8_byTurns 276 = .ok (.iinc 5 1, 3) := dq_132 (b1 := 5) (b2 := 1) (by decide +kernel) (by decide) (by decide)
theorem dX8_byTurns_279 : decode cX8_byTurns 279 = .ok (.goto (-77), 3) := dq_167 (b1 := 255) (b2 := 179) (by decide +kernel) (by decide)
theorem dX8_byTurns_28 : decode cX8_byTurns 28 = .ok (.invokestatic 57, 3) := dq_184 (b1 := 0) (b2 := 57) (by decide +kernel) (by decide)
theorem dX8_byTurns_282 : decode cX8_byTurns 282 = .ok (.iinc 4 (-1), 3) := dq_132 (b1 := 4) (b2 := 255) (by decide +kernel) (by decide) (by decide)
theorem dX8_byTurns_285 : decode cX8_byTurns 285 = .ok (.goto (-91), 3) := dq_167 (b1 := 255) (b2 := 165) (by decide +kernel) (by decide)
theorem dX8_byTurns_288 : decode cX8_byTurns 288 = .ok (.aload_n 0, 1) := dq_42 (by decide +kernel)
theorem dX8_byTurns_289 : decode cX8_byTurns 289 = .ok (.getfield 37, 3) := dq_180 (b1 := 0) (b2 := 37) (by decide +kernel) (by decide)
theorem dX8_byTurns_292 : decode cX8_byTurns 292 = .ok (.iconst 0, 1) := dq_3 (by decide +kernel)
theorem dX8_byTurns_293 : decode cX8_byTurns 293 = .ok (.iaload, 1) := dq_46 (by decide +kernel)
theorem dX8_byTurns_294 : decode cX8_byTurns 294 = .ok (.ireturn, 1) := dq_172 (by decide +kernel)
theorem dX8_byTurns_31 : decode cX8_byTurns 31 = .ok (.ifCond .ne 6, 3) := dq_154 (b1 := 0) (b2 := 6) (by decide +kernel) (by decide)
theorem dX8_byTurns_34 : decode cX8_byTurns 34 = .ok (.ldc 67, 2) := dq_18 (b1 := 67) (by decide +kernel) (by decide)
theorem dX8_byTurns_36 : decode cX8_byTurns 36 = .ok (.ireturn, 1) := dq_172 (by decide +kernel)
theorem dX8_byTurns_37 : decode cX8_byTurns 37 = .ok (.aload_n 0, 1) := dq_42 (by decide +kernel)
theorem dX8_byTurns_38 : decode cX8_byTurns 38 = .ok (.invokevirtual 197, 3) := dq_182 (b1 := 0) (b2 := 197) (by decide +kernel) (by decide)
theorem dX8_byTurns_4 : decode cX8_byTurns 4 = .ok (.ifCond .ne 6, 3) := dq_154 (b1 := 0) (b2 := 6) (by decide +kernel) (by decide)
theorem dX8_byTurns_41 : decode cX8_byTurns 41 = .ok (.bipush 8, 2) := dq_16 (b1 := 8) (by decide +kernel) (by decide)
theorem dX8_byTurns_43 : decode cX8_byTurns 43 = .ok (.aload_n 0, 1) := dq_42 (by decide +kernel)
theorem dX8_byTurns_44 : decode cX8_byTurns 44 = .ok (.getfield 19, 3) := dq_180 (b1 := 0) (b2 := 19) (by decide +kernel) (by decide)
theorem dX8_byTurns_47 : decode cX8_byTurns 47 = .ok (.iconst 5, 1) := dq_8 (by decide +kernel)
theorem dX8_byTurns_48 : decode cX8_byTurns 48 = .ok (.iaload, 1) := dq_46 (by decide +kernel)
theorem dX8_byTurns_49 : decode cX8_byTurns 49 = .ok (.aload_n 0, 1) := dq_42 (by decide +kernel)
theorem dX8_byTurns_50 : decode cX8_byTurns 50 = .ok (.getfield 19, 3) := dq_180 (b1 := 0) (b2 := 19) (by decide +kernel) (by decide)
theorem dX8_byTurns_53 : decode cX8_byTurns 53 = .ok (.iconst 3, 1) := dq_6 (by decide +kernel)
theorem dX8_byTurns_54 : decode cX8_byTurns 54 = .ok (.iaload, 1) := dq_46 (by decide +kernel)
theorem dX8_byTurns_55 : decode cX8_byTurns 55 = .ok (.irem, 1) := dq_112 (by decide +kernel)
theorem dX8_byTurns_56 : decode cX8_byTurns 56 = .ok (.iadd, 1) := dq_96 (by decide +kernel)
theorem dX8_byTurns_57 : decode cX8_byTurns 57 = .ok (.istore_n 3, 1) := dq_62 (by decide +kernel)
theorem dX8_byTurns_58 : decode cX8_byTurns 58 = .ok (.iconst 0, 1) := dq_3 (by decide +kernel)
theorem dX8_byTurns_59 : decode cX8_byTurns 59 = .ok (.istore 4, 2) := dq_54 (b1 := 4) (by decide +kernel) (by decide)
theorem dX8_byTurns_61 : decode cX8_byTurns 61 = .ok (.iload 4, 2) := dq_21 (b1 := 4) (by decide +kernel) (by decide)
theorem dX8_byTurns_63 : decode cX8_byTurns 63 = .ok (.iconst 1, 1) := dq_4 (by decide +kernel)
theorem dX8_byTurns_64 : decode cX8_byTurns 64 = .ok (.iload_n 1, 1) := dq_27 (by decide +kernel)
theorem dX8_byTurns_65 : decode cX8_byTurns 65 = .ok (.ishl, 1) := dq_120 (by decide +kernel)
theorem dX8_byTurns_66 : decode cX8_byTurns 66 = .ok (.if_icmp .ge 123, 3) := dq_162 (b1 := 0) (b2 := 123) (by decide +kernel) (by decide)
theorem dX8_byTurns_69 : decode cX8_byTurns 69 = .ok (.iconst 0, 1) := dq_3 (by decide +kernel)
theorem dX8_byTurns_7 : decode cX8_byTurns 7 = .ok (.ldc 161, 2) := dq_18 (b1 := 161) (by decide +kernel) (by decide)
theorem dX8_byTurns_70 : decode cX8_byTurns 70 = .ok (.istore 5, 2) := dq_54 (b1 := 5) (by decide +kernel) (by decide)
theorem dX8_byTurns_72 : decode cX8_byTurns 72 = .ok (.iload 5, 2) := dq_21 (b1 := 5) (by decide +kernel) (by decide)
theorem dX8_byTurns_74 : decode cX8_byTurns 74 = .ok (.iload_n 1, 1) := dq_27 (by decide +kernel)
theorem dX8_byTurns_75 : decode cX8_byTurns 75 = .ok (.if_icmp .ge 96, 3) := dq_162 (b1 := 0) (b2 := 96) (by decide +kernel) (by decide)
theorem dX8_byTurns_78 : decode cX8_byTurns 78 = .ok (.iload 4, 2) := dq_21 (b1 := 4) (by decide +kernel) (by decide)
theorem dX8_byTurns_80 : decode cX8_byTurns 80 = .ok (.iload_n 1, 1) := dq_27 (by decide +kernel)
theorem dX8_byTurns_81 : decode cX8_byTurns 81 = .ok (.iconst 1, 1) := dq_4 (by decide +kernel)
theorem dX8_byTurns_82 : decode cX8_byTurns 82 = .ok (.isub, 1) := dq_100 (by decide +kernel)
theorem dX8_byTurns_83 : decode cX8_byTurns 83 = .ok (.iload 5, 2) := dq_21 (b1 := 5) (by decide +kernel) (by decide)
theorem dX8_byTurns_85 : decode cX8_byTurns 85 = .ok (.isub, 1) := dq_100 (by decide +kernel)
theorem dX8_byTurns_86 : decode cX8_byTurns 86 = .ok (.invokestatic 213, 3) := dq_184 (b1 := 0) (b2 := 213) (by decide +kernel) (by decide)
theorem dX8_byTurns_89 : decode cX8_byTurns 89 = .ok (.istore 6, 2) := dq_54 (b1 := 6) (by decide +kernel) (by decide)
theorem dX8_byTurns_9 : decode cX8_byTurns 9 = .ok (.ireturn, 1) := dq_172 (by decide +kernel)
theorem dX8_byTurns_91 : decode cX8_byTurns 91 = .ok (.aload_n 0, 1) := dq_42 (by decide +kernel)
theorem dX8_byTurns_92 : decode cX8_byTurns 92 = .ok (.getfield 19, 3) := dq_180 (b1 := 0) (b2 := 19) (by decide +kernel) (by decide)
theorem dX8_byTurns_95 : decode cX8_byTurns 95 = .ok (.bipush 6, 2) := dq_16 (b1 := 6) (by decide +kernel) (by decide)
theorem dX8_byTurns_97 : decode cX8_byTurns 97 = .ok (.iload 6, 2) := dq_21 (b1 := 6) (by decide +kernel) (by decide)
theorem dX8_byTurns_99 : decode cX8_byTurns 99 = .ok (.ifCond .eq 22, 3) := dq_153 (b1 := 0) (b2 := 22) (by decide +kernel) (by decide)
theorem dX8_share_0 : decode cX8_share 0 = .ok (.aload_n 0, 1) := dq_42 (by decide +kernel)
theorem dX8_share_1 : decode cX8_share 1 = .ok (.iload_n 1, 1) := dq_27 (by decide +kernel)
theorem dX8_share_10 : decode cX8_share 10 = .ok (.lconst 0, 1) := dq_9 (by decide +kernel)
theorem dX8_share_101 : decode cX8_share 101 = .ok (.iload_n 3, 1) := dq_29 (by decide +kernel)
theorem dX8_share_102 : decode cX8_share 102 = .ok (.iload 7, 2) := dq_21 (b1 := 7) (by decide +kernel) (by decide)
theorem dX8_share_104 : decode cX8_share 104 = .ok (.invokestatic 213, 3) := dq_184 (b1 := 0) (b2 := 213) (by decide +kernel) (by decide)
theorem dX8_share_107 : decode cX8_share 107 = .ok (.ifCond .eq 13, 3) := dq_153 (b1 := 0) (b2 := 13) (by decide +kernel) (by decide)
theorem dX8_share_11 : decode cX8_share 11 = .ok (.ldc2_w 185, 3) := dq_20 (b1 := 0) (b2 := 185) (by decide +kernel) (by decide)
theorem dX8_share_110 : decode cX8_share 110 = .ok (.iload 7, 2) := dq_21 (b1 := 7) (by decide +kernel) (by decide)
theorem dX8_share_112 : decode cX8_share 112 = .ok (.iload_n 1, 1) := dq_27 (by decide +kernel)
theorem dX8_share_113 : decode cX8_share 113 = .ok (.if_icmp .ge 7, 3) := dq_162 (b1 := 0) (b2 := 7) (by decide +kernel) (by decide)
theorem dX8_share_116 : decode cX8_share 116 = .ok (.iconst 1, 1) := dq_4 (by decide +kernel)
theorem dX8_share_117 : decode cX8_share 117 = .ok (.goto 4, 3) := dq_167 (b1 := 0) (b2 := 4) (by decide +kernel) (by decide)
theorem dX8_share_120 : decode cX8_share 120 = .ok (.iconst 0, 1) := dq_3 (by decide +kernel)
theorem dX8_share_121 : decode cX8_share 121 = .ok (.iadd, 1) := dq_96 (by decide +kernel)
theorem dX8_share_122 : decode cX8_share 122 = .ok (.istore 6, 2) := dq_54 (b1 := 6) (by decide +kernel) (by decide)
theorem dX8_share_124 : decode cX8_share 124 = .ok (.iinc 7 1, 3) := dq_132 (b1 := 7) (b2 := 1) (by decide +kernel) (by decide) (by decide)
theorem dX8_share_127 : decode cX8_share 127 = .ok (.goto (-72), 3) := dq_167 (b1 := 255) (b2 := 184) (by decide +kernel) (by decide)
theorem dX8_share_130 : decode cX8_share 130 = .ok (.iload_n 2, 1) := dq_28 (by decide +kernel)
theorem dX8_share_131 : decode cX8_share 131 = .ok (.aload_n 0, 1) := dq_42 (by decide +kernel)
theorem dX8_share_132 : decode cX8_share 132 = .ok (.getfield 19, 3) := dq_180 (b1 := 0) (b2 := 19) (by decide +kernel) (by decide)
theorem dX8_share_135 : decode cX8_share 135 = .ok (.bipush 32, 2) := dq_16 (b1 := 32) (by decide +kernel) (by decide)
theorem dX8_share_137 : decode cX8_share 137 = .ok (.iload_n 1, 1) := dq_27 (by decide +kernel)
theorem dX8_share_138 : decode cX8_share 138 = .ok (.iadd, 1) := dq_96 (by decide +kernel)
theorem dX8_share_139 : decode cX8_share 139 = .ok (.iaload, 1) := dq_46 (by decide +kernel)
theorem dX8_share_14 : decode cX8_share 14 = .ok (.invokestatic 57, 3) := dq_184 (b1 := 0) (b2 := 57) (by decide +kernel) (by decide)
theorem dX8_share_140 : decode cX8_share 140 = .ok (.imul, 1) := dq_104 (by decide +kernel)
theorem dX8_share_141 : decode cX8_share 141 = .ok (.iload 4, 2) := dq_21 (b1 := 4) (by decide +kernel) (by decide)
theorem dX8_share_143 : decode cX8_share 143 = .ok (.idiv, 1) := dq_108 (by decide +kernel)
theorem dX8_share_144 : decode cX8_share 144 = .ok (.iload 5, 2) := dq_21 (b1 := 5) (by decide +kernel) (by decide)
theorem dX8_share_146 : decode cX8_share 146 = .ok (.iload 6, 2) := dq_21 (b1 := 6) (by decide +kernel) (by decide)
theorem dX8_share_148 : decode cX8_share 148 = .ok (.if_icmp .le 7, 3) := dq_164 (b1 := 0) (b2 := 7) (by decide +kernel) (by decide)
theorem dX8_share_151 : decode cX8_share 151 = .ok (.iconst 1, 1) := dq_4 (by decide +kernel)
theorem dX8_share_152 : decode cX8_share 152 = .ok (.goto 4, 3) := dq_167 (b1 := 0) (b2 := 4) (by decide +kernel) (by decide)
theorem dX8_share_155 : decode cX8_share 155 = .ok (.iconst 0, 1) := dq_3 (by decide +kernel)
theorem dX8_share_156 : decode cX8_share 156 = .ok (.iadd, 1) := dq_96 (by decide +kernel)
theorem dX8_share_157 : decode cX8_share 157 = .ok (.ireturn, 1) := dq_172 (by decide +kernel)
theorem dX8_share_17 : decode cX8_share 17 = .ok (.ifCond .ne 6, 3) := dq_154 (b1 := 0) (b2 := 6) (by decide +kernel) (by decide)
theorem dX8_share_2 : decode cX8_share 2 = .ok (.invokevirtual 173, 3) := dq_182 (b1 := 0) (b2 := 173) (by decide +kernel) (by decide)
theorem dX8_share_20 : decode cX8_share 20 = .ok (.ldc 67, 2) := dq_18 (b1 := 67) (by decide +kernel) (by decide)
theorem dX8_share_22 : decode cX8_share 22 = .ok (.ireturn, 1) := dq_172 (by decide +kernel)
theorem dX8_share_23 : decode cX8_share 23 = .ok (.aload_n 0, 1) := dq_42 (by decide +kernel)
theorem dX8_share_24 : decode cX8_share 24 = .ok (.iconst 0, 1) := dq_3 (by decide +kernel)
theorem dX8_share_25 : decode cX8_share 25 = .ok (.invokevirtual 182, 3) := dq_182 (b1 := 0) (b2 := 182) (by decide +kernel) (by decide)
theorem dX8_share_28 : decode cX8_share 28 = .ok (.istore_n 3, 1) := dq_62 (by decide +kernel)
theorem dX8_share_29 : decode cX8_share 29 = .ok (.iload_n 3, 1) := dq_29 (by decide +kernel)
theorem dX8_share_30 : decode cX8_share 30 = .ok (.iload_n 1, 1) := dq_27 (by decide +kernel)
theorem dX8_share_31 : decode cX8_share 31 = .ok (.invokestatic 213, 3) := dq_184 (b1 := 0) (b2 := 213) (by decide +kernel) (by decide)
theorem dX8_share_34 : decode cX8_share 34 = .ok (.ifCond .ne 5, 3) := dq_154 (b1 := 0) (b2 := 5) (by decide +kernel) (by decide)
theorem dX8_share_37 : decode cX8_share 37 = .ok (.iconst 0, 1) := dq_3 (by decide +kernel)
theorem dX8_share_38 : decode cX8_share 38 = .ok (.ireturn, 1) := dq_172 (by decide +kernel)
theorem dX8_share_39 : decode cX8_share 39 = .ok (.aload_n 0, 1) := dq_42 (by decide +kernel)
theorem dX8_share_40 : decode cX8_share 40 = .ok (.iload_n 3, 1) := dq_29 (by decide +kernel)
theorem dX8_share_41 : decode cX8_share 41 = .ok (.invokevirtual 219, 3) := dq_182 (b1 := 0) (b2 := 219) (by decide +kernel) (by decide)
theorem dX8_share_44 : decode cX8_share 44 = .ok (.istore 4, 2) := dq_54 (b1 := 4) (by decide +kernel) (by decide)
theorem dX8_share_46 : decode cX8_share 46 = .ok (.iload_n 2, 1) := dq_28 (by decide +kernel)
theorem dX8_share_47 : decode cX8_share 47 = .ok (.istore 5, 2) := dq_54 (b1 := 5) (by decide +kernel) (by decide)
theorem dX8_share_49 : decode cX8_share 49 = .ok (.iconst 0, 1) := dq_3 (by decide +kernel)
theorem dX8_share_5 : decode cX8_share 5 = .ok (.ifCond .eq 15, 3) := dq_153 (b1 := 0) (b2 := 15) (by decide +kernel) (by decide)
theorem dX8_share_50 : decode cX8_share 50 = .ok (.istore 6, 2) := dq_54 (b1 := 6) (by decide +kernel) (by decide)
theorem dX8_share_52 : decode cX8_share 52 = .ok (.iconst 0, 1) := dq_3 (by decide +kernel)
theorem dX8_share_53 : decode cX8_share 53 = .ok (.istore 7, 2) := dq_54 (b1 := 7) (by decide +kernel) (by decide)
theorem dX8_share_55 : decode cX8_share 55 = .ok (.iload 7, 2) := dq_21 (b1 := 7) (by decide +kernel) (by decide)
theorem dX8_share_57 : decode cX8_share 57 = .ok (.aload_n 0, 1) := dq_42 (by decide +kernel)
theorem dX8_share_58 : decode cX8_share 58 = .ok (.getfield 19, 3) := dq_180 (b1 := 0) (b2 := 19) (by decide +kernel) (by decide)
theorem dX8_share_61 : decode cX8_share 61 = .ok (.iconst 4, 1) := dq_7 (by decide +kernel)
theorem dX8_share_62 : decode cX8_share 62 = .ok (.iaload, 1) := dq_46 (by decide +kernel)
theorem dX8_share_63 : decode cX8_share 63 = .ok (.if_icmp .ge 67, 3) := dq_162 (b1 := 0) (b2 := 67) (by decide +kernel) (by decide)
theorem dX8_share_66 : decode cX8_share 66 = .ok (.iload 5, 2) := dq_21 (b1 := 5) (by decide +kernel) (by decide)
theorem dX8_share_68 : decode cX8_share 68 = .ok (.iload_n 3, 1) := dq_29 (by decide +kernel)
theorem dX8_share_69 : decode cX8_share 69 = .ok (.iload 7, 2) := dq_21 (b1 := 7) (by decide +kernel) (by decide)
theorem dX8_share_71 : decode cX8_share 71 = .ok (.invokestatic 213, 3) := dq_184 (b1 := 0) (b2 := 213) (by decide +kernel) (by decide)
theorem dX8_share_74 : decode cX8_share 74 = .ok (.ifCond .eq 21, 3) := dq_153 (b1 := 0) (b2 := 21) (by decide +kernel) (by decide)
theorem dX8_share_77 : decode cX8_share 77 = .ok (.iload_n 2, 1) := dq_28 (by decide +kernel)
theorem dX8_share_78 : decode cX8_share 78 = .ok (.aload_n 0, 1) := dq_42 (by decide +kernel)
theorem dX8_share_79 : decode cX8_share 79 = .ok (.getfield 19, 3) := dq_180 (b1 := 0) (b2 := 19) (by decide +kernel) (by decide)
theorem dX8_share_8 : decode cX8_share 8 = .ok (.iload_n 2, 1) := dq_28 (by decide +kernel)
theorem dX8_share_82 : decode cX8_share 82 = .ok (.bipush 32, 2) := dq_16 (b1 := 32) (by decide +kernel) (by decide)
theorem dX8_share_84 : decode cX8_share 84 = .ok (.iload 7, 2) := dq_21 (b1 := 7) (by decide +kernel) (by decide)
theorem dX8_share_86 : decode cX8_share 86 = .ok (.iadd, 1) := dq_96 (by decide +kernel)
theorem dX8_share_87 : decode cX8_share 87 = .ok (.iaload, 1) := dq_46 (by decide +kernel)
theorem dX8_share_88 : decode cX8_share 88 = .ok (.imul, 1) := dq_104 (by decide +kernel)
theorem dX8_share_89 : decode cX8_share 89 = .ok (.iload 4, 2) := dq_21 (b1 := 4) (by decide +kernel) (by decide)
theorem dX8_share_9 : decode cX8_share 9 = .ok (.i2l, 1) := dq_133 (by decide +kernel)
theorem dX8_share_91 : decode cX8_share 91 = .ok (.idiv, 1) := dq_108 (by decide +kernel)
theorem dX8_share_92 : decode cX8_share 92 = .ok (.goto 4, 3) := dq_167 (b1 := 0) (b2 := 4) (by decide +kernel) (by decide)
theorem dX8_share_95 : decode cX8_share 95 = .ok (.iconst 0, 1) := dq_3 (by decide +kernel)
theorem dX8_share_96 : decode cX8_share 96 = .ok (.isub, 1) := dq_100 (by decide +kernel)
theorem dX8_share_97 : decode cX8_share 97 = .ok (.istore 5, 2) := dq_54 (b1 := 5) (by decide +kernel) (by decide)
theorem dX8_share_99 : decode cX8_share 99 = .ok (.iload 6, 2) := dq_21 (b1 := 6) (by decide +kernel) (by decide)
theorem mb_X8_byTurns_wsX8_byTurns_r1 {w : Cond} (h : w ∈ wsX8_byTurns_r1) : w ∈ wsX8_byTurns := by unfold wsX8_byTurns; exact List.mem_cons_of_mem _ (List.mem_append_left _ (List.mem_append_left _ (h)))
theorem mx_X8_byTurns_19 : Cond.code yX8_has cX8_has 2 (some .boolean) ∈ wsX8_byTurns := mb_X8_byTurns_wsX8_byTurns_r1 (List.mem_of_getElem? (i := 18) rfl)
theorem ggX8_byTurns_X8_has : GoodIn wsX8_byTurns wsX8_has := goodIn_sub (by unfold wsX8_has; exact List.forall_mem_cons.mpr ⟨mx_X8_byTurns_19, fun _ h_ => absurd h_ List.not_mem_nil⟩) (by decide +kernel)
set_option maxRecDepth 20000 in
theorem gX8_byTurns_X8_has : GoodIn wsX8_byTurns (va_wsS RX8 213 yX8_has wsX8_has) := goodIn_app (goodIn_of _ (by decide +kernel)) ggX8_byTurns_X8_has
theorem mx_X8_byTurns_11 : Cond.code yX8_in cX8_in 6 (some .boolean) ∈ wsX8_byTurns := mb_X8_byTurns_wsX8_byTurns_r1 (List.mem_of_getElem? (i := 10) rfl)
theorem ggX8_byTurns_X8_in : GoodIn wsX8_byTurns wsX8_in := goodIn_sub (by unfold wsX8_in; exact List.forall_mem_cons.mpr ⟨mx_X8_byTurns_11, fun _ h_ => absurd h_ List.not_mem_nil⟩) (by decide +kernel)
set_option maxRecDepth 20000 in
theorem gX8_byTurns_X8_in : GoodIn wsX8_byTurns (va_wsS RX8 57 yX8_in wsX8_in) := goodIn_app (goodIn_of _ (by decide +kernel)) ggX8_byTurns_X8_in
theorem mx_X8_byTurns_23 : Cond.code yX8_mealBehind cX8_mealBehind 3 (some .int) ∈ wsX8_byTurns := mb_X8_byTurns_wsX8_byTurns_r1 (List.mem_of_getElem? (i := 22) rfl)
theorem mx_X8_byTurns_6 : Cond.fieldLink RX8 19 "MillTalkModel" "st" "[I" ∈ wsX8_byTurns := mb_X8_byTurns_wsX8_byTurns_r1 (List.mem_of_getElem? (i := 5) rfl)
theorem mx_X8_byTurns_24 : Cond.methodLink RX8 190 yX8_goOn ∈ wsX8_byTurns := mb_X8_byTurns_wsX8_byTurns_r1 (List.mem_of_getElem? (i := 23) rfl)
theorem mb_X8_byTurns_wsX8_byTurns_r2 {w : Cond} (h : w ∈ wsX8_byTurns_r2) : w ∈ wsX8_byTurns := by unfold wsX8_byTurns; exact List.mem_cons_of_mem _ (List.mem_append_left _ (List.mem_append_right _ (List.mem_append_left _ (h))))
theorem mx_X8_byTurns_25 : Cond.instanceMethod yX8_goOn ∈ wsX8_byTurns := mb_X8_byTurns_wsX8_byTurns_r2 (List.mem_of_getElem? (i := 0) rfl)
theorem mx_X8_byTurns_26 : Cond.selects RX8 yX8_goOn yX8_goOn ∈ wsX8_byTurns := mb_X8_byTurns_wsX8_byTurns_r2 (List.mem_of_getElem? (i := 1) rfl)
theorem mx_X8_byTurns_10 : Cond.initialized RX8 ∈ wsX8_byTurns := mb_X8_byTurns_wsX8_byTurns_r1 (List.mem_of_getElem? (i := 9) rfl)
theorem mx_X8_byTurns_27 : Cond.code yX8_goOn cX8_goOn 3 none ∈ wsX8_byTurns := mb_X8_byTurns_wsX8_byTurns_r2 (List.mem_of_getElem? (i := 2) rfl)
theorem mx_X8_byTurns_28 : Cond.methodLink RX8 167 yX8_oneHour ∈ wsX8_byTurns := mb_X8_byTurns_wsX8_byTurns_r2 (List.mem_of_getElem? (i := 3) rfl)
theorem mx_X8_byTurns_29 : Cond.instanceMethod yX8_oneHour ∈ wsX8_byTurns := mb_X8_byTurns_wsX8_byTurns_r2 (List.mem_of_getElem? (i := 4) rfl)
theorem mx_X8_byTurns_30 : Cond.selects RX8 yX8_oneHour yX8_oneHour ∈ wsX8_byTurns := mb_X8_byTurns_wsX8_byTurns_r2 (List.mem_of_getElem? (i := 5) rfl)
theorem mx_X8_byTurns_31 : Cond.code yX8_oneHour cX8_oneHour 4 (some .int) ∈ wsX8_byTurns := mb_X8_byTurns_wsX8_byTurns_r2 (List.mem_of_getElem? (i := 6) rfl)
theorem mx_X8_byTurns_32 : Cond.methodLink RX8 151 yX8_gustOf ∈ wsX8_byTurns := mb_X8_byTurns_wsX8_byTurns_r2 (List.mem_of_getElem? (i := 7) rfl)
theorem mx_X8_byTurns_33 : Cond.instanceMethod yX8_gustOf ∈ wsX8_byTurns := mb_X8_byTurns_wsX8_byTurns_r2 (List.mem_of_getElem? (i := 8) rfl)
theorem mx_X8_byTurns_34 : Cond.selects RX8 yX8_gustOf yX8_gustOf ∈ wsX8_byTurns := mb_X8_byTurns_wsX8_byTurns_r2 (List.mem_of_getElem? (i := 9) rfl)
theorem mx_X8_byTurns_35 : Cond.code yX8_gustOf cX8_gustOf 2 (some .int) ∈ wsX8_byTurns := mb_X8_byTurns_wsX8_byTurns_r2 (List.mem_of_getElem? (i := 10) rfl)
theorem mx_X8_byTurns_36 : Cond.methodLink RX8 154 yX8_drift ∈ wsX8_byTurns := mb_X8_byTurns_wsX8_byTurns_r2 (List.mem_of_getElem? (i := 11) rfl)
theorem mx_X8_byTurns_37 : Cond.instanceMethod yX8_drift ∈ wsX8_byTurns := mb_X8_byTurns_wsX8_byTurns_r2 (List.mem_of_getElem? (i := 12) rfl)
theorem mx_X8_byTurns_38 : Cond.selects RX8 yX8_drift yX8_drift ∈ wsX8_byTurns := mb_X8_byTurns_wsX8_byTurns_r2 (List.mem_of_getElem? (i := 13) rfl)
theorem mx_X8_byTurns_39 : Cond.code yX8_drift cX8_drift 7 none ∈ wsX8_byTurns := mb_X8_byTurns_wsX8_byTurns_r2 (List.mem_of_getElem? (i := 14) rfl)
theorem mx_X8_byTurns_40 : Cond.methodLink RX8 145 yX8_drifts ∈ wsX8_byTurns := mb_X8_byTurns_wsX8_byTurns_r2 (List.mem_of_getElem? (i := 15) rfl)
theorem mx_X8_byTurns_41 : Cond.static yX8_drifts ∈ wsX8_byTurns := mb_X8_byTurns_wsX8_byTurns_r2 (List.mem_of_getElem? (i := 16) rfl)
theorem mx_X8_byTurns_42 : Cond.code yX8_drifts cX8_drifts 2 (some .int) ∈ wsX8_byTurns := mb_X8_byTurns_wsX8_byTurns_r2 (List.mem_of_getElem? (i := 17) rfl)
theorem mx_X8_byTurns_43 : Cond.methodLink RX8 148 yX8_isCell ∈ wsX8_byTurns := mb_X8_byTurns_wsX8_byTurns_r2 (List.mem_of_getElem? (i := 18) rfl)
theorem mx_X8_byTurns_44 : Cond.instanceMethod yX8_isCell ∈ wsX8_byTurns := mb_X8_byTurns_wsX8_byTurns_r2 (List.mem_of_getElem? (i := 19) rfl)
theorem mx_X8_byTurns_45 : Cond.selects RX8 yX8_isCell yX8_isCell ∈ wsX8_byTurns := mb_X8_byTurns_wsX8_byTurns_r2 (List.mem_of_getElem? (i := 20) rfl)
theorem mx_X8_byTurns_46 : Cond.code yX8_isCell cX8_isCell 2 (some .boolean) ∈ wsX8_byTurns := mb_X8_byTurns_wsX8_byTurns_r2 (List.mem_of_getElem? (i := 21) rfl)
theorem mx_X8_byTurns_8 : Cond.methodLink RX8 57 yX8_in ∈ wsX8_byTurns := mb_X8_byTurns_wsX8_byTurns_r1 (List.mem_of_getElem? (i := 7) rfl)
theorem mx_X8_byTurns_9 : Cond.static yX8_in ∈ wsX8_byTurns := mb_X8_byTurns_wsX8_byTurns_r1 (List.mem_of_getElem? (i := 8) rfl)
theorem mx_X8_byTurns_47 : Cond.methodLink RX8 158 yX8_isAtMill ∈ wsX8_byTurns := mb_X8_byTurns_wsX8_byTurns_r2 (List.mem_of_getElem? (i := 22) rfl)
theorem mx_X8_byTurns_48 : Cond.instanceMethod yX8_isAtMill ∈ wsX8_byTurns := mb_X8_byTurns_wsX8_byTurns_r2 (List.mem_of_getElem? (i := 23) rfl)
theorem mb_X8_byTurns_wsX8_byTurns_r3 {w : Cond} (h : w ∈ wsX8_byTurns_r3) : w ∈ wsX8_byTurns := by unfold wsX8_byTurns; exact List.mem_cons_of_mem _ (List.mem_append_left _ (List.mem_append_right _ (List.mem_append_right _ (h))))
theorem mx_X8_byTurns_49 : Cond.selects RX8 yX8_isAtMill yX8_isAtMill ∈ wsX8_byTurns := mb_X8_byTurns_wsX8_byTurns_r3 (List.mem_of_getElem? (i := 0) rfl)
theorem mx_X8_byTurns_50 : Cond.code yX8_isAtMill cX8_isAtMill 3 (some .boolean) ∈ wsX8_byTurns := mb_X8_byTurns_wsX8_byTurns_r3 (List.mem_of_getElem? (i := 1) rfl)
theorem mx_X8_byTurns_51 : Cond.methodLink RX8 194 yX8_takeBack ∈ wsX8_byTurns := mb_X8_byTurns_wsX8_byTurns_r3 (List.mem_of_getElem? (i := 2) rfl)
theorem mx_X8_byTurns_52 : Cond.instanceMethod yX8_takeBack ∈ wsX8_byTurns := mb_X8_byTurns_wsX8_byTurns_r3 (List.mem_of_getElem? (i := 3) rfl)
theorem mx_X8_byTurns_53 : Cond.selects RX8 yX8_takeBack yX8_takeBack ∈ wsX8_byTurns := mb_X8_byTurns_wsX8_byTurns_r3 (List.mem_of_getElem? (i := 4) rfl)
theorem mx_X8_byTurns_54 : Cond.code yX8_takeBack cX8_takeBack 2 none ∈ wsX8_byTurns := mb_X8_byTurns_wsX8_byTurns_r3 (List.mem_of_getElem? (i := 5) rfl)
theorem mx_X8_byTurns_16 : Cond.fieldLink RX8 34 "MillTalkModel" "aside" "[I" ∈ wsX8_byTurns := mb_X8_byTurns_wsX8_byTurns_r1 (List.mem_of_getElem? (i := 15) rfl)
theorem mb_X8_byTurns_wsX80 {w : Cond} (h : w ∈ wsX80) : w ∈ wsX8_byTurns := by unfold wsX8_byTurns; exact List.mem_cons_of_mem _ (List.mem_append_right _ (h))
theorem ggX8_byTurns_X8_mealBehind : GoodIn wsX8_byTurns wsX8_mealBehind := goodIn_sub (by unfold wsX8_mealBehind; exact List.forall_mem_cons.mpr ⟨mx_X8_byTurns_23, List.forall_mem_append.mpr ⟨List.forall_mem_append.mpr ⟨(by unfold wsX8_mealBehind_r1; exact List.forall_mem_cons.mpr ⟨mx_X8_byTurns_6, List.forall_mem_cons.mpr ⟨mx_X8_byTurns_24, List.forall_mem_cons.mpr ⟨mx_X8_byTurns_25, List.forall_mem_cons.mpr ⟨mx_X8_byTurns_26, List.forall_mem_cons.mpr ⟨mx_X8_byTurns_10, List.forall_mem_cons.mpr ⟨mx_X8_byTurns_27, List.forall_mem_cons.mpr ⟨mx_X8_byTurns_28, List.forall_mem_cons.mpr ⟨mx_X8_byTurns_29, List.forall_mem_cons.mpr ⟨mx_X8_byTurns_30, List.forall_mem_cons.mpr ⟨mx_X8_byTurns_31, List.forall_mem_cons.mpr ⟨mx_X8_byTurns_32, List.forall_mem_cons.mpr ⟨mx_X8_byTurns_33, List.forall_mem_cons.mpr ⟨mx_X8_byTurns_34, List.forall_mem_cons.mpr ⟨mx_X8_byTurns_35, List.forall_mem_cons.mpr ⟨mx_X8_byTurns_36, List.forall_mem_cons.mpr ⟨mx_X8_byTurns_37, List.forall_mem_cons.mpr ⟨mx_X8_byTurns_38, List.forall_mem_cons.mpr ⟨mx_X8_byTurns_39, List.forall_mem_cons.mpr ⟨mx_X8_byTurns_40, List.forall_mem_cons.mpr ⟨mx_X8_byTurns_41, List.forall_mem_cons.mpr ⟨mx_X8_byTurns_42, List.forall_mem_cons.mpr ⟨mx_X8_byTurns_43, List.forall_mem_cons.mpr ⟨mx_X8_byTurns_44, List.forall_mem_cons.mpr ⟨mx_X8_byTurns_45, fun _ h_ => absurd h_ List.not_mem_nil⟩⟩⟩⟩⟩⟩⟩⟩⟩⟩⟩⟩⟩⟩⟩⟩⟩⟩⟩⟩⟩⟩⟩⟩), (by unfold wsX8_mealBehind_r2; exact List.forall_mem_cons.mpr ⟨mx_X8_byTurns_46, List.forall_mem_cons.mpr ⟨mx_X8_byTurns_8, List.forall_mem_cons.mpr ⟨mx_X8_byTurns_9, List.forall_mem_cons.mpr ⟨mx_X8_byTurns_11, List.forall_mem_cons.mpr ⟨mx_X8_byTurns_47, List.forall_mem_cons.mpr ⟨mx_X8_byTurns_48, List.forall_mem_cons.mpr ⟨mx_X8_byTurns_49, List.forall_mem_cons.mpr ⟨mx_X8_byTurns_50, List.forall_mem_cons.mpr ⟨mx_X8_byTurns_51, List.forall_mem_cons.mpr ⟨mx_X8_byTurns_52, List.forall_mem_cons.mpr ⟨mx_X8_byTurns_53, List.forall_mem_cons.mpr ⟨mx_X8_byTurns_54, List.forall_mem_cons.mpr ⟨mx_X8_byTurns_16, fun _ h_ => absurd h_ List.not_mem_nil⟩⟩⟩⟩⟩⟩⟩⟩⟩⟩⟩⟩⟩)⟩, (fun _ h_ => mb_X8_byTurns_wsX80 h_)⟩⟩) (by decide +kernel)
theorem mx_X8_byTurns_20 : Cond.methodLink RX8 200 yX8_mealBehind ∈ wsX8_byTurns := mb_X8_byTurns_wsX8_byTurns_r1 (List.mem_of_getElem? (i := 19) rfl)
theorem mx_X8_byTurns_21 : Cond.instanceMethod yX8_mealBehind ∈ wsX8_byTurns := mb_X8_byTurns_wsX8_byTurns_r1 (List.mem_of_getElem? (i := 20) rfl)
theorem mx_X8_byTurns_22 : Cond.selects RX8 yX8_mealBehind yX8_mealBehind ∈ wsX8_byTurns := mb_X8_byTurns_wsX8_byTurns_r1 (List.mem_of_getElem? (i := 21) rfl)
theorem gX8_byTurns_X8_mealBehind : GoodIn wsX8_byTurns (wsV RX8 200 RX8 yX8_mealBehind wsX8_mealBehind) := goodIn_app (goodIn_sub (List.forall_mem_cons.mpr ⟨mx_X8_byTurns_20, List.forall_mem_cons.mpr ⟨mx_X8_byTurns_21, List.forall_mem_cons.mpr ⟨mx_X8_byTurns_22, List.forall_mem_cons.mpr ⟨mx_X8_byTurns_10, fun _ h_ => absurd h_ List.not_mem_nil⟩⟩⟩⟩) (by decide +kernel)) ggX8_byTurns_X8_mealBehind
theorem mx_X8_byTurns_15 : Cond.code yX8_putAside cX8_putAside 2 none ∈ wsX8_byTurns := mb_X8_byTurns_wsX8_byTurns_r1 (List.mem_of_getElem? (i := 14) rfl)
theorem ggX8_byTurns_X8_putAside : GoodIn wsX8_byTurns wsX8_putAside := goodIn_sub (by unfold wsX8_putAside; exact List.forall_mem_cons.mpr ⟨mx_X8_byTurns_15, List.forall_mem_append.mpr ⟨List.forall_mem_cons.mpr ⟨mx_X8_byTurns_16, List.forall_mem_cons.mpr ⟨mx_X8_byTurns_6, fun _ h_ => absurd h_ List.not_mem_nil⟩⟩, (fun _ h_ => mb_X8_byTurns_wsX80 h_)⟩⟩) (by decide +kernel)
theorem mx_X8_byTurns_12 : Cond.methodLink RX8 197 yX8_putAside ∈ wsX8_byTurns := mb_X8_byTurns_wsX8_byTurns_r1 (List.mem_of_getElem? (i := 11) rfl)
theorem mx_X8_byTurns_13 : Cond.instanceMethod yX8_putAside ∈ wsX8_byTurns := mb_X8_byTurns_wsX8_byTurns_r1 (List.mem_of_getElem? (i := 12) rfl)
theorem mx_X8_byTurns_14 : Cond.selects RX8 yX8_putAside yX8_putAside ∈ wsX8_byTurns := mb_X8_byTurns_wsX8_byTurns_r1 (List.mem_of_getElem? (i := 13) rfl)
theorem gX8_byTurns_X8_putAside : GoodIn wsX8_byTurns (wsV RX8 197 RX8 yX8_putAside wsX8_putAside) := goodIn_app (goodIn_sub (List.forall_mem_cons.mpr ⟨mx_X8_byTurns_12, List.forall_mem_cons.mpr ⟨mx_X8_byTurns_13, List.forall_mem_cons.mpr ⟨mx_X8_byTurns_14, List.forall_mem_cons.mpr ⟨mx_X8_byTurns_10, fun _ h_ => absurd h_ List.not_mem_nil⟩⟩⟩⟩) (by decide +kernel)) ggX8_byTurns_X8_putAside
theorem mx_X8_share_18 : Cond.code yX8_has cX8_has 2 (some .boolean) ∈ wsX8_share := by unfold wsX8_share; exact List.mem_cons_of_mem _ (List.mem_append_left _ (List.mem_of_getElem? (i := 17) rfl))
theorem ggX8_share_X8_has : GoodIn wsX8_share wsX8_has := goodIn_sub (by unfold wsX8_has; exact List.forall_mem_cons.mpr ⟨mx_X8_share_18, fun _ h_ => absurd h_ List.not_mem_nil⟩) (by decide +kernel)
set_option maxRecDepth 20000 in
theorem gX8_share_X8_has : GoodIn wsX8_share (va_wsS RX8 213 yX8_has wsX8_has) := goodIn_app (goodIn_of _ (by decide +kernel)) ggX8_share_X8_has
theorem mx_X8_share_11 : Cond.code yX8_in cX8_in 6 (some .boolean) ∈ wsX8_share := by unfold wsX8_share; exact List.mem_cons_of_mem _ (List.mem_append_left _ (List.mem_of_getElem? (i := 10) rfl))
theorem ggX8_share_X8_in : GoodIn wsX8_share wsX8_in := goodIn_sub (by unfold wsX8_in; exact List.forall_mem_cons.mpr ⟨mx_X8_share_11, fun _ h_ => absurd h_ List.not_mem_nil⟩) (by decide +kernel)
set_option maxRecDepth 20000 in
theorem gX8_share_X8_in : GoodIn wsX8_share (va_wsS RX8 57 yX8_in wsX8_in) := goodIn_app (goodIn_of _ (by decide +kernel)) ggX8_share_X8_in
theorem mx_X8_share_8 : Cond.code yX8_isSound cX8_isSound 2 (some .boolean) ∈ wsX8_share := by unfold wsX8_share; exact List.mem_cons_of_mem _ (List.mem_append_left _ (List.mem_of_getElem? (i := 7) rfl))
theorem mx_X8_share_3 : Cond.fieldLink RX8 19 "MillTalkModel" "st" "[I" ∈ wsX8_share := by unfold wsX8_share; exact List.mem_cons_of_mem _ (List.mem_append_left _ (List.mem_of_getElem? (i := 2) rfl))
theorem mx_X8_share_9 : Cond.methodLink RX8 57 yX8_in ∈ wsX8_share := by unfold wsX8_share; exact List.mem_cons_of_mem _ (List.mem_append_left _ (List.mem_of_getElem? (i := 8) rfl))
theorem mx_X8_share_10 : Cond.static yX8_in ∈ wsX8_share := by unfold wsX8_share; exact List.mem_cons_of_mem _ (List.mem_append_left _ (List.mem_of_getElem? (i := 9) rfl))
theorem mx_X8_share_7 : Cond.initialized RX8 ∈ wsX8_share := by unfold wsX8_share; exact List.mem_cons_of_mem _ (List.mem_append_left _ (List.mem_of_getElem? (i := 6) rfl))
theorem mb_X8_share_wsX80 {w : Cond} (h : w ∈ wsX80) : w ∈ wsX8_share := by unfold wsX8_share; exact List.mem_cons_of_mem _ (List.mem_append_right _ (h))
theorem ggX8_share_X8_isSound : GoodIn wsX8_share wsX8_isSound := goodIn_sub (by unfold wsX8_isSound; exact List.forall_mem_cons.mpr ⟨mx_X8_share_8, List.forall_mem_append.mpr ⟨List.forall_mem_cons.mpr ⟨mx_X8_share_3, List.forall_mem_cons.mpr ⟨mx_X8_share_9, List.forall_mem_cons.mpr ⟨mx_X8_share_10, List.forall_mem_cons.mpr ⟨mx_X8_share_7, List.forall_mem_cons.mpr ⟨mx_X8_share_11, fun _ h_ => absurd h_ List.not_mem_nil⟩⟩⟩⟩⟩, (fun _ h_ => mb_X8_share_wsX80 h_)⟩⟩) (by decide +kernel)
theorem mx_X8_share_4 : Cond.methodLink RX8 173 yX8_isSound ∈ wsX8_share := by unfold wsX8_share; exact List.mem_cons_of_mem _ (List.mem_append_left _ (List.mem_of_getElem? (i := 3) rfl))
theorem mx_X8_share_5 : Cond.instanceMethod yX8_isSound ∈ wsX8_share := by unfold wsX8_share; exact List.mem_cons_of_mem _ (List.mem_append_left _ (List.mem_of_getElem? (i := 4) rfl))
theorem mx_X8_share_6 : Cond.selects RX8 yX8_isSound yX8_isSound ∈ wsX8_share := by unfold wsX8_share; exact List.mem_cons_of_mem _ (List.mem_append_left _ (List.mem_of_getElem? (i := 5) rfl))
theorem gX8_share_X8_isSound : GoodIn wsX8_share (wsV RX8 173 RX8 yX8_isSound wsX8_isSound) := goodIn_app (goodIn_sub (List.forall_mem_cons.mpr ⟨mx_X8_share_4, List.forall_mem_cons.mpr ⟨mx_X8_share_5, List.forall_mem_cons.mpr ⟨mx_X8_share_6, List.forall_mem_cons.mpr ⟨mx_X8_share_7, fun _ h_ => absurd h_ List.not_mem_nil⟩⟩⟩⟩) (by decide +kernel)) ggX8_share_X8_isSound
theorem mx_X8_share_22 : Cond.code yX8_loudOf cX8_loudOf 4 (some .int) ∈ wsX8_share := by unfold wsX8_share; exact List.mem_cons_of_mem _ (List.mem_append_left _ (List.mem_of_getElem? (i := 21) rfl))
theorem mx_X8_share_16 : Cond.methodLink RX8 213 yX8_has ∈ wsX8_share := by unfold wsX8_share; exact List.mem_cons_of_mem _ (List.mem_append_left _ (List.mem_of_getElem? (i := 15) rfl))
theorem mx_X8_share_17 : Cond.static yX8_has ∈ wsX8_share := by unfold wsX8_share; exact List.mem_cons_of_mem _ (List.mem_append_left _ (List.mem_of_getElem? (i := 16) rfl))
theorem ggX8_share_X8_loudOf : GoodIn wsX8_share wsX8_loudOf := goodIn_sub (by unfold wsX8_loudOf; exact List.forall_mem_cons.mpr ⟨mx_X8_share_22, List.forall_mem_append.mpr ⟨List.forall_mem_cons.mpr ⟨mx_X8_share_3, List.forall_mem_cons.mpr ⟨mx_X8_share_16, List.forall_mem_cons.mpr ⟨mx_X8_share_17, List.forall_mem_cons.mpr ⟨mx_X8_share_7, List.forall_mem_cons.mpr ⟨mx_X8_share_18, fun _ h_ => absurd h_ List.not_mem_nil⟩⟩⟩⟩⟩, (fun _ h_ => mb_X8_share_wsX80 h_)⟩⟩) (by decide +kernel)
theorem mx_X8_share_19 : Cond.methodLink RX8 219 yX8_loudOf ∈ wsX8_share := by unfold wsX8_share; exact List.mem_cons_of_mem _ (List.mem_append_left _ (List.mem_of_getElem? (i := 18) rfl))
theorem mx_X8_share_20 : Cond.instanceMethod yX8_loudOf ∈ wsX8_share := by unfold wsX8_share; exact List.mem_cons_of_mem _ (List.mem_append_left _ (List.mem_of_getElem? (i := 19) rfl))
theorem mx_X8_share_21 : Cond.selects RX8 yX8_loudOf yX8_loudOf ∈ wsX8_share := by unfold wsX8_share; exact List.mem_cons_of_mem _ (List.mem_append_left _ (List.mem_of_getElem? (i := 20) rfl))
theorem gX8_share_X8_loudOf : GoodIn wsX8_share (wsV RX8 219 RX8 yX8_loudOf wsX8_loudOf) := goodIn_app (goodIn_sub (List.forall_mem_cons.mpr ⟨mx_X8_share_19, List.forall_mem_cons.mpr ⟨mx_X8_share_20, List.forall_mem_cons.mpr ⟨mx_X8_share_21, List.forall_mem_cons.mpr ⟨mx_X8_share_7, fun _ h_ => absurd h_ List.not_mem_nil⟩⟩⟩⟩) (by decide +kernel)) ggX8_share_X8_loudOf
theorem mx_X8_share_15 : Cond.code yX8_those cX8_those 4 (some .int) ∈ wsX8_share := by unfold wsX8_share; exact List.mem_cons_of_mem _ (List.mem_append_left _ (List.mem_of_getElem? (i := 14) rfl))
theorem ggX8_share_X8_those : GoodIn wsX8_share wsX8_those := goodIn_sub (by unfold wsX8_those; exact List.forall_mem_cons.mpr ⟨mx_X8_share_15, List.forall_mem_append.mpr ⟨List.forall_mem_cons.mpr ⟨mx_X8_share_3, fun _ h_ => absurd h_ List.not_mem_nil⟩, (fun _ h_ => mb_X8_share_wsX80 h_)⟩⟩) (by decide +kernel)
theorem mx_X8_share_12 : Cond.methodLink RX8 182 yX8_those ∈ wsX8_share := by unfold wsX8_share; exact List.mem_cons_of_mem _ (List.mem_append_left _ (List.mem_of_getElem? (i := 11) rfl))
theorem mx_X8_share_13 : Cond.instanceMethod yX8_those ∈ wsX8_share := by unfold wsX8_share; exact List.mem_cons_of_mem _ (List.mem_append_left _ (List.mem_of_getElem? (i := 12) rfl))
theorem mx_X8_share_14 : Cond.selects RX8 yX8_those yX8_those ∈ wsX8_share := by unfold wsX8_share; exact List.mem_cons_of_mem _ (List.mem_append_left _ (List.mem_of_getElem? (i := 13) rfl))
theorem gX8_share_X8_those : GoodIn wsX8_share (wsV RX8 182 RX8 yX8_those wsX8_those) := goodIn_app (goodIn_sub (List.forall_mem_cons.mpr ⟨mx_X8_share_12, List.forall_mem_cons.mpr ⟨mx_X8_share_13, List.forall_mem_cons.mpr ⟨mx_X8_share_14, List.forall_mem_cons.mpr ⟨mx_X8_share_7, fun _ h_ => absurd h_ List.not_mem_nil⟩⟩⟩⟩) (by decide +kernel)) ggX8_share_X8_those
set_option maxRecDepth 20000 in
theorem i_X8_byTurns_X8 : ∀ w ∈ u_ws RX8 TX8 24, w ∈ wsX8_byTurns := by decide +kernel
set_option maxRecDepth 20000 in
theorem i_X8_share_X8 : ∀ w ∈ u_ws RX8 TX8 24, w ∈ wsX8_share := by decide +kernel
