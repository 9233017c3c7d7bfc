/-! if winds drop, on the other side -/
section CMM
variable {fs w g f : RF} {w9 k9 h9 d i j t q sh : Nat} {a u : Int32} {x y v z : Int64}
theorem cm_c1 (hd : d < 64) (hi : i < 6) (hq : q ≤ 10) (f : ¬ hasB (nI d) (nI i)) (e : x = lN (csN d q i)) (e1 : a = 10 - nI q) (e2 : y = x * a.toInt64) : y = lN (csN d q (i + 1)) := by
  have hb : ¬ d.testBit i = true := fun z => f ((has64 d hd i hi).mpr z)
  have e5 : (10 : Int32) - nI q = nI (10 - q) := pk_sub (a := 10) hq
  show y = lN (csN d q i * (if d.testBit i = true then q else 10 - q))
  rw [if_neg hb, e2, e, e1, e5, nI_l (by omega), lN_mul]
theorem cm_c2 (hd : d < 64) (hi : i < 6) (hq : q ≤ 10) (f : hasB (nI d) (nI i)) (e : x = lN (csN d q i)) (e2 : y = x * (nI q).toInt64) : y = lN (csN d q (i + 1)) := by
  have hb : d.testBit i = true := (has64 d hd i hi).mp f
  show y = lN (csN d q i * (if d.testBit i = true then q else 10 - q))
  rw [if_pos hb, e2, e, nI_l (by omega), lN_mul]
theorem cm_d1 (hd : d < 64) (hi : i < 6) (f : ¬ hasB (nI d) (nI i)) (e : m38 w = drS (m38 fs) d i) (e1 : a = w (8 + i)) (hu : g = upd w (8 + i) a) : m38 g = drS (m38 fs) d (i + 1) := by
  have hb : ¬ d.testBit i = true := fun z => f ((has64 d hd i hi).mpr z)
  show m38 g = if d.testBit i = true then upd (drS (m38 fs) d i) (8 + i) 2 else drS (m38 fs) d i
  rw [if_neg hb, hu, up_id e1]
  exact e
theorem cm_d2 (hd : d < 64) (hi : i < 6) (f : hasB (nI d) (nI i)) (e : m38 w = drS (m38 fs) d i) (hu : g = upd w (8 + i) 2) : m38 g = drS (m38 fs) d (i + 1) := by
  have hb : d.testBit i = true := (has64 d hd i hi).mp f
  show m38 g = if d.testBit i = true then upd (drS (m38 fs) d i) (8 + i) 2 else drS (m38 fs) d i
  rw [if_pos hb, hu, m38_up (by omega), e]
theorem cm_gr (hM : okM w w9 k9 h9) (hw1 : 1 ≤ w9) (hj : j < k9) (e : m38 w = drS (m38 fs) d w9) (hF : f = mGo t w) (e1 : a = f (26 + j)) : a = mGo t (drS (m38 fs) d w9) (26 + j) := by
  rw [← e, mGo26 hM hw1 hj, e1, hF]
theorem cm_a0 (h : a = mGo t (drS (m38 fs) d w9) (26 + j)) (c : ¬ a = 1) (e : x = lN (abN (m38 fs) j t q w9 d)) (e2 : y = x + 0) : y = lN (abN (m38 fs) j t q w9 (d + 1)) := by
  have n : ¬ grP (m38 fs) j t w9 d := fun z => c (h.trans z)
  have e3 : (0 : Int64) = lN 0 := rfl
  show y = lN (abN (m38 fs) j t q w9 d + (if grP (m38 fs) j t w9 d then csN d q w9 else 0))
  rw [if_neg n, e2, e, e3, lN_add]
theorem cm_a1 (h : a = mGo t (drS (m38 fs) d w9) (26 + j)) (c : a = 1) (e : x = lN (abN (m38 fs) j t q w9 d)) (e1 : z = lN (csN d q w9)) (e2 : y = x + z) : y = lN (abN (m38 fs) j t q w9 (d + 1)) := by
  have n : grP (m38 fs) j t w9 d := h.symm.trans c
  show y = lN (abN (m38 fs) j t q w9 d + (if grP (m38 fs) j t w9 d then csN d q w9 else 0))
  rw [if_pos n, e2, e, e1, lN_add]
theorem cm_ab {r : RF} (hq : q ≤ 10) (hw : w9 ≤ 6) (hs : (1 : Int32) <<< (nI w9 &&& 31) = nI sh) (hb : sh ≤ 64) : abN r j t q w9 sh ≤ 1000000 := by
  have h := p10_le hw
  have h2 := ab_le (r := r) (s := j) (n := t) hq hw
  rw [cl_sh hw hs hb]
  omega
theorem cm_i {r : RF} (hq : q ≤ 10) (hw : w9 ≤ 6) (hs : (1 : Int32) <<< (nI w9 &&& 31) = nI sh) (hb : sh ≤ 64) (e : x = lN (abN r j t q w9 sh)) : ∃ X Y : Nat, X < 2 ^ 31 ∧ Y < 2 ^ 31 ∧ x = lN X ∧ lN (10 ^ w9) = lN Y ∧ Nat.gcd X Y = Nat.gcd (abN r j t q w9 sh) (10 ^ w9) := by
  have h := p10_le hw
  have h2 := cm_ab (r := r) (j := j) (t := t) hq hw hs hb
  exact ⟨_, _, by omega, by omega, e, rfl, rfl⟩
theorem cm_st {G : Nat} (h : ∃ X Y : Nat, X < 2 ^ 31 ∧ Y < 2 ^ 31 ∧ x = lN X ∧ y = lN Y ∧ Nat.gcd X Y = G) (c : ¬ y = 0) (e : v = x - x / y * y) : ∃ X Y : Nat, X < 2 ^ 31 ∧ Y < 2 ^ 31 ∧ y = lN X ∧ v = lN Y ∧ Nat.gcd X Y = G := by
  obtain ⟨X, Y, hX, hY, ex, ey, hg⟩ := h
  have hp : 0 < Y := by
    rcases Nat.eq_zero_or_pos Y with z | z
    · exact absurd (by rw [ey, z]; rfl) c
    · exact z
  have hl : X % Y < Y := Nat.mod_lt _ hp
  refine ⟨Y, X % Y, hY, by omega, ey, ?_, ?_⟩
  · rw [e, ex, ey, pk_lRem (by omega) hp (by omega)]
  · rw [← hg, Nat.gcd_comm Y (X % Y), ← Nat.gcd_rec, Nat.gcd_comm]
theorem cm_x {A B : Nat} (h : ∃ X Y : Nat, X < 2 ^ 31 ∧ Y < 2 ^ 31 ∧ x = lN X ∧ y = lN Y ∧ Nat.gcd X Y = Nat.gcd A B) (c : y = 0) : x = lN (Nat.gcd A B) ∧ Nat.gcd A B < 2 ^ 31 := by
  obtain ⟨X, Y, hX, hY, ex, ey, hg⟩ := h
  have z : Y = 0 := (lN_eq hY (by decide)).mp (ey.symm.trans c)
  rw [z, Nat.gcd_zero_right] at hg
  rw [← hg]
  exact ⟨ex, hX⟩
theorem cm_e (hM : okM fs w9 k9 h9) (hj : j < k9) (ht : t ≤ 60) (hq : q ≤ 10) (hu : ¬ (u < 0 ∨ 1 < u)) (hs : (1 : Int32) <<< (nI w9 &&& 31) = nI sh) (hb : sh ≤ 64) (h : x = lN (Nat.gcd (abN (m38 fs) j t q w9 sh) (10 ^ w9)) ∧ Nat.gcd (abN (m38 fs) j t q w9 sh) (10 ^ w9) < 2 ^ 31) : (¬ u = 0 → v = lN (10 ^ w9) / x → v = a_clm (m38 fs) (nI j) (nI t) (nI q) u) ∧ (u = 0 → y = lN (abN (m38 fs) j t q w9 sh) → v = y / x → v = a_clm (m38 fs) (nI j) (nI t) (nI q) u) := by
  have hw := hM.2.2.2.1
  have h2 := p10_le hw
  have h3 := cm_ab (r := m38 fs) (j := j) (t := t) hq hw hs hb
  have e := cl_sh hw hs hb
  have g1 : 0 < Nat.gcd (abN (m38 fs) j t q w9 sh) (10 ^ w9) := Nat.gcd_pos_of_pos_right _ (by omega)
  rw [clm_g (r := m38 fs) (k := k9) (w := w9) hM.2.1 hM.2.2.2.2.1 hj hM.1 hw ht hq hu, ← e]
  refine ⟨fun z e3 => ?_, fun z ey e3 => ?_⟩
  · rw [if_neg z, e3, h.1, pk_lDiv (by omega) g1 (by omega)]
  · rw [if_pos z, e3, ey, h.1, pk_lDiv (by omega) g1 (by omega)]
theorem cmM_n1 {a0 a1 a2 a3 : Int32} (h4 : fs 4 = nI k9) (f : ¬ sB (nI k9) a0) : (-1000001 : Int64) = a_clm (m38 fs) a0 a1 a2 a3 := clm_n (Or.inl (fun q => f (by rw [← h4]; exact q)))
end CMM
/-! the items on the other side -/
noncomputable def itM (f : RF) : ITm := fun r i => if r < 8 ∧ i < 40 then f (40 * r + i) else 0
theorem itM_at {f : RF} {r i : Nat} (hr : r < 8) (hi : i < 40) : itM f r i = f (40 * r + i) := if_pos ⟨hr, hi⟩
theorem itM_s {f g G : RF} {j : Nat} (hj : j < 8) (h1 : ∀ i : Nat, i < 40 → g (40 * j + i) = G i) (h2 : ∀ q : Nat, q < 40 * j ∨ 40 * j + 40 ≤ q → g q = f q) : itM g = upI (itM f) j G := by
  refine it_x (fun i hi => (itM_at hj hi).trans (h1 i hi)) (fun q i hq => ?_) (fun i hi => ?_)
  · unfold itM
    by_cases z : q < 8 ∧ i < 40
    · rw [if_pos z, if_pos z]
      exact h2 _ (by omega)
    · rw [if_neg z, if_neg z]
  · exact (if_neg (fun z => absurd z.2 (by omega))).trans (if_neg (fun z => absurd z.2 (by omega))).symm
theorem itM_u {f g : RF} {j k ix : Nat} {x : Int32} (hj : j < 8) (hk : k < 40) (hx : ix = 40 * j + k) (e : g = upd f ix x) : itM g = upI (itM f) j (upd (itM f j) k x) := by
  subst hx
  refine itM_s hj (fun i hi => ?_) (fun q hq => ?_)
  · rw [e]
    by_cases z : i = k
    · rw [z, pk_us, pk_us]
    · rw [pk_un (by omega), pk_un z]
      exact (itM_at hj hi).symm
  · rw [e, pk_un (by omega)]
theorem itM_c {f g m : RF} {a b i j n : Nat} (ha : a < 8) (hb : b < 8) (hi : i + n ≤ 40) (hj : j + n ≤ 40) (h1 : ∀ q : Nat, q < n → m q = f (40 * a + i + q)) (h2 : ∀ q : Nat, q < n → g (40 * b + j + q) = m q) (h3 : ∀ q : Nat, q < 40 * b + j ∨ 40 * b + j + n ≤ q → g q = f q) : itM g = upI (itM f) b (cpI (itM f a) (itM f b) i j n) := by
  refine itM_s hb (fun q hq => ?_) (fun q hq => h3 q (by omega))
  unfold cpI
  by_cases z : j ≤ q ∧ q < j + n
  · rw [if_pos z, itM_at ha (by omega)]
    have e1 : 40 * b + q = 40 * b + j + (q - j) := by omega
    rw [e1, h2 _ (by omega), h1 _ (by omega)]
    congr 1
    omega
  · rw [if_neg z, itM_at hb hq]
    exact h3 _ (by omega)
theorem plc_d {q b : Nat} {a v : Int32} (hq : q ≤ 40) (hb : b ≤ 12) (e : v = nI q - nI b) : (¬ (a.toInt64 < 0 ∨ v.toInt64 < a.toInt64)) ↔ plc (nI q) a (nI b) := by
  have e2 : (0 : Int64).toInt = 0 := rfl
  have e3 : (nI q - nI b).toInt = (q : Int) - b := pk_sub_toInt (by omega) (by omega)
  rw [plc_iff hq, Int64.lt_iff_toInt_lt, Int64.lt_iff_toInt_lt, Int32.toInt_toInt64, Int32.toInt_toInt64, e, e2, e3, nI_toInt (by omega)]
  omega
theorem np_1 {L i n : Int32} (h : n < 0) : ¬ plc L i n := fun z => z.2.1 h
theorem np_2 {q : Nat} {a n : Int32} {v : Int64} (hq : q ≤ 40) (hn : ¬ n < 0) (e : v = (nI q).toInt64 - n.toInt64) (h : a.toInt64 < 0 ∨ v < a.toInt64) : ¬ plc (nI q) a n := fun z => (plc_i64 hq hn e).mpr z h
section YS
variable {fn fz f g m : RF} {I : ITm} {p q p2 q2 k b : Nat} {i j n v sg o w u1 u2 : Int32}
theorem ys_1 (hp : p < 8) (h : fz p = -1) (e : o = 1) : o = f_set (mbl fn fz) (mbn fz) (nI p) i sg := e.trans (fs_1 hp (ml_n h)).symm
theorem ys_2 (hL : ∀ j : Nat, j < 8 → ¬ fz j = -1 → ¬ fn j = -1) (hp : p < 8) (h : fz p = nI q) (hq : q ≤ 40) (e1 : w = nI q - 1) (h2 : i.toInt64 < 0 ∨ w.toInt64 < i.toInt64) (e : o = 2) : o = f_set (mbl fn fz) (mbn fz) (nI p) i sg := e.trans (fs_2 hp (by rw [ml_ hp h hq]; exact mln hL hp h hq) (by rw [mn_ hp h hq]; exact fun z => (plc_i32 hq e1).mpr z h2)).symm
theorem ys_3 (hL : ∀ j : Nat, j < 8 → ¬ fz j = -1 → ¬ fn j = -1) (hp : p < 8) (h : fz p = nI q) (hq : q ≤ 40) (e1 : w = nI q - 1) (h2 : ¬ (i.toInt64 < 0 ∨ w.toInt64 < i.toInt64)) (e : o = 0) : o = f_set (mbl fn fz) (mbn fz) (nI p) i sg := e.trans (fs_3 hp (by rw [ml_ hp h hq]; exact mln hL hp h hq) (by rw [mn_ hp h hq]; exact (plc_i32 hq e1).mp h2)).symm
theorem yi_1 (hp : p < 8) (h : fz p = -1) : I = n_its (mbl fn fz) (mbn fz) I (nI p) i v := (its_1 hp (ml_n h)).symm
theorem yi_2 (hp : p < 8) (h : fz p = nI q) (hq : q ≤ 40) (e1 : w = nI q - 1) (h2 : i.toInt64 < 0 ∨ w.toInt64 < i.toInt64) : I = n_its (mbl fn fz) (mbn fz) I (nI p) i v := (its_2 hp (by rw [mn_ hp h hq]; exact fun z => (plc_i32 hq e1).mpr z h2)).symm
theorem yi_3 {ix : Nat} {l r : Int32} (hL : ∀ j : Nat, j < 8 → ¬ fz j = -1 → ¬ fn j = -1) (hp : p < 8) (h : fz p = nI q) (hq : q ≤ 40) (e1 : w = nI q - 1) (h2 : ¬ ((nI k).toInt64 < 0 ∨ w.toInt64 < (nI k).toInt64)) (hk : k < 40) (e2 : l = fn p) (e3 : r = laneM l v) (e4 : g = upd f ix r) (hx : ix = 40 * p + k) : itM g = n_its (mbl fn fz) (mbn fz) (itM f) (nI p) (nI k) v := by
  rw [its_3 hp (by rw [ml_ hp h hq]; exact mln hL hp h hq) (by rw [mn_ hp h hq]; exact (plc_i32 hq e1).mp h2) (by omega), ml_ hp h hq, ← e2, ← lane_eq, ← e3]
  exact itM_u hp hk hx e4
theorem yc_1 (hp : p < 8) (hq : q < 8) (h : fz p = -1 ∨ fz q = -1) (e : o = 1) : o = f_copy (mbl fn fz) (mbn fz) (nI p) i (nI q) j n sg := e.trans (fc_1 hp hq (h.elim (fun z => Or.inl (ml_n z)) (fun z => Or.inr (ml_n z)))).symm
theorem yc_2 (hL : ∀ j : Nat, j < 8 → ¬ fz j = -1 → ¬ fn j = -1) (hp : p < 8) (hq : q < 8) (h1 : fz p = nI p2) (b1 : p2 ≤ 40) (h2 : fz q = nI q2) (b2 : q2 ≤ 40) (d1 : u1 = fn p) (d2 : u2 = fn q) (h : ¬ u1 = u2) (e : o = 5) : o = f_copy (mbl fn fz) (mbn fz) (nI p) i (nI q) j n sg := e.trans (fc_2 hp hq (by rw [ml_ hp h1 b1]; exact mln hL hp h1 b1) (by rw [ml_ hq h2 b2]; exact mln hL hq h2 b2) (by rw [ml_ hp h1 b1, ml_ hq h2 b2, ← d1, ← d2]; exact h)).symm
theorem yc_3 (hL : ∀ j : Nat, j < 8 → ¬ fz j = -1 → ¬ fn j = -1) (hp : p < 8) (hq : q < 8) (h1 : fz p = nI p2) (b1 : p2 ≤ 40) (h2 : fz q = nI q2) (b2 : q2 ≤ 40) (d1 : u1 = fn p) (d2 : u2 = fn q) (h : u1 = u2) (h3 : ¬ plc (nI p2) i n ∨ ¬ plc (nI q2) j n) (e : o = 2) : o = f_copy (mbl fn fz) (mbn fz) (nI p) i (nI q) j n sg := e.trans (fc_3 hp hq (by rw [ml_ hp h1 b1]; exact mln hL hp h1 b1) (by rw [ml_ hq h2 b2]; exact mln hL hq h2 b2) (by rw [ml_ hp h1 b1, ml_ hq h2 b2, ← d1, ← d2]; exact h) (by rw [mn_ hp h1 b1, mn_ hq h2 b2]; exact h3)).symm
theorem yc_4 (hL : ∀ j : Nat, j < 8 → ¬ fz j = -1 → ¬ fn j = -1) (hp : p < 8) (hq : q < 8) (h1 : fz p = nI p2) (b1 : p2 ≤ 40) (h2 : fz q = nI q2) (b2 : q2 ≤ 40) (d1 : u1 = fn p) (d2 : u2 = fn q) (h : u1 = u2) (h3 : plc (nI p2) i n) (h4 : plc (nI q2) j n) (e : o = 0) : o = f_copy (mbl fn fz) (mbn fz) (nI p) i (nI q) j n sg := e.trans (fc_4 hp hq (by rw [ml_ hp h1 b1]; exact mln hL hp h1 b1) (by rw [ml_ hq h2 b2]; exact mln hL hq h2 b2) (by rw [ml_ hp h1 b1, ml_ hq h2 b2, ← d1, ← d2]; exact h) (by rw [mn_ hp h1 b1]; exact h3) (by rw [mn_ hq h2 b2]; exact h4)).symm
theorem yj_1 (hp : p < 8) (hq : q < 8) (h : fz p = -1 ∨ fz q = -1) : I = n_itc (mbl fn fz) (mbn fz) I (nI p) i (nI q) j n := (itc_n hp hq (Or.inl (h.elim (fun z => Or.inl (ml_n z)) (fun z => Or.inr (ml_n z))))).symm
theorem yj_2 (hp : p < 8) (hq : q < 8) (h1 : fz p = nI p2) (b1 : p2 ≤ 40) (h2 : fz q = nI q2) (b2 : q2 ≤ 40) (d1 : u1 = fn p) (d2 : u2 = fn q) (h : ¬ u1 = u2) : I = n_itc (mbl fn fz) (mbn fz) I (nI p) i (nI q) j n := (itc_n hp hq (Or.inr (Or.inl (by rw [ml_ hp h1 b1, ml_ hq h2 b2, ← d1, ← d2]; exact h)))).symm
theorem yj_3 (hp : p < 8) (hq : q < 8) (h1 : fz p = nI p2) (b1 : p2 ≤ 40) (h2 : fz q = nI q2) (b2 : q2 ≤ 40) (h3 : ¬ plc (nI p2) i n ∨ ¬ plc (nI q2) j n) : I = n_itc (mbl fn fz) (mbn fz) I (nI p) i (nI q) j n := (itc_n hp hq (Or.inr (Or.inr (by rw [mn_ hp h1 b1, mn_ hq h2 b2]; exact h3)))).symm
theorem yj_4 {x y c : Nat} (hL : ∀ j : Nat, j < 8 → ¬ fz j = -1 → ¬ fn j = -1) (hp : p < 8) (hq : q < 8) (h1 : fz p = nI p2) (b1 : p2 ≤ 40) (h2 : fz q = nI q2) (b2 : q2 ≤ 40) (d1 : u1 = fn p) (d2 : u2 = fn q) (h : u1 = u2) (h3 : plc (nI p2) (nI x) (nI c)) (h4 : plc (nI q2) (nI y) (nI c)) (hx : x + c ≤ 40) (hy : y + c ≤ 40) (e1 : ∀ t : Nat, t < c → m t = f (40 * p + x + t)) (e2 : ∀ t : Nat, t < c → g (40 * q + y + t) = m t) (e3 : ∀ t : Nat, t < 40 * q + y ∨ 40 * q + y + c ≤ t → g t = f t) : itM g = n_itc (mbl fn fz) (mbn fz) (itM f) (nI p) (nI x) (nI q) (nI y) (nI c) := by
  rw [itc_y hp hq (by rw [ml_ hp h1 b1]; exact mln hL hp h1 b1) (by rw [ml_ hq h2 b2]; exact mln hL hq h2 b2) (by rw [ml_ hp h1 b1, ml_ hq h2 b2, ← d1, ← d2]; exact h) (by rw [mn_ hp h1 b1]; exact h3) (by rw [mn_ hq h2 b2]; exact h4) (by omega) (by omega) (by omega)]
  exact itM_c hp hq hx hy e1 e2 e3
theorem yd_1 (hp : p < 8) (h : fz p = -1) (e : o = 1) : o = f_drop (mbl fn fz) (nI p) sg := e.trans (fd_1 hp (ml_n h)).symm
theorem yd_2 (hL : ∀ j : Nat, j < 8 → ¬ fz j = -1 → ¬ fn j = -1) (hp : p < 8) (h : fz p = nI q) (hq : q ≤ 40) (e : o = 0) : o = f_drop (mbl fn fz) (nI p) sg := e.trans (fd_2 hp (by rw [ml_ hp h hq]; exact mln hL hp h hq)).symm
end YS
theorem itM_z : itM (fun _ => 0) = (fun _ _ => 0) := by
  funext q i
  unfold itM
  split <;> rfl
/-! what fits, on the other side -/
noncomputable def lkS (l y z sg : Int32) : Int32 := if l = -1 then 1 else if plc l y z then sg else 2
theorem lk_1 {l y z sg : Int32} (h : l = -1) : (1 : Int32) = lkS l y z sg := (if_pos h).symm
theorem lk_2 {l y z sg : Int32} (h : ¬ l = -1) (h2 : ¬ plc l y z) : (2 : Int32) = lkS l y z sg := ((if_neg h).trans (if_neg h2)).symm
theorem lk_3 {l y z sg : Int32} (h : ¬ l = -1) (h2 : plc l y z) : sg = lkS l y z sg := ((if_neg h).trans (if_pos h2)).symm
theorem lk_m {l : Int32} {q : Nat} (h : l = nI q) (hq : q ≤ 40) : ¬ l = -1 := by rw [h]; exact nI_m1 hq
theorem lk_p {l a v : Int32} {q b : Nat} (h : l = nI q) (hq : q ≤ 40) (hb : b ≤ 12) (e : v = nI q - nI b) : (¬ (a.toInt64 < 0 ∨ v.toInt64 < a.toInt64)) ↔ plc l a (nI b) := by
  rw [h]
  exact plc_d hq hb e
theorem fu_lo {r : RF} {wh s n : Nat} {G : RF} : ∀ lo : Nat, fitU r wh s G n lo lo = 0
  | 0 => rfl
  | v + 1 => if_pos (Nat.lt_succ_self v)
section SOM
variable {fs f G : RF} {w9 k9 h9 i t z a b : Nat}
theorem soM_h (hM : okM fs w9 k9 h9) (hw1 : 1 ≤ w9) (hi : i < 6) (hF : f = mGo (t + 1) fs) : hdR (mGo (t + 1) (m38 fs)) i = if f (26 + i) = 0 then f (20 + i) else 99 := by
  rw [mGoM hM hw1, ← hF]
  unfold hdR
  rw [m38_at (by omega), m38_at (by omega)]
theorem so_0 {r : RF} (h : z = 1 ↔ ftB r i G t = true) (c : z = 0) : 0 = 1 ↔ ftB r i G (t + 1) = true := ⟨fun q => absurd q (by decide), fun q => absurd (h.mpr (ft_1 q).1) (by omega)⟩
theorem so_n {r : RF} (c : ¬ hdR (mGo (t + 1) r) i = G t) : 0 = 1 ↔ ftB r i G (t + 1) = true := ⟨fun q => absurd q (by decide), fun q => absurd (ft_1 q).2 c⟩
theorem so_y {r : RF} (h : z = 1 ↔ ftB r i G t = true) (hz : z ≤ 1) (c0 : ¬ z = 0) (c : hdR (mGo (t + 1) r) i = G t) : 1 = 1 ↔ ftB r i G (t + 1) = true := ⟨fun _ => ft_y (h.mp (by omega)) c, fun _ => rfl⟩
theorem so_99 {v x : Int32} (e : hdR (mGo (t + 1) (m38 fs)) i = if f (26 + i) = 0 then f (20 + i) else 99) (e1 : v = f (26 + i)) (c : ¬ v = 0) (e2 : x = G t) : (x = 99 → hdR (mGo (t + 1) (m38 fs)) i = G t) ∧ (¬ x = 99 → ¬ hdR (mGo (t + 1) (m38 fs)) i = G t) := by
  have c2 : ¬ f (26 + i) = 0 := by rw [← e1]; exact c
  rw [e, if_neg c2, ← e2]
  exact ⟨fun q => q.symm, fun q y => q y.symm⟩
theorem so_at {v u x : Int32} (e : hdR (mGo (t + 1) (m38 fs)) i = if f (26 + i) = 0 then f (20 + i) else 99) (e1 : v = f (26 + i)) (c : v = 0) (e3 : u = f (20 + i)) (e2 : x = G t) : (x = u → hdR (mGo (t + 1) (m38 fs)) i = G t) ∧ (¬ x = u → ¬ hdR (mGo (t + 1) (m38 fs)) i = G t) := by
  have c2 : f (26 + i) = 0 := by rw [← e1]; exact c
  rw [e, if_pos c2, ← e2, ← e3]
  exact ⟨fun q => q.symm, fun q y => q y.symm⟩
theorem fm_u {w g : RF} {wh x : Nat} (hw : wh < 32) (e : m38 w = m38 fs) (hu : g = upd w wh (nI x)) : upd (m38 fs) wh (nI x) = m38 g := by
  rw [hu, m38_up (by omega), e]
end SOM
section WHM
variable {fs fn fz fi : RF} {w9 k9 h9 j p m c pa : Nat} {w i sg h y z : Int32} {I : ITm}
theorem rf_M (hL : ∀ j : Nat, j < 8 → ¬ fz j = -1 → ¬ fn j = -1) (hS : ∀ j : Nat, j < 8 → fz j = -1 ∨ ∃ q : Nat, q ≤ 40 ∧ fz j = nI q) (hp : p < 8) : rfH h (mbl fn fz p) (mbn fz p) y z = rfH h (fz p) (fz p) y z ∧ f_hr h (mbl fn fz p) (mbn fz p) y z sg = f_hr h (fz p) (fz p) y z sg := by
  rcases hS p hp with q | ⟨q, hq, e⟩
  · have e1 : mbl fn fz p = -1 := ml_n q
    unfold rfH f_hr
    rw [if_pos e1, if_pos e1, if_pos q, if_pos q]
    exact ⟨rfl, rfl⟩
  · have n1 : ¬ mbl fn fz p = -1 := by
      rw [ml_ hp e hq]
      exact mln hL hp e hq
    have n2 : ¬ fz p = -1 := lk_m e hq
    have e3 : mbn fz p = fz p := (mn_ hp e hq).trans e.symm
    unfold rfH f_hr
    rw [if_neg n1, if_neg n1, if_neg n2, if_neg n2, e3]
    exact ⟨rfl, rfl⟩
theorem whM_g (hM : okM fs w9 k9 h9) (hL : ∀ j : Nat, j < 8 → ¬ fz j = -1 → ¬ fn j = -1) (hS : ∀ j : Nat, j < 8 → fz j = -1 ∨ ∃ q : Nat, q ≤ 40 ∧ fz j = nI q) (hj : j < k9) (hw : ¬ (w < 0 ∨ 1 < w)) (hp : p < 8) (hn : ¬ (nI m < 1 ∨ 12 < nI m)) (hm : m ≤ 12) : a_who (m38 fs) (mbl fn fz) (mbn fz) I (nI j) w (nI p) i (nI m) = (if ¬ rfH (fs (26 + j)) (fz p) (fz p) i (nI m) = 0 then rfH (fs (26 + j)) (fz p) (fz p) i (nI m) else if w = 0 then fitU (m38 fs) (14 + j) j (fun q => I p (i.toNatClampNeg + q)) m 1 6 else fitU (m38 fs) (20 + j) j (fun q => I p (i.toNatClampNeg + q)) m 0 (fs 0).toNatClampNeg) ∧ f_who (m38 fs) (mbl fn fz) (mbn fz) (nI j) w (nI p) i (nI m) sg = f_hr (fs (26 + j)) (fz p) (fz p) i (nI m) sg := by
  have h6 := hM.2.2.2.2.1
  have h4 : m38 fs 4 = nI k9 := hM.2.1
  have e26 : m38 fs (26 + j) = fs (26 + j) := m38_at (by omega)
  obtain ⟨a, b⟩ := who_g (r := m38 fs) (Rl := mbl fn fz) (Rn := mbn fz) (I := I) (i := i) (sg := sg) h4 h6 hj hw hp hn (by omega)
  obtain ⟨c, d⟩ := rf_M (h := fs (26 + j)) (y := i) (z := nI m) (sg := sg) hL hS hp
  rw [e26, c] at a
  rw [e26, d] at b
  exact ⟨a, b⟩
theorem guM_g (hM : okM fs w9 k9 h9) (hL : ∀ j : Nat, j < 8 → ¬ fz j = -1 → ¬ fn j = -1) (hS : ∀ j : Nat, j < 8 → fz j = -1 ∨ ∃ q : Nat, q ≤ 40 ∧ fz j = nI q) (hj : j < k9) (hw : ¬ gsB (m38 fs) w) (hp : p < 8) (hn : ¬ (nI m < 1 ∨ 12 < nI m)) (hm : m ≤ 12) : a_gus (m38 fs) (mbl fn fz) (mbn fz) I w (nI j) (nI p) i (nI m) = (if ¬ rfH (fs (26 + j)) (fz p) (fz p) i (nI m) = 0 then rfH (fs (26 + j)) (fz p) (fz p) i (nI m) else if w = -1 then fitU (m38 fs) 2 j (fun q => I p (i.toNatClampNeg + q)) m 0 5 else fitU (m38 fs) (8 + w.toNatClampNeg) j (fun q => I p (i.toNatClampNeg + q)) m 0 5) ∧ f_gus (m38 fs) (mbl fn fz) (mbn fz) w (nI j) (nI p) i (nI m) sg = f_hr (fs (26 + j)) (fz p) (fz p) i (nI m) sg := by
  have h6 := hM.2.2.2.2.1
  have h4 : m38 fs 4 = nI k9 := hM.2.1
  have e26 : m38 fs (26 + j) = fs (26 + j) := m38_at (by omega)
  obtain ⟨a, b⟩ := gus_g (r := m38 fs) (Rl := mbl fn fz) (Rn := mbn fz) (I := I) (i := i) (sg := sg) h4 h6 hj hw hp hn (by omega)
  obtain ⟨c, d⟩ := rf_M (h := fs (26 + j)) (y := i) (z := nI m) (sg := sg) hL hS hp
  rw [e26, c] at a
  rw [e26, d] at b
  exact ⟨a, b⟩
theorem clM_fit {r : RF} {wh s lo up : Nat} (hp : p < 8) (ha : pa + m ≤ 40) : fitU r wh s (fun q => fi (((40 * p) + pa) + q)) m lo up = fitU r wh s (fun q => itM fi p ((nI pa).toNatClampNeg + q)) m lo up := fu_c (fun t ht => by
  rw [nI_clamp (by omega), itM_at hp (by omega)]
  congr 1
  omega) up
theorem clM_up (e : fs 0 = nI c) (h1 : 1 ≤ c) (h2 : c ≤ 15) : c - 1 + 1 = (fs 0).toNatClampNeg := by
  rw [e, nI_clamp (by omega)]
  omega
theorem whM_b1 {s : Int32} (h4 : fs 4 = nI k9) (f : ¬ sB (nI k9) s) : ¬ (¬ s < 0 ∧ ¬ m38 fs 4 ≤ s) := fun q => f (by rw [← h4]; exact q)
theorem gsM_b {v2 : Int32} (hM : okM fs w9 k9 h9) (e : v2 = nI w9 - 1) (q : w < -1 ∨ v2 < w) : gsB (m38 fs) w := by
  have h6 := hM.2.2.2.1
  have h3 : m38 fs 3 = nI w9 := hM.1
  have e1 : (nI w9 - 1).toInt = (w9 : Int) - 1 := pk_sub_toInt (a := w9) (b := 1) (by omega) (by decide)
  have e2 : (-1 : Int32).toInt = -1 := rfl
  have e0 : (0 : Int32).toInt = 0 := rfl
  rw [e, Int32.lt_iff_toInt_lt, Int32.lt_iff_toInt_lt, e1, e2] at q
  refine ⟨fun z => ?_, fun z => ?_⟩
  · rw [z, e2] at q
    omega
  · obtain ⟨z1, z2⟩ := z
    rw [h3, Int32.le_iff_toInt_le, nI_toInt (by omega)] at z2
    rw [Int32.lt_iff_toInt_lt, e0] at z1
    omega
end WHM
theorem p10_nz {w : Nat} (h : w ≤ 6) : ¬ lN (10 ^ w) = 0 := by
  rcases (show w = 0 ∨ w = 1 ∨ w = 2 ∨ w = 3 ∨ w = 4 ∨ w = 5 ∨ w = 6 by omega) with rfl | rfl | rfl | rfl | rfl | rfl | rfl <;> decide
noncomputable def okKP (fk fq : Nat → Int32) : Prop := ∀ r : Nat, r < 2 → ¬ fk r = 0 → okK (fun j => fq (38 * r + j))
theorem kp_set {fk gk fq gq src : Nat → Int32} {n : Nat} {v : Int32} (h : okKP fk fq) (hn : n ≤ 1) (hs : okK src) (hk : upd fk (nI n).toNatClampNeg v = gk) (e1 : ∀ j : Nat, j < 38 → gq (38 * n + j) = src j) (e2 : ∀ j : Nat, j < 38 * n ∨ 38 * n + 38 ≤ j → gq j = fq j) : okKP gk gq := by
  intro r hr hz
  rw [nI_clamp (by omega)] at hk
  by_cases q : r = n
  · subst q
    exact okK_eq hs e1
  · rw [← hk] at hz
    unfold upd at hz
    rw [if_neg q] at hz
    exact okK_eq (h r hr hz) (fun j hj => e2 _ (by omega))
theorem sz_up {f g : Nat → Int32} {j n : Nat} (h : ∀ j : Nat, j < 8 → f j = -1 ∨ ∃ q : Nat, q ≤ 40 ∧ f j = nI q) (hj : j < 2 ^ 31) (hn : n ≤ 40) (e : upd f (nI j).toNatClampNeg (nI n) = g) : ∀ j : Nat, j < 8 → g j = -1 ∨ ∃ q : Nat, q ≤ 40 ∧ g j = nI q := by
  intro i hi
  rw [← e]
  unfold upd
  split
  · exact Or.inr ⟨n, hn, rfl⟩
  · exact h i hi
theorem sz_dn {f g : Nat → Int32} {j : Int32} (h : ∀ j : Nat, j < 8 → f j = -1 ∨ ∃ q : Nat, q ≤ 40 ∧ f j = nI q) (e : upd f j.toNatClampNeg (-1) = g) : ∀ j : Nat, j < 8 → g j = -1 ∨ ∃ q : Nat, q ≤ 40 ∧ g j = nI q := by
  intro i hi
  rw [← e]
  unfold upd
  split
  · exact Or.inl rfl
  · exact h i hi
theorem ar_1 {a b n : Int32} (h : a < 0 ∨ 8 ≤ a) : -1000001 = an_row a b n := by
  unfold an_row
  rw [if_pos (Or.inl h)]
theorem ar_2 {a b n : Int32} (h : b.toInt64 < 0 ∨ 2 < b.toInt64) : -1000001 = an_row a b n := by
  unfold an_row
  rw [if_pos (Or.inr (Or.inl (lane64.mp h)))]
theorem ar_3 {a b n : Int32} (h : ¬ n ≤ 40) : -1000001 = an_row a b n := by
  unfold an_row
  rw [if_pos (Or.inr (Or.inr h))]
theorem ar_no {a b n : Int32} (h1 : vp_in a 8) (h2 : ¬ (b.toInt64 < 0 ∨ 2 < b.toInt64)) (h3 : n ≤ 40) : ¬ ((a < 0 ∨ 8 ≤ a) ∨ (b < 0 ∨ 2 < b) ∨ ¬ n ≤ 40) := by
  obtain ⟨j, hj, rfl⟩ := vp_in_of h1 (by decide)
  rintro ((q | q) | q | q)
  · exact nI_pos (by omega) q
  · exact nI_ge (b := 8) hj (by decide) q
  · exact h2 (lane64.mpr q)
  · exact q h3
theorem ar_4 {a b n : Int32} (h1 : vp_in a 8) (h2 : ¬ (b.toInt64 < 0 ∨ 2 < b.toInt64)) (h3 : n ≤ 40) (h4 : ¬ 0 ≤ n) : (-1000010 - 4 : Int32) = an_row a b n := by
  unfold an_row
  rw [if_neg (ar_no h1 h2 h3), if_neg h4]
  decide
theorem ar_5 {a b n : Int32} (h1 : vp_in a 8) (h2 : ¬ (b.toInt64 < 0 ∨ 2 < b.toInt64)) (h3 : n ≤ 40) (h4 : 0 ≤ n) : n = an_row a b n := by
  unfold an_row
  rw [if_neg (ar_no h1 h2 h3), if_pos h4]
theorem im_fact {fk gk fq gq s : RF} {n r : Nat} (hn : n ≤ 1) (hr : r ≤ 1) (h0 : ¬ s 0 = 0) (hk : upd fk (nI n).toNatClampNeg (vp_nar .boolean 1) = gk) (e1 : ∀ j : Nat, j < 38 → gq (38 * n + j) = s j) (e2 : ∀ j : Nat, j < 38 * n ∨ 38 * n + 38 ≤ j → gq j = fq j) : imM gk gq r = n_image (m38 s) (imM fk fq r) (nI n) (nI r) := by
  have hv : vp_nar .boolean 1 = 1 := by decide
  rw [nI_clamp (by omega), hv] at hk
  unfold n_image imM
  rw [mm0, ← hk]
  by_cases q : n = r
  · subst q
    have c1 : nI n = nI n ∧ ¬ s 0 = 0 := ⟨rfl, h0⟩
    have c2 : ¬ upd fk n 1 n = 0 := by
      rw [pk_us]
      decide
    rw [if_pos c1, if_neg c2]
    exact m38_eq e1
  · have q2 : ¬ nI n = nI r := fun z => q ((nI_eq (by omega) (by omega)).mp z)
    have c1 : ¬ (nI n = nI r ∧ ¬ s 0 = 0) := fun z => q2 z.1
    have c2 : upd fk n 1 r = fk r := pk_un (fun z => q z.symm)
    rw [if_neg c1, c2]
    by_cases k : fk r = 0
    · rw [if_pos k, if_pos k]
    · rw [if_neg k, if_neg k]
      exact m38_eq (fun j hj => e2 _ (by omega))
theorem pk_at {fk fq : RF} {n : Nat} (hn : n ≤ 1) : pkI (imM fk fq 0) (imM fk fq 1) (nI n) = imM fk fq n := by
  unfold pkI
  rcases (show n = 0 ∨ n = 1 by omega) with rfl | rfl
  · exact if_pos (by decide)
  · exact if_neg (by decide)
theorem rst_done {fk fq s r : RF} {a n : Nat} {A : AC} (hke : okKP fk fq) (hn : n ≤ 1) (hv : ¬ fk n = 0) (e : ∀ j : Nat, j < 38 → s j = fq (38 * n + j)) : n_rst r (imM fk fq 0) (imM fk fq 1) (nI n) = m38 s ∧ m_rst a (imM fk fq 0) (imM fk fq 1) (nI n) = 0 ∧ c_rst A (imM fk fq 0) (imM fk fq 1) (nI n) = (fun _ => zR) ∧ a_rst (imM fk fq 0) (imM fk fq 1) (nI n) = 1 := by
  have h1 : imM fk fq n = m38 s := by
    unfold imM
    rw [if_neg hv]
    exact m38_eq (fun j hj => (e j hj).symm)
  have h2 : ¬ imM fk fq n 0 = 0 := by
    obtain ⟨w, k, h, hM, hk, -⟩ := hke n (by omega) hv
    rw [h1, mm0, e 0 (by decide)]
    exact cell_nz hM hk
  have hg : gd_rst (imM fk fq 0) (imM fk fq 1) (nI n) := ⟨nb2 hn, by rw [pk_at hn]; exact h2⟩
  unfold n_rst m_rst c_rst a_rst
  rw [if_pos hg, if_pos hg, if_pos hg, if_neg hg.1, if_neg hg.2, pk_at hn]
  exact ⟨h1, rfl, rfl, rfl⟩
theorem rst_not {fk fq r : RF} {a n : Nat} {A : AC} (hn : n ≤ 1) (hv : fk n = 0) : n_rst r (imM fk fq 0) (imM fk fq 1) (nI n) = r ∧ m_rst a (imM fk fq 0) (imM fk fq 1) (nI n) = a ∧ c_rst A (imM fk fq 0) (imM fk fq 1) (nI n) = A ∧ a_rst (imM fk fq 0) (imM fk fq 1) (nI n) = -1000002 := by
  have h2 : pkI (imM fk fq 0) (imM fk fq 1) (nI n) 0 = 0 := by
    rw [pk_at hn]
    unfold imM
    rw [if_pos hv]
    rfl
  unfold n_rst m_rst c_rst a_rst
  rw [if_neg (fun z => z.2 h2), if_neg (fun z => z.2 h2), if_neg (fun z => z.2 h2), if_neg (nb2 hn), if_pos h2]
  exact ⟨rfl, rfl, rfl, rfl⟩
theorem rst_bad {I0 I1 r : RF} {a : Nat} {A : AC} {k : Int32} (hb : bd2 k) : n_rst r I0 I1 k = r ∧ m_rst a I0 I1 k = a ∧ c_rst A I0 I1 k = A ∧ a_rst I0 I1 k = -1000001 := by
  unfold n_rst m_rst c_rst a_rst
  rw [if_neg (fun z => z.1 hb), if_neg (fun z => z.1 hb), if_neg (fun z => z.1 hb), if_pos hb]
  exact ⟨rfl, rfl, rfl, rfl⟩
theorem rs_01 {fk : RF} {n : Nat} (hn : n ≤ 1) (h : fk 0 = 0 ∧ fk 1 = 0) : fk n = 0 := by
  rcases (show n = 0 ∨ n = 1 by omega) with rfl | rfl
  · exact h.1
  · exact h.2
theorem dX8_calm_0 : decode cX8_calm 0 = .ok (.aload_n 0, 1) := dq_42 (by decide +kernel)
theorem dX8_calm_1 : decode cX8_calm 1 = .ok (.iload_n 1, 1) := dq_27 (by decide +kernel)
theorem dX8_calm_10 : decode cX8_calm 10 = .ok (.lconst 0, 1) := dq_9 (by decide +kernel)
theorem dX8_calm_101 : decode cX8_calm 101 = .ok (.iconst 0, 1) := dq_3 (by decide +kernel)
theorem dX8_calm_102 : decode cX8_calm 102 = .ok (.istore 12, 2) := dq_54 (b1 := 12) (by decide +kernel) (by decide)
theorem dX8_calm_104 : decode cX8_calm 104 = .ok (.iload 12, 2) := dq_21 (b1 := 12) (by decide +kernel) (by decide)
theorem dX8_calm_106 : decode cX8_calm 106 = .ok (.aload_n 0, 1) := dq_42 (by decide +kernel)
theorem dX8_calm_107 : decode cX8_calm 107 = .ok (.getfield 19, 3) := dq_180 (b1 := 0) (b2 := 19) (by decide +kernel) (by decide)
theorem dX8_calm_11 : decode cX8_calm 11 = .ok (.ldc2_w 188, 3) := dq_20 (b1 := 0) (b2 := 188) (by decide +kernel) (by decide)
theorem dX8_calm_110 : decode cX8_calm 110 = .ok (.iconst 3, 1) := dq_6 (by decide +kernel)
theorem dX8_calm_111 : decode cX8_calm 111 = .ok (.iaload, 1) := dq_46 (by decide +kernel)
theorem dX8_calm_112 : decode cX8_calm 112 = .ok (.if_icmp .ge 68, 3) := dq_162 (b1 := 0) (b2 := 68) (by decide +kernel) (by decide)
theorem dX8_calm_115 : decode cX8_calm 115 = .ok (.lload 10, 2) := dq_22 (b1 := 10) (by decide +kernel) (by decide)
theorem dX8_calm_117 : decode cX8_calm 117 = .ok (.iload 9, 2) := dq_21 (b1 := 9) (by decide +kernel) (by decide)
theorem dX8_calm_119 : decode cX8_calm 119 = .ok (.iload 12, 2) := dq_21 (b1 := 12) (by decide +kernel) (by decide)
theorem dX8_calm_121 : decode cX8_calm 121 = .ok (.invokestatic 213, 3) := dq_184 (b1 := 0) (b2 := 213) (by decide +kernel) (by decide)
theorem dX8_calm_124 : decode cX8_calm 124 = .ok (.ifCond .eq 8, 3) := dq_153 (b1 := 0) (b2 := 8) (by decide +kernel) (by decide)
theorem dX8_calm_127 : decode cX8_calm 127 = .ok (.iload_n 3, 1) := dq_29 (by decide +kernel)
theorem dX8_calm_128 : decode cX8_calm 128 = .ok (.i2l, 1) := dq_133 (by decide +kernel)
theorem dX8_calm_129 : decode cX8_calm 129 = .ok (.goto 8, 3) := dq_167 (b1 := 0) (b2 := 8) (by decide +kernel) (by decide)
theorem dX8_calm_132 : decode cX8_calm 132 = .ok (.bipush 10, 2) := dq_16 (b1 := 10) (by decide +kernel) (by decide)
theorem dX8_calm_134 : decode cX8_calm 134 = .ok (.iload_n 3, 1) := dq_29 (by decide +kernel)
theorem dX8_calm_135 : decode cX8_calm 135 = .ok (.isub, 1) := dq_100 (by decide +kernel)
theorem dX8_calm_136 : decode cX8_calm 136 = .ok (.i2l, 1) := dq_133 (by decide +kernel)
theorem dX8_calm_137 : decode cX8_calm 137 = .ok (.lmul, 1) := dq_105 (by decide +kernel)
theorem dX8_calm_138 : decode cX8_calm 138 = .ok (.lstore 10, 2) := dq_55 (b1 := 10) (by decide +kernel) (by decide)
theorem dX8_calm_14 : decode cX8_calm 14 = .ok (.invokestatic 57, 3) := dq_184 (b1 := 0) (b2 := 57) (by decide +kernel) (by decide)
theorem dX8_calm_140 : decode cX8_calm 140 = .ok (.aload_n 0, 1) := dq_42 (by decide +kernel)
theorem dX8_calm_141 : decode cX8_calm 141 = .ok (.getfield 19, 3) := dq_180 (b1 := 0) (b2 := 19) (by decide +kernel) (by decide)
theorem dX8_calm_144 : decode cX8_calm 144 = .ok (.bipush 8, 2) := dq_16 (b1 := 8) (by decide +kernel) (by decide)
theorem dX8_calm_146 : decode cX8_calm 146 = .ok (.iload 12, 2) := dq_21 (b1 := 12) (by decide +kernel) (by decide)
theorem dX8_calm_148 : decode cX8_calm 148 = .ok (.iadd, 1) := dq_96 (by decide +kernel)
theorem dX8_calm_149 : decode cX8_calm 149 = .ok (.iload 9, 2) := dq_21 (b1 := 9) (by decide +kernel) (by decide)
theorem dX8_calm_151 : decode cX8_calm 151 = .ok (.iload 12, 2) := dq_21 (b1 := 12) (by decide +kernel) (by decide)
theorem dX8_calm_153 : decode cX8_calm 153 = .ok (.invokestatic 213, 3) := dq_184 (b1 := 0) (b2 := 213) (by decide +kernel) (by decide)
theorem dX8_calm_156 : decode cX8_calm 156 = .ok (.ifCond .eq 7, 3) := dq_153 (b1 := 0) (b2 := 7) (by decide +kernel) (by decide)
theorem dX8_calm_159 : decode cX8_calm 159 = .ok (.iconst 2, 1) := dq_5 (by decide +kernel)
theorem dX8_calm_160 : decode cX8_calm 160 = .ok (.goto 13, 3) := dq_167 (b1 := 0) (b2 := 13) (by decide +kernel) (by decide)
theorem dX8_calm_163 : decode cX8_calm 163 = .ok (.aload_n 0, 1) := dq_42 (by decide +kernel)
theorem dX8_calm_164 : decode cX8_calm 164 = .ok (.getfield 19, 3) := dq_180 (b1 := 0) (b2 := 19) (by decide +kernel) (by decide)
theorem dX8_calm_167 : decode cX8_calm 167 = .ok (.bipush 8, 2) := dq_16 (b1 := 8) (by decide +kernel) (by decide)
theorem dX8_calm_169 : decode cX8_calm 169 = .ok (.iload 12, 2) := dq_21 (b1 := 12) (by decide +kernel) (by decide)
theorem dX8_calm_17 : decode cX8_calm 17 = .ok (.ifCond .eq 23, 3) := dq_153 (b1 := 0) (b2 := 23) (by decide +kernel) (by decide)
theorem dX8_calm_171 : decode cX8_calm 171 = .ok (.iadd, 1) := dq_96 (by decide +kernel)
theorem dX8_calm_172 : decode cX8_calm 172 = .ok (.iaload, 1) := dq_46 (by decide +kernel)
theorem dX8_calm_173 : decode cX8_calm 173 = .ok (.iastore, 1) := dq_79 (by decide +kernel)
theorem dX8_calm_174 : decode cX8_calm 174 = .ok (.iinc 12 1, 3) := dq_132 (b1 := 12) (b2 := 1) (by decide +kernel) (by decide) (by decide)
theorem dX8_calm_177 : decode cX8_calm 177 = .ok (.goto (-73), 3) := dq_167 (b1 := 255) (b2 := 183) (by decide +kernel) (by decide)
theorem dX8_calm_180 : decode cX8_calm 180 = .ok (.aload_n 0, 1) := dq_42 (by decide +kernel)
theorem dX8_calm_181 : decode cX8_calm 181 = .ok (.iload_n 2, 1) := dq_28 (by decide +kernel)
theorem dX8_calm_182 : decode cX8_calm 182 = .ok (.invokevirtual 190, 3) := dq_182 (b1 := 0) (b2 := 190) (by decide +kernel) (by decide)
theorem dX8_calm_185 : decode cX8_calm 185 = .ok (.lload 5, 2) := dq_22 (b1 := 5) (by decide +kernel) (by decide)
theorem dX8_calm_187 : decode cX8_calm 187 = .ok (.aload_n 0, 1) := dq_42 (by decide +kernel)
theorem dX8_calm_188 : decode cX8_calm 188 = .ok (.getfield 19, 3) := dq_180 (b1 := 0) (b2 := 19) (by decide +kernel) (by decide)
theorem dX8_calm_191 : decode cX8_calm 191 = .ok (.bipush 26, 2) := dq_16 (b1 := 26) (by decide +kernel) (by decide)
theorem dX8_calm_193 : decode cX8_calm 193 = .ok (.iload_n 1, 1) := dq_27 (by decide +kernel)
theorem dX8_calm_194 : decode cX8_calm 194 = .ok (.iadd, 1) := dq_96 (by decide +kernel)
theorem dX8_calm_195 : decode cX8_calm 195 = .ok (.iaload, 1) := dq_46 (by decide +kernel)
theorem dX8_calm_196 : decode cX8_calm 196 = .ok (.iconst 1, 1) := dq_4 (by decide +kernel)
theorem dX8_calm_197 : decode cX8_calm 197 = .ok (.if_icmp .ne 8, 3) := dq_160 (b1 := 0) (b2 := 8) (by decide +kernel) (by decide)
theorem dX8_calm_2 : decode cX8_calm 2 = .ok (.invokevirtual 173, 3) := dq_182 (b1 := 0) (b2 := 173) (by decide +kernel) (by decide)
theorem dX8_calm_20 : decode cX8_calm 20 = .ok (.iload_n 3, 1) := dq_29 (by decide +kernel)
theorem dX8_calm_200 : decode cX8_calm 200 = .ok (.lload 10, 2) := dq_22 (b1 := 10) (by decide +kernel) (by decide)
theorem dX8_calm_202 : decode cX8_calm 202 = .ok (.goto 4, 3) := dq_167 (b1 := 0) (b2 := 4) (by decide +kernel) (by decide)
theorem dX8_calm_205 : decode cX8_calm 205 = .ok (.lconst 0, 1) := dq_9 (by decide +kernel)
theorem dX8_calm_206 : decode cX8_calm 206 = .ok (.ladd, 1) := dq_97 (by decide +kernel)
theorem dX8_calm_207 : decode cX8_calm 207 = .ok (.lstore 5, 2) := dq_55 (b1 := 5) (by decide +kernel) (by decide)
theorem dX8_calm_209 : decode cX8_calm 209 = .ok (.aload_n 0, 1) := dq_42 (by decide +kernel)
theorem dX8_calm_21 : decode cX8_calm 21 = .ok (.i2l, 1) := dq_133 (by decide +kernel)
theorem dX8_calm_210 : decode cX8_calm 210 = .ok (.invokevirtual 194, 3) := dq_182 (b1 := 0) (b2 := 194) (by decide +kernel) (by decide)
theorem dX8_calm_213 : decode cX8_calm 213 = .ok (.iinc 9 1, 3) := dq_132 (b1 := 9) (b2 := 1) (by decide +kernel) (by decide) (by decide)
theorem dX8_calm_216 : decode cX8_calm 216 = .ok (.goto (-131), 3) := dq_167 (b1 := 255) (b2 := 125) (by decide +kernel) (by decide)
theorem dX8_calm_219 : decode cX8_calm 219 = .ok (.lload 5, 2) := dq_22 (b1 := 5) (by decide +kernel) (by decide)
theorem dX8_calm_22 : decode cX8_calm 22 = .ok (.lconst 0, 1) := dq_9 (by decide +kernel)
theorem dX8_calm_221 : decode cX8_calm 221 = .ok (.lstore 9, 2) := dq_55 (b1 := 9) (by decide +kernel) (by decide)
theorem dX8_calm_223 : decode cX8_calm 223 = .ok (.lload 7, 2) := dq_22 (b1 := 7) (by decide +kernel) (by decide)
theorem dX8_calm_225 : decode cX8_calm 225 = .ok (.lstore 11, 2) := dq_55 (b1 := 11) (by decide +kernel) (by decide)
theorem dX8_calm_227 : decode cX8_calm 227 = .ok (.lload 11, 2) := dq_22 (b1 := 11) (by decide +kernel) (by decide)
theorem dX8_calm_229 : decode cX8_calm 229 = .ok (.lconst 0, 1) := dq_9 (by decide +kernel)
theorem dX8_calm_23 : decode cX8_calm 23 = .ok (.ldc2_w 238, 3) := dq_20 (b1 := 0) (b2 := 238) (by decide +kernel) (by decide)
theorem dX8_calm_230 : decode cX8_calm 230 = .ok (.lcmp, 1) := dq_148 (by decide +kernel)
theorem dX8_calm_231 : decode cX8_calm 231 = .ok (.ifCond .eq 21, 3) := dq_153 (b1 := 0) (b2 := 21) (by decide +kernel) (by decide)
theorem dX8_calm_234 : decode cX8_calm 234 = .ok (.lload 9, 2) := dq_22 (b1 := 9) (by decide +kernel) (by decide)
theorem dX8_calm_236 : decode cX8_calm 236 = .ok (.lload 11, 2) := dq_22 (b1 := 11) (by decide +kernel) (by decide)
theorem dX8_calm_238 : decode cX8_calm 238 = .ok (.lrem, 1) := dq_113 (by decide +kernel)
theorem dX8_calm_239 : decode cX8_calm 239 = .ok (.lstore 13, 2) := dq_55 (b1 := 13) (by decide +kernel) (by decide)
theorem dX8_calm_241 : decode cX8_calm 241 = .ok (.lload 11, 2) := dq_22 (b1 := 11) (by decide +kernel) (by decide)
theorem dX8_calm_243 : decode cX8_calm 243 = .ok (.lstore 9, 2) := dq_55 (b1 := 9) (by decide +kernel) (by decide)
theorem dX8_calm_245 : decode cX8_calm 245 = .ok (.lload 13, 2) := dq_22 (b1 := 13) (by decide +kernel) (by decide)
theorem dX8_calm_247 : decode cX8_calm 247 = .ok (.lstore 11, 2) := dq_55 (b1 := 11) (by decide +kernel) (by decide)
theorem dX8_calm_249 : decode cX8_calm 249 = .ok (.goto (-22), 3) := dq_167 (b1 := 255) (b2 := 234) (by decide +kernel) (by decide)
theorem dX8_calm_252 : decode cX8_calm 252 = .ok (.iload 4, 2) := dq_21 (b1 := 4) (by decide +kernel) (by decide)
theorem dX8_calm_254 : decode cX8_calm 254 = .ok (.ifCond .ne 11, 3) := dq_154 (b1 := 0) (b2 := 11) (by decide +kernel) (by decide)
theorem dX8_calm_257 : decode cX8_calm 257 = .ok (.lload 5, 2) := dq_22 (b1 := 5) (by decide +kernel) (by decide)
theorem dX8_calm_259 : decode cX8_calm 259 = .ok (.lload 9, 2) := dq_22 (b1 := 9) (by decide +kernel) (by decide)
theorem dX8_calm_26 : decode cX8_calm 26 = .ok (.invokestatic 57, 3) := dq_184 (b1 := 0) (b2 := 57) (by decide +kernel) (by decide)
theorem dX8_calm_261 : decode cX8_calm 261 = .ok (.ldiv, 1) := dq_109 (by decide +kernel)
theorem dX8_calm_262 : decode cX8_calm 262 = .ok (.goto 8, 3) := dq_167 (b1 := 0) (b2 := 8) (by decide +kernel) (by decide)
theorem dX8_calm_265 : decode cX8_calm 265 = .ok (.lload 7, 2) := dq_22 (b1 := 7) (by decide +kernel) (by decide)
theorem dX8_calm_267 : decode cX8_calm 267 = .ok (.lload 9, 2) := dq_22 (b1 := 9) (by decide +kernel) (by decide)
theorem dX8_calm_269 : decode cX8_calm 269 = .ok (.ldiv, 1) := dq_109 (by decide +kernel)
theorem dX8_calm_270 : decode cX8_calm 270 = .ok (.lreturn, 1) := dq_173 (by decide +kernel)
theorem dX8_calm_29 : decode cX8_calm 29 = .ok (.ifCond .eq 11, 3) := dq_153 (b1 := 0) (b2 := 11) (by decide +kernel) (by decide)
theorem dX8_calm_32 : decode cX8_calm 32 = .ok (.iload 4, 2) := dq_21 (b1 := 4) (by decide +kernel) (by decide)
theorem dX8_calm_34 : decode cX8_calm 34 = .ok (.invokestatic 210, 3) := dq_184 (b1 := 0) (b2 := 210) (by decide +kernel) (by decide)
theorem dX8_calm_37 : decode cX8_calm 37 = .ok (.ifCond .ne 7, 3) := dq_154 (b1 := 0) (b2 := 7) (by decide +kernel) (by decide)
theorem dX8_calm_40 : decode cX8_calm 40 = .ok (.ldc2_w 240, 3) := dq_20 (b1 := 0) (b2 := 240) (by decide +kernel) (by decide)
theorem dX8_calm_43 : decode cX8_calm 43 = .ok (.lreturn, 1) := dq_173 (by decide +kernel)
theorem dX8_calm_44 : decode cX8_calm 44 = .ok (.aload_n 0, 1) := dq_42 (by decide +kernel)
theorem dX8_calm_45 : decode cX8_calm 45 = .ok (.invokevirtual 197, 3) := dq_182 (b1 := 0) (b2 := 197) (by decide +kernel) (by decide)
theorem dX8_calm_48 : decode cX8_calm 48 = .ok (.lconst 0, 1) := dq_9 (by decide +kernel)
theorem dX8_calm_49 : decode cX8_calm 49 = .ok (.lstore 5, 2) := dq_55 (b1 := 5) (by decide +kernel) (by decide)
theorem dX8_calm_5 : decode cX8_calm 5 = .ok (.ifCond .eq 35, 3) := dq_153 (b1 := 0) (b2 := 35) (by decide +kernel) (by decide)
theorem dX8_calm_51 : decode cX8_calm 51 = .ok (.lconst 1, 1) := dq_10 (by decide +kernel)
theorem dX8_calm_52 : decode cX8_calm 52 = .ok (.lstore 7, 2) := dq_55 (b1 := 7) (by decide +kernel) (by decide)
theorem dX8_calm_54 : decode cX8_calm 54 = .ok (.iconst 0, 1) := dq_3 (by decide +kernel)
theorem dX8_calm_55 : decode cX8_calm 55 = .ok (.istore 9, 2) := dq_54 (b1 := 9) (by decide +kernel) (by decide)
theorem dX8_calm_57 : decode cX8_calm 57 = .ok (.iload 9, 2) := dq_21 (b1 := 9) (by decide +kernel) (by decide)
theorem dX8_calm_59 : decode cX8_calm 59 = .ok (.aload_n 0, 1) := dq_42 (by decide +kernel)
theorem dX8_calm_60 : decode cX8_calm 60 = .ok (.getfield 19, 3) := dq_180 (b1 := 0) (b2 := 19) (by decide +kernel) (by decide)
theorem dX8_calm_63 : decode cX8_calm 63 = .ok (.iconst 3, 1) := dq_6 (by decide +kernel)
theorem dX8_calm_64 : decode cX8_calm 64 = .ok (.iaload, 1) := dq_46 (by decide +kernel)
theorem dX8_calm_65 : decode cX8_calm 65 = .ok (.if_icmp .ge 17, 3) := dq_162 (b1 := 0) (b2 := 17) (by decide +kernel) (by decide)
theorem dX8_calm_68 : decode cX8_calm 68 = .ok (.lload 7, 2) := dq_22 (b1 := 7) (by decide +kernel) (by decide)
theorem dX8_calm_70 : decode cX8_calm 70 = .ok (.ldc2_w 238, 3) := dq_20 (b1 := 0) (b2 := 238) (by decide +kernel) (by decide)
theorem dX8_calm_73 : decode cX8_calm 73 = .ok (.lmul, 1) := dq_105 (by decide +kernel)
theorem dX8_calm_74 : decode cX8_calm 74 = .ok (.lstore 7, 2) := dq_55 (b1 := 7) (by decide +kernel) (by decide)
theorem dX8_calm_76 : decode cX8_calm 76 = .ok (.iinc 9 1, 3) := dq_132 (b1 := 9) (b2 := 1) (by decide +kernel) (by decide) (by decide)
theorem dX8_calm_79 : decode cX8_calm 79 = .ok (.goto (-22), 3) := dq_167 (b1 := 255) (b2 := 234) (by decide +kernel) (by decide)
theorem dX8_calm_8 : decode cX8_calm 8 = .ok (.iload_n 2, 1) := dq_28 (by decide +kernel)
theorem dX8_calm_82 : decode cX8_calm 82 = .ok (.iconst 0, 1) := dq_3 (by decide +kernel)
theorem dX8_calm_83 : decode cX8_calm 83 = .ok (.istore 9, 2) := dq_54 (b1 := 9) (by decide +kernel) (by decide)
theorem dX8_calm_85 : decode cX8_calm 85 = .ok (.iload 9, 2) := dq_21 (b1 := 9) (by decide +kernel) (by decide)
theorem dX8_calm_87 : decode cX8_calm 87 = .ok (.iconst 1, 1) := dq_4 (by decide +kernel)
theorem dX8_calm_88 : decode cX8_calm 88 = .ok (.aload_n 0, 1) := dq_42 (by decide +kernel)
theorem dX8_calm_89 : decode cX8_calm 89 = .ok (.getfield 34, 3) := dq_180 (b1 := 0) (b2 := 34) (by decide +kernel) (by decide)
theorem dX8_calm_9 : decode cX8_calm 9 = .ok (.i2l, 1) := dq_133 (by decide +kernel)
theorem dX8_calm_92 : decode cX8_calm 92 = .ok (.iconst 3, 1) := dq_6 (by decide +kernel)
theorem dX8_calm_93 : decode cX8_calm 93 = .ok (.iaload, 1) := dq_46 (by decide +kernel)
theorem dX8_calm_94 : decode cX8_calm 94 = .ok (.ishl, 1) := dq_120 (by decide +kernel)
theorem dX8_calm_95 : decode cX8_calm 95 = .ok (.if_icmp .ge 124, 3) := dq_162 (b1 := 0) (b2 := 124) (by decide +kernel) (by decide)
theorem dX8_calm_98 : decode cX8_calm 98 = .ok (.lconst 1, 1) := dq_10 (by decide +kernel)
theorem dX8_calm_99 : decode cX8_calm 99 = .ok (.lstore 10, 2) := dq_55 (b1 := 10) (by decide +kernel) (by decide)
theorem dX8_drawn_0 : decode cX8_drawn 0 = .ok (.aload_n 0, 1) := dq_42 (by decide +kernel)
theorem dX8_drawn_1 : decode cX8_drawn 1 = .ok (.getfield 138, 3) := dq_180 (b1 := 0) (b2 := 138) (by decide +kernel) (by decide)
theorem dX8_drawn_10 : decode cX8_drawn 10 = .ok (.iload_n 1, 1) := dq_27 (by decide +kernel)
theorem dX8_drawn_100 : decode cX8_drawn 100 = .ok (.iaload, 1) := dq_46 (by decide +kernel)
theorem dX8_drawn_101 : decode cX8_drawn 101 = .ok (.i2l, 1) := dq_133 (by decide +kernel)
theorem dX8_drawn_102 : decode cX8_drawn 102 = .ok (.lrem, 1) := dq_113 (by decide +kernel)
theorem dX8_drawn_103 : decode cX8_drawn 103 = .ok (.l2i, 1) := dq_136 (by decide +kernel)
theorem dX8_drawn_104 : decode cX8_drawn 104 = .ok (.iadd, 1) := dq_96 (by decide +kernel)
theorem dX8_drawn_105 : decode cX8_drawn 105 = .ok (.lload 4, 2) := dq_22 (b1 := 4) (by decide +kernel) (by decide)
theorem dX8_drawn_107 : decode cX8_drawn 107 = .ok (.ldc2_w 250, 3) := dq_20 (b1 := 0) (b2 := 250) (by decide +kernel) (by decide)
theorem dX8_drawn_11 : decode cX8_drawn 11 = .ok (.i2l, 1) := dq_133 (by decide +kernel)
theorem dX8_drawn_110 : decode cX8_drawn 110 = .ok (.lrem, 1) := dq_113 (by decide +kernel)
theorem dX8_drawn_111 : decode cX8_drawn 111 = .ok (.l2i, 1) := dq_136 (by decide +kernel)
theorem dX8_drawn_112 : decode cX8_drawn 112 = .ok (.iastore, 1) := dq_79 (by decide +kernel)
theorem dX8_drawn_113 : decode cX8_drawn 113 = .ok (.aload_n 0, 1) := dq_42 (by decide +kernel)
theorem dX8_drawn_114 : decode cX8_drawn 114 = .ok (.getfield 19, 3) := dq_180 (b1 := 0) (b2 := 19) (by decide +kernel) (by decide)
theorem dX8_drawn_117 : decode cX8_drawn 117 = .ok (.bipush 6, 2) := dq_16 (b1 := 6) (by decide +kernel) (by decide)
theorem dX8_drawn_119 : decode cX8_drawn 119 = .ok (.lload 4, 2) := dq_22 (b1 := 4) (by decide +kernel) (by decide)
theorem dX8_drawn_12 : decode cX8_drawn 12 = .ok (.lconst 0, 1) := dq_9 (by decide +kernel)
theorem dX8_drawn_121 : decode cX8_drawn 121 = .ok (.ldc2_w 65, 3) := dq_20 (b1 := 0) (b2 := 65) (by decide +kernel) (by decide)
theorem dX8_drawn_124 : decode cX8_drawn 124 = .ok (.lrem, 1) := dq_113 (by decide +kernel)
theorem dX8_drawn_125 : decode cX8_drawn 125 = .ok (.l2i, 1) := dq_136 (by decide +kernel)
theorem dX8_drawn_126 : decode cX8_drawn 126 = .ok (.iastore, 1) := dq_79 (by decide +kernel)
theorem dX8_drawn_127 : decode cX8_drawn 127 = .ok (.lload 4, 2) := dq_22 (b1 := 4) (by decide +kernel) (by decide)
theorem dX8_drawn_129 : decode cX8_drawn 129 = .ok (.aload_n 0, 1) := dq_42 (by decide +kernel)
theorem dX8_drawn_13 : decode cX8_drawn 13 = .ok (.ldc2_w 188, 3) := dq_20 (b1 := 0) (b2 := 188) (by decide +kernel) (by decide)
theorem dX8_drawn_130 : decode cX8_drawn 130 = .ok (.getfield 19, 3) := dq_180 (b1 := 0) (b2 := 19) (by decide +kernel) (by decide)
theorem dX8_drawn_133 : decode cX8_drawn 133 = .ok (.iconst 4, 1) := dq_7 (by decide +kernel)
theorem dX8_drawn_134 : decode cX8_drawn 134 = .ok (.iaload, 1) := dq_46 (by decide +kernel)
theorem dX8_drawn_135 : decode cX8_drawn 135 = .ok (.i2l, 1) := dq_133 (by decide +kernel)
theorem dX8_drawn_136 : decode cX8_drawn 136 = .ok (.lrem, 1) := dq_113 (by decide +kernel)
theorem dX8_drawn_137 : decode cX8_drawn 137 = .ok (.l2i, 1) := dq_136 (by decide +kernel)
theorem dX8_drawn_138 : decode cX8_drawn 138 = .ok (.istore 8, 2) := dq_54 (b1 := 8) (by decide +kernel) (by decide)
theorem dX8_drawn_140 : decode cX8_drawn 140 = .ok (.aload_n 0, 1) := dq_42 (by decide +kernel)
theorem dX8_drawn_141 : decode cX8_drawn 141 = .ok (.getfield 19, 3) := dq_180 (b1 := 0) (b2 := 19) (by decide +kernel) (by decide)
theorem dX8_drawn_144 : decode cX8_drawn 144 = .ok (.bipush 26, 2) := dq_16 (b1 := 26) (by decide +kernel) (by decide)
theorem dX8_drawn_146 : decode cX8_drawn 146 = .ok (.iload 8, 2) := dq_21 (b1 := 8) (by decide +kernel) (by decide)
theorem dX8_drawn_148 : decode cX8_drawn 148 = .ok (.iadd, 1) := dq_96 (by decide +kernel)
theorem dX8_drawn_149 : decode cX8_drawn 149 = .ok (.iaload, 1) := dq_46 (by decide +kernel)
theorem dX8_drawn_150 : decode cX8_drawn 150 = .ok (.ifCond .eq 29, 3) := dq_153 (b1 := 0) (b2 := 29) (by decide +kernel) (by decide)
theorem dX8_drawn_153 : decode cX8_drawn 153 = .ok (.aload_n 0, 1) := dq_42 (by decide +kernel)
theorem dX8_drawn_154 : decode cX8_drawn 154 = .ok (.iload 8, 2) := dq_21 (b1 := 8) (by decide +kernel) (by decide)
theorem dX8_drawn_156 : decode cX8_drawn 156 = .ok (.lload 4, 2) := dq_22 (b1 := 4) (by decide +kernel) (by decide)
theorem dX8_drawn_158 : decode cX8_drawn 158 = .ok (.aload_n 0, 1) := dq_42 (by decide +kernel)
theorem dX8_drawn_159 : decode cX8_drawn 159 = .ok (.getfield 19, 3) := dq_180 (b1 := 0) (b2 := 19) (by decide +kernel) (by decide)
theorem dX8_drawn_16 : decode cX8_drawn 16 = .ok (.invokestatic 57, 3) := dq_184 (b1 := 0) (b2 := 57) (by decide +kernel) (by decide)
theorem dX8_drawn_162 : decode cX8_drawn 162 = .ok (.iconst 0, 1) := dq_3 (by decide +kernel)
theorem dX8_drawn_163 : decode cX8_drawn 163 = .ok (.iaload, 1) := dq_46 (by decide +kernel)
theorem dX8_drawn_164 : decode cX8_drawn 164 = .ok (.i2l, 1) := dq_133 (by decide +kernel)
theorem dX8_drawn_165 : decode cX8_drawn 165 = .ok (.lrem, 1) := dq_113 (by decide +kernel)
theorem dX8_drawn_166 : decode cX8_drawn 166 = .ok (.l2i, 1) := dq_136 (by decide +kernel)
theorem dX8_drawn_167 : decode cX8_drawn 167 = .ok (.lload 4, 2) := dq_22 (b1 := 4) (by decide +kernel) (by decide)
theorem dX8_drawn_169 : decode cX8_drawn 169 = .ok (.ldc2_w 252, 3) := dq_20 (b1 := 0) (b2 := 252) (by decide +kernel) (by decide)
theorem dX8_drawn_172 : decode cX8_drawn 172 = .ok (.lrem, 1) := dq_113 (by decide +kernel)
theorem dX8_drawn_173 : decode cX8_drawn 173 = .ok (.l2i, 1) := dq_136 (by decide +kernel)
theorem dX8_drawn_174 : decode cX8_drawn 174 = .ok (.iconst 1, 1) := dq_4 (by decide +kernel)
theorem dX8_drawn_175 : decode cX8_drawn 175 = .ok (.iadd, 1) := dq_96 (by decide +kernel)
theorem dX8_drawn_176 : decode cX8_drawn 176 = .ok (.invokevirtual 178, 3) := dq_182 (b1 := 0) (b2 := 178) (by decide +kernel) (by decide)
theorem dX8_drawn_179 : decode cX8_drawn 179 = .ok (.iload 6, 2) := dq_21 (b1 := 6) (by decide +kernel) (by decide)
theorem dX8_drawn_181 : decode cX8_drawn 181 = .ok (.aload_n 0, 1) := dq_42 (by decide +kernel)
theorem dX8_drawn_182 : decode cX8_drawn 182 = .ok (.invokevirtual 167, 3) := dq_182 (b1 := 0) (b2 := 167) (by decide +kernel) (by decide)
theorem dX8_drawn_185 : decode cX8_drawn 185 = .ok (.iadd, 1) := dq_96 (by decide +kernel)
theorem dX8_drawn_186 : decode cX8_drawn 186 = .ok (.istore 6, 2) := dq_54 (b1 := 6) (by decide +kernel) (by decide)
theorem dX8_drawn_188 : decode cX8_drawn 188 = .ok (.iinc 7 1, 3) := dq_132 (b1 := 7) (b2 := 1) (by decide +kernel) (by decide) (by decide)
theorem dX8_drawn_19 : decode cX8_drawn 19 = .ok (.ifCond .eq 22, 3) := dq_153 (b1 := 0) (b2 := 22) (by decide +kernel) (by decide)
theorem dX8_drawn_191 : decode cX8_drawn 191 = .ok (.goto (-133), 3) := dq_167 (b1 := 255) (b2 := 123) (by decide +kernel) (by decide)
theorem dX8_drawn_194 : decode cX8_drawn 194 = .ok (.aload_n 0, 1) := dq_42 (by decide +kernel)
theorem dX8_drawn_195 : decode cX8_drawn 195 = .ok (.iconst 2, 1) := dq_5 (by decide +kernel)
theorem dX8_drawn_196 : decode cX8_drawn 196 = .ok (.invokevirtual 182, 3) := dq_182 (b1 := 0) (b2 := 182) (by decide +kernel) (by decide)
theorem dX8_drawn_199 : decode cX8_drawn 199 = .ok (.invokestatic 254, 3) := dq_184 (b1 := 0) (b2 := 254) (by decide +kernel) (by decide)
theorem dX8_drawn_202 : decode cX8_drawn 202 = .ok (.istore 7, 2) := dq_54 (b1 := 7) (by decide +kernel) (by decide)
theorem dX8_drawn_204 : decode cX8_drawn 204 = .ok (.aload_n 0, 1) := dq_42 (by decide +kernel)
theorem dX8_drawn_205 : decode cX8_drawn 205 = .ok (.invokevirtual 194, 3) := dq_182 (b1 := 0) (b2 := 194) (by decide +kernel) (by decide)
theorem dX8_drawn_208 : decode cX8_drawn 208 = .ok (.iload_n 3, 1) := dq_29 (by decide +kernel)
theorem dX8_drawn_209 : decode cX8_drawn 209 = .ok (.ifCond .ne 8, 3) := dq_154 (b1 := 0) (b2 := 8) (by decide +kernel) (by decide)
theorem dX8_drawn_212 : decode cX8_drawn 212 = .ok (.iload 6, 2) := dq_21 (b1 := 6) (by decide +kernel) (by decide)
theorem dX8_drawn_214 : decode cX8_drawn 214 = .ok (.goto 5, 3) := dq_167 (b1 := 0) (b2 := 5) (by decide +kernel) (by decide)
theorem dX8_drawn_217 : decode cX8_drawn 217 = .ok (.iload 7, 2) := dq_21 (b1 := 7) (by decide +kernel) (by decide)
theorem dX8_drawn_219 : decode cX8_drawn 219 = .ok (.ireturn, 1) := dq_172 (by decide +kernel)
theorem dX8_drawn_22 : decode cX8_drawn 22 = .ok (.iload_n 2, 1) := dq_28 (by decide +kernel)
theorem dX8_drawn_23 : decode cX8_drawn 23 = .ok (.i2l, 1) := dq_133 (by decide +kernel)
theorem dX8_drawn_24 : decode cX8_drawn 24 = .ok (.lconst 1, 1) := dq_10 (by decide +kernel)
theorem dX8_drawn_25 : decode cX8_drawn 25 = .ok (.ldc2_w 242, 3) := dq_20 (b1 := 0) (b2 := 242) (by decide +kernel) (by decide)
theorem dX8_drawn_28 : decode cX8_drawn 28 = .ok (.invokestatic 57, 3) := dq_184 (b1 := 0) (b2 := 57) (by decide +kernel) (by decide)
theorem dX8_drawn_31 : decode cX8_drawn 31 = .ok (.ifCond .eq 10, 3) := dq_153 (b1 := 0) (b2 := 10) (by decide +kernel) (by decide)
theorem dX8_drawn_34 : decode cX8_drawn 34 = .ok (.iload_n 3, 1) := dq_29 (by decide +kernel)
theorem dX8_drawn_35 : decode cX8_drawn 35 = .ok (.invokestatic 210, 3) := dq_184 (b1 := 0) (b2 := 210) (by decide +kernel) (by decide)
theorem dX8_drawn_38 : decode cX8_drawn 38 = .ok (.ifCond .ne 6, 3) := dq_154 (b1 := 0) (b2 := 6) (by decide +kernel) (by decide)
theorem dX8_drawn_4 : decode cX8_drawn 4 = .ok (.ifCond .ne 6, 3) := dq_154 (b1 := 0) (b2 := 6) (by decide +kernel) (by decide)
theorem dX8_drawn_41 : decode cX8_drawn 41 = .ok (.ldc 67, 2) := dq_18 (b1 := 67) (by decide +kernel) (by decide)
theorem dX8_drawn_43 : decode cX8_drawn 43 = .ok (.ireturn, 1) := dq_172 (by decide +kernel)
theorem dX8_drawn_44 : decode cX8_drawn 44 = .ok (.aload_n 0, 1) := dq_42 (by decide +kernel)
theorem dX8_drawn_45 : decode cX8_drawn 45 = .ok (.invokevirtual 197, 3) := dq_182 (b1 := 0) (b2 := 197) (by decide +kernel) (by decide)
theorem dX8_drawn_48 : decode cX8_drawn 48 = .ok (.iload_n 2, 1) := dq_28 (by decide +kernel)
theorem dX8_drawn_49 : decode cX8_drawn 49 = .ok (.i2l, 1) := dq_133 (by decide +kernel)
theorem dX8_drawn_50 : decode cX8_drawn 50 = .ok (.lstore 4, 2) := dq_55 (b1 := 4) (by decide +kernel) (by decide)
theorem dX8_drawn_52 : decode cX8_drawn 52 = .ok (.iconst 0, 1) := dq_3 (by decide +kernel)
theorem dX8_drawn_53 : decode cX8_drawn 53 = .ok (.istore 6, 2) := dq_54 (b1 := 6) (by decide +kernel) (by decide)
theorem dX8_drawn_55 : decode cX8_drawn 55 = .ok (.iconst 0, 1) := dq_3 (by decide +kernel)
theorem dX8_drawn_56 : decode cX8_drawn 56 = .ok (.istore 7, 2) := dq_54 (b1 := 7) (by decide +kernel) (by decide)
theorem dX8_drawn_58 : decode cX8_drawn 58 = .ok (.iload 7, 2) := dq_21 (b1 := 7) (by decide +kernel) (by decide)
theorem dX8_drawn_60 : decode cX8_drawn 60 = .ok (.iload_n 1, 1) := dq_27 (by decide +kernel)
theorem dX8_drawn_61 : decode cX8_drawn 61 = .ok (.if_icmp .ge 133, 3) := dq_162 (b1 := 0) (b2 := 133) (by decide +kernel) (by decide)
theorem dX8_drawn_64 : decode cX8_drawn 64 = .ok (.lload 4, 2) := dq_22 (b1 := 4) (by decide +kernel) (by decide)
theorem dX8_drawn_66 : decode cX8_drawn 66 = .ok (.ldc2_w 244, 3) := dq_20 (b1 := 0) (b2 := 244) (by decide +kernel) (by decide)
theorem dX8_drawn_69 : decode cX8_drawn 69 = .ok (.lmul, 1) := dq_105 (by decide +kernel)
theorem dX8_drawn_7 : decode cX8_drawn 7 = .ok (.ldc 161, 2) := dq_18 (b1 := 161) (by decide +kernel) (by decide)
theorem dX8_drawn_70 : decode cX8_drawn 70 = .ok (.ldc2_w 246, 3) := dq_20 (b1 := 0) (b2 := 246) (by decide +kernel) (by decide)
theorem dX8_drawn_73 : decode cX8_drawn 73 = .ok (.lrem, 1) := dq_113 (by decide +kernel)
theorem dX8_drawn_74 : decode cX8_drawn 74 = .ok (.lstore 4, 2) := dq_55 (b1 := 4) (by decide +kernel) (by decide)
theorem dX8_drawn_76 : decode cX8_drawn 76 = .ok (.lload 4, 2) := dq_22 (b1 := 4) (by decide +kernel) (by decide)
theorem dX8_drawn_78 : decode cX8_drawn 78 = .ok (.ldc2_w 248, 3) := dq_20 (b1 := 0) (b2 := 248) (by decide +kernel) (by decide)
theorem dX8_drawn_81 : decode cX8_drawn 81 = .ok (.lrem, 1) := dq_113 (by decide +kernel)
theorem dX8_drawn_82 : decode cX8_drawn 82 = .ok (.lconst 0, 1) := dq_9 (by decide +kernel)
theorem dX8_drawn_83 : decode cX8_drawn 83 = .ok (.lcmp, 1) := dq_148 (by decide +kernel)
theorem dX8_drawn_84 : decode cX8_drawn 84 = .ok (.ifCond .ne 29, 3) := dq_154 (b1 := 0) (b2 := 29) (by decide +kernel) (by decide)
theorem dX8_drawn_87 : decode cX8_drawn 87 = .ok (.aload_n 0, 1) := dq_42 (by decide +kernel)
theorem dX8_drawn_88 : decode cX8_drawn 88 = .ok (.getfield 19, 3) := dq_180 (b1 := 0) (b2 := 19) (by decide +kernel) (by decide)
theorem dX8_drawn_9 : decode cX8_drawn 9 = .ok (.ireturn, 1) := dq_172 (by decide +kernel)
theorem dX8_drawn_91 : decode cX8_drawn 91 = .ok (.bipush 8, 2) := dq_16 (b1 := 8) (by decide +kernel) (by decide)
theorem dX8_drawn_93 : decode cX8_drawn 93 = .ok (.lload 4, 2) := dq_22 (b1 := 4) (by decide +kernel) (by decide)
theorem dX8_drawn_95 : decode cX8_drawn 95 = .ok (.aload_n 0, 1) := dq_42 (by decide +kernel)
theorem dX8_drawn_96 : decode cX8_drawn 96 = .ok (.getfield 19, 3) := dq_180 (b1 := 0) (b2 := 19) (by decide +kernel) (by decide)
theorem dX8_drawn_99 : decode cX8_drawn 99 = .ok (.iconst 3, 1) := dq_6 (by decide +kernel)
theorem dX8_fits_0 : decode cX8_fits 0 = .ok (.aload_n 0, 1) := dq_42 (by decide +kernel)
theorem dX8_fits_1 : decode cX8_fits 1 = .ok (.invokevirtual 197, 3) := dq_182 (b1 := 0) (b2 := 197) (by decide +kernel) (by decide)
theorem dX8_fits_10 : decode cX8_fits 10 = .ok (.iload 8, 2) := dq_21 (b1 := 8) (by decide +kernel) (by decide)
theorem dX8_fits_12 : decode cX8_fits 12 = .ok (.iload_n 3, 1) := dq_29 (by decide +kernel)
theorem dX8_fits_13 : decode cX8_fits 13 = .ok (.if_icmp .gt 43, 3) := dq_163 (b1 := 0) (b2 := 43) (by decide +kernel) (by decide)
theorem dX8_fits_16 : decode cX8_fits 16 = .ok (.aload_n 0, 1) := dq_42 (by decide +kernel)
theorem dX8_fits_17 : decode cX8_fits 17 = .ok (.getfield 19, 3) := dq_180 (b1 := 0) (b2 := 19) (by decide +kernel) (by decide)
theorem dX8_fits_20 : decode cX8_fits 20 = .ok (.iload_n 1, 1) := dq_27 (by decide +kernel)
theorem dX8_fits_21 : decode cX8_fits 21 = .ok (.iload 8, 2) := dq_21 (b1 := 8) (by decide +kernel) (by decide)
theorem dX8_fits_23 : decode cX8_fits 23 = .ok (.iastore, 1) := dq_79 (by decide +kernel)
theorem dX8_fits_24 : decode cX8_fits 24 = .ok (.iload 7, 2) := dq_21 (b1 := 7) (by decide +kernel) (by decide)
theorem dX8_fits_26 : decode cX8_fits 26 = .ok (.aload_n 0, 1) := dq_42 (by decide +kernel)
theorem dX8_fits_27 : decode cX8_fits 27 = .ok (.iload 4, 2) := dq_21 (b1 := 4) (by decide +kernel) (by decide)
theorem dX8_fits_29 : decode cX8_fits 29 = .ok (.iload 5, 2) := dq_21 (b1 := 5) (by decide +kernel) (by decide)
theorem dX8_fits_31 : decode cX8_fits 31 = .ok (.iload 6, 2) := dq_21 (b1 := 6) (by decide +kernel) (by decide)
theorem dX8_fits_33 : decode cX8_fits 33 = .ok (.invokevirtual 222, 3) := dq_182 (b1 := 0) (b2 := 222) (by decide +kernel) (by decide)
theorem dX8_fits_36 : decode cX8_fits 36 = .ok (.ifCond .eq 10, 3) := dq_153 (b1 := 0) (b2 := 10) (by decide +kernel) (by decide)
theorem dX8_fits_39 : decode cX8_fits 39 = .ok (.iconst 1, 1) := dq_4 (by decide +kernel)
theorem dX8_fits_4 : decode cX8_fits 4 = .ok (.iconst 0, 1) := dq_3 (by decide +kernel)
theorem dX8_fits_40 : decode cX8_fits 40 = .ok (.iload 8, 2) := dq_21 (b1 := 8) (by decide +kernel) (by decide)
theorem dX8_fits_42 : decode cX8_fits 42 = .ok (.ishl, 1) := dq_120 (by decide +kernel)
theorem dX8_fits_43 : decode cX8_fits 43 = .ok (.goto 4, 3) := dq_167 (b1 := 0) (b2 := 4) (by decide +kernel) (by decide)
theorem dX8_fits_46 : decode cX8_fits 46 = .ok (.iconst 0, 1) := dq_3 (by decide +kernel)
theorem dX8_fits_47 : decode cX8_fits 47 = .ok (.ior, 1) := dq_128 (by decide +kernel)
theorem dX8_fits_48 : decode cX8_fits 48 = .ok (.istore 7, 2) := dq_54 (b1 := 7) (by decide +kernel) (by decide)
theorem dX8_fits_5 : decode cX8_fits 5 = .ok (.istore 7, 2) := dq_54 (b1 := 7) (by decide +kernel) (by decide)
theorem dX8_fits_50 : decode cX8_fits 50 = .ok (.iinc 8 1, 3) := dq_132 (b1 := 8) (b2 := 1) (by decide +kernel) (by decide) (by decide)
theorem dX8_fits_53 : decode cX8_fits 53 = .ok (.goto (-43), 3) := dq_167 (b1 := 255) (b2 := 213) (by decide +kernel) (by decide)
theorem dX8_fits_56 : decode cX8_fits 56 = .ok (.aload_n 0, 1) := dq_42 (by decide +kernel)
theorem dX8_fits_57 : decode cX8_fits 57 = .ok (.iload 7, 2) := dq_21 (b1 := 7) (by decide +kernel) (by decide)
theorem dX8_fits_59 : decode cX8_fits 59 = .ok (.invokevirtual 72, 3) := dq_182 (b1 := 0) (b2 := 72) (by decide +kernel) (by decide)
theorem dX8_fits_62 : decode cX8_fits 62 = .ok (.ireturn, 1) := dq_172 (by decide +kernel)
theorem dX8_fits_7 : decode cX8_fits 7 = .ok (.iload_n 2, 1) := dq_28 (by decide +kernel)
theorem dX8_fits_8 : decode cX8_fits 8 = .ok (.istore 8, 2) := dq_54 (b1 := 8) (by decide +kernel) (by decide)
theorem dX8_gusts_0 : decode cX8_gusts 0 = .ok (.iload_n 1, 1) := dq_27 (by decide +kernel)
theorem dX8_gusts_1 : decode cX8_gusts 1 = .ok (.i2l, 1) := dq_133 (by decide +kernel)
theorem dX8_gusts_10 : decode cX8_gusts 10 = .ok (.iaload, 1) := dq_46 (by decide +kernel)
theorem dX8_gusts_100 : decode cX8_gusts 100 = .ok (.iconst 0, 1) := dq_3 (by decide +kernel)
theorem dX8_gusts_101 : decode cX8_gusts 101 = .ok (.iconst 4, 1) := dq_7 (by decide +kernel)
theorem dX8_gusts_102 : decode cX8_gusts 102 = .ok (.iload_n 2, 1) := dq_28 (by decide +kernel)
theorem dX8_gusts_103 : decode cX8_gusts 103 = .ok (.bipush 40, 2) := dq_16 (b1 := 40) (by decide +kernel) (by decide)
theorem dX8_gusts_105 : decode cX8_gusts 105 = .ok (.iload_n 3, 1) := dq_29 (by decide +kernel)
theorem dX8_gusts_106 : decode cX8_gusts 106 = .ok (.imul, 1) := dq_104 (by decide +kernel)
theorem dX8_gusts_107 : decode cX8_gusts 107 = .ok (.iload 4, 2) := dq_21 (b1 := 4) (by decide +kernel) (by decide)
theorem dX8_gusts_109 : decode cX8_gusts 109 = .ok (.iadd, 1) := dq_96 (by decide +kernel)
theorem dX8_gusts_11 : decode cX8_gusts 11 = .ok (.iconst 1, 1) := dq_4 (by decide +kernel)
theorem dX8_gusts_110 : decode cX8_gusts 110 = .ok (.iload 5, 2) := dq_21 (b1 := 5) (by decide +kernel) (by decide)
theorem dX8_gusts_112 : decode cX8_gusts 112 = .ok (.invokevirtual 232, 3) := dq_182 (b1 := 0) (b2 := 232) (by decide +kernel) (by decide)
theorem dX8_gusts_115 : decode cX8_gusts 115 = .ok (.ireturn, 1) := dq_172 (by decide +kernel)
theorem dX8_gusts_12 : decode cX8_gusts 12 = .ok (.isub, 1) := dq_100 (by decide +kernel)
theorem dX8_gusts_13 : decode cX8_gusts 13 = .ok (.i2l, 1) := dq_133 (by decide +kernel)
theorem dX8_gusts_14 : decode cX8_gusts 14 = .ok (.invokestatic 57, 3) := dq_184 (b1 := 0) (b2 := 57) (by decide +kernel) (by decide)
theorem dX8_gusts_17 : decode cX8_gusts 17 = .ok (.ifCond .eq 31, 3) := dq_153 (b1 := 0) (b2 := 31) (by decide +kernel) (by decide)
theorem dX8_gusts_2 : decode cX8_gusts 2 = .ok (.ldc2_w 236, 3) := dq_20 (b1 := 0) (b2 := 236) (by decide +kernel) (by decide)
theorem dX8_gusts_20 : decode cX8_gusts 20 = .ok (.aload_n 0, 1) := dq_42 (by decide +kernel)
theorem dX8_gusts_21 : decode cX8_gusts 21 = .ok (.iload_n 2, 1) := dq_28 (by decide +kernel)
theorem dX8_gusts_22 : decode cX8_gusts 22 = .ok (.invokevirtual 173, 3) := dq_182 (b1 := 0) (b2 := 173) (by decide +kernel) (by decide)
theorem dX8_gusts_25 : decode cX8_gusts 25 = .ok (.ifCond .eq 23, 3) := dq_153 (b1 := 0) (b2 := 23) (by decide +kernel) (by decide)
theorem dX8_gusts_28 : decode cX8_gusts 28 = .ok (.iload_n 3, 1) := dq_29 (by decide +kernel)
theorem dX8_gusts_29 : decode cX8_gusts 29 = .ok (.invokestatic 61, 3) := dq_184 (b1 := 0) (b2 := 61) (by decide +kernel) (by decide)
theorem dX8_gusts_32 : decode cX8_gusts 32 = .ok (.ifCond .eq 16, 3) := dq_153 (b1 := 0) (b2 := 16) (by decide +kernel) (by decide)
theorem dX8_gusts_35 : decode cX8_gusts 35 = .ok (.iload 5, 2) := dq_21 (b1 := 5) (by decide +kernel) (by decide)
theorem dX8_gusts_37 : decode cX8_gusts 37 = .ok (.i2l, 1) := dq_133 (by decide +kernel)
theorem dX8_gusts_38 : decode cX8_gusts 38 = .ok (.lconst 1, 1) := dq_10 (by decide +kernel)
theorem dX8_gusts_39 : decode cX8_gusts 39 = .ok (.ldc2_w 226, 3) := dq_20 (b1 := 0) (b2 := 226) (by decide +kernel) (by decide)
theorem dX8_gusts_42 : decode cX8_gusts 42 = .ok (.invokestatic 57, 3) := dq_184 (b1 := 0) (b2 := 57) (by decide +kernel) (by decide)
theorem dX8_gusts_45 : decode cX8_gusts 45 = .ok (.ifCond .ne 6, 3) := dq_154 (b1 := 0) (b2 := 6) (by decide +kernel) (by decide)
theorem dX8_gusts_48 : decode cX8_gusts 48 = .ok (.ldc 67, 2) := dq_18 (b1 := 67) (by decide +kernel) (by decide)
theorem dX8_gusts_5 : decode cX8_gusts 5 = .ok (.aload_n 0, 1) := dq_42 (by decide +kernel)
theorem dX8_gusts_50 : decode cX8_gusts 50 = .ok (.ireturn, 1) := dq_172 (by decide +kernel)
theorem dX8_gusts_51 : decode cX8_gusts 51 = .ok (.aload_n 0, 1) := dq_42 (by decide +kernel)
theorem dX8_gusts_52 : decode cX8_gusts 52 = .ok (.getfield 19, 3) := dq_180 (b1 := 0) (b2 := 19) (by decide +kernel) (by decide)
theorem dX8_gusts_55 : decode cX8_gusts 55 = .ok (.bipush 26, 2) := dq_16 (b1 := 26) (by decide +kernel) (by decide)
theorem dX8_gusts_57 : decode cX8_gusts 57 = .ok (.iload_n 2, 1) := dq_28 (by decide +kernel)
theorem dX8_gusts_58 : decode cX8_gusts 58 = .ok (.iadd, 1) := dq_96 (by decide +kernel)
theorem dX8_gusts_59 : decode cX8_gusts 59 = .ok (.iaload, 1) := dq_46 (by decide +kernel)
theorem dX8_gusts_6 : decode cX8_gusts 6 = .ok (.getfield 19, 3) := dq_180 (b1 := 0) (b2 := 19) (by decide +kernel) (by decide)
theorem dX8_gusts_60 : decode cX8_gusts 60 = .ok (.ifCond .eq 6, 3) := dq_153 (b1 := 0) (b2 := 6) (by decide +kernel) (by decide)
theorem dX8_gusts_63 : decode cX8_gusts 63 = .ok (.ldc 161, 2) := dq_18 (b1 := 161) (by decide +kernel) (by decide)
theorem dX8_gusts_65 : decode cX8_gusts 65 = .ok (.ireturn, 1) := dq_172 (by decide +kernel)
theorem dX8_gusts_66 : decode cX8_gusts 66 = .ok (.aload_n 0, 1) := dq_42 (by decide +kernel)
theorem dX8_gusts_67 : decode cX8_gusts 67 = .ok (.iload_n 3, 1) := dq_29 (by decide +kernel)
theorem dX8_gusts_68 : decode cX8_gusts 68 = .ok (.iload 4, 2) := dq_21 (b1 := 4) (by decide +kernel) (by decide)
theorem dX8_gusts_70 : decode cX8_gusts 70 = .ok (.iload 5, 2) := dq_21 (b1 := 5) (by decide +kernel) (by decide)
theorem dX8_gusts_72 : decode cX8_gusts 72 = .ok (.invokevirtual 228, 3) := dq_182 (b1 := 0) (b2 := 228) (by decide +kernel) (by decide)
theorem dX8_gusts_75 : decode cX8_gusts 75 = .ok (.istore 6, 2) := dq_54 (b1 := 6) (by decide +kernel) (by decide)
theorem dX8_gusts_77 : decode cX8_gusts 77 = .ok (.iload 6, 2) := dq_21 (b1 := 6) (by decide +kernel) (by decide)
theorem dX8_gusts_79 : decode cX8_gusts 79 = .ok (.ifCond .ge 8, 3) := dq_156 (b1 := 0) (b2 := 8) (by decide +kernel) (by decide)
theorem dX8_gusts_82 : decode cX8_gusts 82 = .ok (.iload 6, 2) := dq_21 (b1 := 6) (by decide +kernel) (by decide)
theorem dX8_gusts_84 : decode cX8_gusts 84 = .ok (.goto 31, 3) := dq_167 (b1 := 0) (b2 := 31) (by decide +kernel) (by decide)
theorem dX8_gusts_87 : decode cX8_gusts 87 = .ok (.aload_n 0, 1) := dq_42 (by decide +kernel)
theorem dX8_gusts_88 : decode cX8_gusts 88 = .ok (.iload_n 1, 1) := dq_27 (by decide +kernel)
theorem dX8_gusts_89 : decode cX8_gusts 89 = .ok (.ifCond .ge 7, 3) := dq_156 (b1 := 0) (b2 := 7) (by decide +kernel) (by decide)
theorem dX8_gusts_9 : decode cX8_gusts 9 = .ok (.iconst 3, 1) := dq_6 (by decide +kernel)
theorem dX8_gusts_92 : decode cX8_gusts 92 = .ok (.iconst 2, 1) := dq_5 (by decide +kernel)
theorem dX8_gusts_93 : decode cX8_gusts 93 = .ok (.goto 7, 3) := dq_167 (b1 := 0) (b2 := 7) (by decide +kernel) (by decide)
theorem dX8_gusts_96 : decode cX8_gusts 96 = .ok (.bipush 8, 2) := dq_16 (b1 := 8) (by decide +kernel) (by decide)
theorem dX8_gusts_98 : decode cX8_gusts 98 = .ok (.iload_n 1, 1) := dq_27 (by decide +kernel)
theorem dX8_gusts_99 : decode cX8_gusts 99 = .ok (.iadd, 1) := dq_96 (by decide +kernel)
theorem dX8_isSo_0 : decode cX8_isSo 0 = .ok (.iconst 1, 1) := dq_4 (by decide +kernel)
theorem dX8_isSo_1 : decode cX8_isSo 1 = .ok (.istore 4, 2) := dq_54 (b1 := 4) (by decide +kernel) (by decide)
theorem dX8_isSo_12 : decode cX8_isSo 12 = .ok (.aload_n 0, 1) := dq_42 (by decide +kernel)
theorem dX8_isSo_13 : decode cX8_isSo 13 = .ok (.invokevirtual 167, 3) := dq_182 (b1 := 0) (b2 := 167) (by decide +kernel) (by decide)
theorem dX8_isSo_16 : decode cX8_isSo 16 = .ok (.pop, 1) := dq_87 (by decide +kernel)
theorem dX8_isSo_17 : decode cX8_isSo 17 = .ok (.aload_n 0, 1) := dq_42 (by decide +kernel)
theorem dX8_isSo_18 : decode cX8_isSo 18 = .ok (.getfield 19, 3) := dq_180 (b1 := 0) (b2 := 19) (by decide +kernel) (by decide)
theorem dX8_isSo_21 : decode cX8_isSo 21 = .ok (.bipush 26, 2) := dq_16 (b1 := 26) (by decide +kernel) (by decide)
theorem dX8_isSo_23 : decode cX8_isSo 23 = .ok (.iload_n 1, 1) := dq_27 (by decide +kernel)
theorem dX8_isSo_24 : decode cX8_isSo 24 = .ok (.iadd, 1) := dq_96 (by decide +kernel)
theorem dX8_isSo_25 : decode cX8_isSo 25 = .ok (.iaload, 1) := dq_46 (by decide +kernel)
theorem dX8_isSo_26 : decode cX8_isSo 26 = .ok (.ifCond .ne 15, 3) := dq_154 (b1 := 0) (b2 := 15) (by decide +kernel) (by decide)
theorem dX8_isSo_29 : decode cX8_isSo 29 = .ok (.aload_n 0, 1) := dq_42 (by decide +kernel)
theorem dX8_isSo_3 : decode cX8_isSo 3 = .ok (.iconst 0, 1) := dq_3 (by decide +kernel)
theorem dX8_isSo_30 : decode cX8_isSo 30 = .ok (.getfield 19, 3) := dq_180 (b1 := 0) (b2 := 19) (by decide +kernel) (by decide)
theorem dX8_isSo_33 : decode cX8_isSo 33 = .ok (.bipush 20, 2) := dq_16 (b1 := 20) (by decide +kernel) (by decide)
theorem dX8_isSo_35 : decode cX8_isSo 35 = .ok (.iload_n 1, 1) := dq_27 (by decide +kernel)
theorem dX8_isSo_36 : decode cX8_isSo 36 = .ok (.iadd, 1) := dq_96 (by decide +kernel)
theorem dX8_isSo_37 : decode cX8_isSo 37 = .ok (.iaload, 1) := dq_46 (by decide +kernel)
theorem dX8_isSo_38 : decode cX8_isSo 38 = .ok (.goto 5, 3) := dq_167 (b1 := 0) (b2 := 5) (by decide +kernel) (by decide)
theorem dX8_isSo_4 : decode cX8_isSo 4 = .ok (.istore 5, 2) := dq_54 (b1 := 5) (by decide +kernel) (by decide)
theorem dX8_isSo_41 : decode cX8_isSo 41 = .ok (.bipush 99, 2) := dq_16 (b1 := 99) (by decide +kernel) (by decide)
theorem dX8_isSo_43 : decode cX8_isSo 43 = .ok (.istore 6, 2) := dq_54 (b1 := 6) (by decide +kernel) (by decide)
theorem dX8_isSo_45 : decode cX8_isSo 45 = .ok (.iload 4, 2) := dq_21 (b1 := 4) (by decide +kernel) (by decide)
theorem dX8_isSo_47 : decode cX8_isSo 47 = .ok (.ifCond .eq 21, 3) := dq_153 (b1 := 0) (b2 := 21) (by decide +kernel) (by decide)
theorem dX8_isSo_50 : decode cX8_isSo 50 = .ok (.aload_n 0, 1) := dq_42 (by decide +kernel)
theorem dX8_isSo_51 : decode cX8_isSo 51 = .ok (.getfield 16, 3) := dq_180 (b1 := 0) (b2 := 16) (by decide +kernel) (by decide)
theorem dX8_isSo_54 : decode cX8_isSo 54 = .ok (.iload_n 2, 1) := dq_28 (by decide +kernel)
theorem dX8_isSo_55 : decode cX8_isSo 55 = .ok (.iload 5, 2) := dq_21 (b1 := 5) (by decide +kernel) (by decide)
theorem dX8_isSo_57 : decode cX8_isSo 57 = .ok (.iadd, 1) := dq_96 (by decide +kernel)
theorem dX8_isSo_58 : decode cX8_isSo 58 = .ok (.iaload, 1) := dq_46 (by decide +kernel)
theorem dX8_isSo_59 : decode cX8_isSo 59 = .ok (.iload 6, 2) := dq_21 (b1 := 6) (by decide +kernel) (by decide)
theorem dX8_isSo_6 : decode cX8_isSo 6 = .ok (.iload 5, 2) := dq_21 (b1 := 5) (by decide +kernel) (by decide)
theorem dX8_isSo_61 : decode cX8_isSo 61 = .ok (.if_icmp .ne 7, 3) := dq_160 (b1 := 0) (b2 := 7) (by decide +kernel) (by decide)
theorem dX8_isSo_64 : decode cX8_isSo 64 = .ok (.iconst 1, 1) := dq_4 (by decide +kernel)
theorem dX8_isSo_65 : decode cX8_isSo 65 = .ok (.goto 4, 3) := dq_167 (b1 := 0) (b2 := 4) (by decide +kernel) (by decide)
theorem dX8_isSo_68 : decode cX8_isSo 68 = .ok (.iconst 0, 1) := dq_3 (by decide +kernel)
theorem dX8_isSo_69 : decode cX8_isSo 69 = .ok (.istore 4, 2) := dq_54 (b1 := 4) (by decide +kernel) (by decide)
theorem dX8_isSo_71 : decode cX8_isSo 71 = .ok (.iinc 5 1, 3) := dq_132 (b1 := 5) (b2 := 1) (by decide +kernel) (by decide) (by decide)
theorem dX8_isSo_74 : decode cX8_isSo 74 = .ok (.goto (-68), 3) := dq_167 (b1 := 255) (b2 := 188) (by decide +kernel) (by decide)
theorem dX8_isSo_77 : decode cX8_isSo 77 = .ok (.aload_n 0, 1) := dq_42 (by decide +kernel)
theorem dX8_isSo_78 : decode cX8_isSo 78 = .ok (.invokevirtual 194, 3) := dq_182 (b1 := 0) (b2 := 194) (by decide +kernel) (by decide)
theorem dX8_isSo_8 : decode cX8_isSo 8 = .ok (.iload_n 3, 1) := dq_29 (by decide +kernel)
theorem dX8_isSo_81 : decode cX8_isSo 81 = .ok (.iload 4, 2) := dq_21 (b1 := 4) (by decide +kernel) (by decide)
theorem dX8_isSo_83 : decode cX8_isSo 83 = .ok (.ireturn, 1) := dq_172 (by decide +kernel)
theorem dX8_isSo_9 : decode cX8_isSo 9 = .ok (.if_icmp .ge 68, 3) := dq_162 (b1 := 0) (b2 := 68) (by decide +kernel) (by decide)
theorem dX8_lacks_0 : decode cX8_lacks 0 = .ok (.aload_n 0, 1) := dq_42 (by decide +kernel)
theorem dX8_lacks_1 : decode cX8_lacks 1 = .ok (.getfield 13, 3) := dq_180 (b1 := 0) (b2 := 13) (by decide +kernel) (by decide)
theorem dX8_lacks_10 : decode cX8_lacks 10 = .ok (.iconst 1, 1) := dq_4 (by decide +kernel)
theorem dX8_lacks_11 : decode cX8_lacks 11 = .ok (.invokevirtual 68, 3) := dq_182 (b1 := 0) (b2 := 68) (by decide +kernel) (by decide)
theorem dX8_lacks_14 : decode cX8_lacks 14 = .ok (.ireturn, 1) := dq_172 (by decide +kernel)
theorem dX8_lacks_15 : decode cX8_lacks 15 = .ok (.iload_n 2, 1) := dq_28 (by decide +kernel)
theorem dX8_lacks_16 : decode cX8_lacks 16 = .ok (.i2l, 1) := dq_133 (by decide +kernel)
theorem dX8_lacks_17 : decode cX8_lacks 17 = .ok (.lconst 0, 1) := dq_9 (by decide +kernel)
theorem dX8_lacks_18 : decode cX8_lacks 18 = .ok (.aload_n 0, 1) := dq_42 (by decide +kernel)
theorem dX8_lacks_19 : decode cX8_lacks 19 = .ok (.getfield 13, 3) := dq_180 (b1 := 0) (b2 := 13) (by decide +kernel) (by decide)
theorem dX8_lacks_22 : decode cX8_lacks 22 = .ok (.iload_n 1, 1) := dq_27 (by decide +kernel)
theorem dX8_lacks_23 : decode cX8_lacks 23 = .ok (.iaload, 1) := dq_46 (by decide +kernel)
theorem dX8_lacks_24 : decode cX8_lacks 24 = .ok (.iload_n 3, 1) := dq_29 (by decide +kernel)
theorem dX8_lacks_25 : decode cX8_lacks 25 = .ok (.isub, 1) := dq_100 (by decide +kernel)
theorem dX8_lacks_26 : decode cX8_lacks 26 = .ok (.i2l, 1) := dq_133 (by decide +kernel)
theorem dX8_lacks_27 : decode cX8_lacks 27 = .ok (.invokestatic 57, 3) := dq_184 (b1 := 0) (b2 := 57) (by decide +kernel) (by decide)
theorem dX8_lacks_30 : decode cX8_lacks 30 = .ok (.ifCond .eq 7, 3) := dq_153 (b1 := 0) (b2 := 7) (by decide +kernel) (by decide)
theorem dX8_lacks_33 : decode cX8_lacks 33 = .ok (.iconst 0, 1) := dq_3 (by decide +kernel)
theorem dX8_lacks_34 : decode cX8_lacks 34 = .ok (.goto 8, 3) := dq_167 (b1 := 0) (b2 := 8) (by decide +kernel) (by decide)
theorem dX8_lacks_37 : decode cX8_lacks 37 = .ok (.aload_n 0, 1) := dq_42 (by decide +kernel)
theorem dX8_lacks_38 : decode cX8_lacks 38 = .ok (.iconst 2, 1) := dq_5 (by decide +kernel)
theorem dX8_lacks_39 : decode cX8_lacks 39 = .ok (.invokevirtual 68, 3) := dq_182 (b1 := 0) (b2 := 68) (by decide +kernel) (by decide)
theorem dX8_lacks_4 : decode cX8_lacks 4 = .ok (.iload_n 1, 1) := dq_27 (by decide +kernel)
theorem dX8_lacks_42 : decode cX8_lacks 42 = .ok (.ireturn, 1) := dq_172 (by decide +kernel)
theorem dX8_lacks_5 : decode cX8_lacks 5 = .ok (.iaload, 1) := dq_46 (by decide +kernel)
theorem dX8_lacks_6 : decode cX8_lacks 6 = .ok (.ifCond .ge 9, 3) := dq_156 (b1 := 0) (b2 := 9) (by decide +kernel) (by decide)
theorem dX8_lacks_9 : decode cX8_lacks 9 = .ok (.aload_n 0, 1) := dq_42 (by decide +kernel)
theorem dX8_ones_0 : decode cX8_ones 0 = .ok (.iconst 0, 1) := dq_3 (by decide +kernel)
theorem dX8_ones_1 : decode cX8_ones 1 = .ok (.istore_n 1, 1) := dq_60 (by decide +kernel)
theorem dX8_ones_11 : decode cX8_ones 11 = .ok (.iload_n 2, 1) := dq_28 (by decide +kernel)
theorem dX8_ones_12 : decode cX8_ones 12 = .ok (.iload_n 2, 1) := dq_28 (by decide +kernel)
theorem dX8_ones_13 : decode cX8_ones 13 = .ok (.iconst 1, 1) := dq_4 (by decide +kernel)
theorem dX8_ones_14 : decode cX8_ones 14 = .ok (.isub, 1) := dq_100 (by decide +kernel)
theorem dX8_ones_15 : decode cX8_ones 15 = .ok (.iand, 1) := dq_126 (by decide +kernel)
theorem dX8_ones_16 : decode cX8_ones 16 = .ok (.istore_n 2, 1) := dq_61 (by decide +kernel)
theorem dX8_ones_17 : decode cX8_ones 17 = .ok (.goto (-13), 3) := dq_167 (b1 := 255) (b2 := 243) (by decide +kernel) (by decide)
theorem dX8_ones_2 : decode cX8_ones 2 = .ok (.iload_n 0, 1) := dq_26 (by decide +kernel)
theorem dX8_ones_20 : decode cX8_ones 20 = .ok (.iload_n 1, 1) := dq_27 (by decide +kernel)
theorem dX8_ones_21 : decode cX8_ones 21 = .ok (.ireturn, 1) := dq_172 (by decide +kernel)
theorem dX8_ones_3 : decode cX8_ones 3 = .ok (.istore_n 2, 1) := dq_61 (by decide +kernel)
theorem dX8_ones_4 : decode cX8_ones 4 = .ok (.iload_n 2, 1) := dq_28 (by decide +kernel)
theorem dX8_ones_5 : decode cX8_ones 5 = .ok (.ifCond .eq 15, 3) := dq_153 (b1 := 0) (b2 := 15) (by decide +kernel) (by decide)
theorem dX8_ones_8 : decode cX8_ones 8 = .ok (.iinc 1 1, 3) := dq_132 (b1 := 1) (b2 := 1) (by decide +kernel) (by decide) (by decide)
theorem dX8_who_0 : decode cX8_who 0 = .ok (.aload_n 0, 1) := dq_42 (by decide +kernel)
theorem dX8_who_1 : decode cX8_who 1 = .ok (.iload_n 1, 1) := dq_27 (by decide +kernel)
theorem dX8_who_102 : decode cX8_who 102 = .ok (.goto 25, 3) := dq_167 (b1 := 0) (b2 := 25) (by decide +kernel) (by decide)
theorem dX8_who_105 : decode cX8_who 105 = .ok (.aload_n 0, 1) := dq_42 (by decide +kernel)
theorem dX8_who_106 : decode cX8_who 106 = .ok (.bipush 20, 2) := dq_16 (b1 := 20) (by decide +kernel) (by decide)
theorem dX8_who_108 : decode cX8_who 108 = .ok (.iload_n 1, 1) := dq_27 (by decide +kernel)
theorem dX8_who_109 : decode cX8_who 109 = .ok (.iadd, 1) := dq_96 (by decide +kernel)
theorem dX8_who_110 : decode cX8_who 110 = .ok (.iconst 0, 1) := dq_3 (by decide +kernel)
theorem dX8_who_111 : decode cX8_who 111 = .ok (.aload_n 0, 1) := dq_42 (by decide +kernel)
theorem dX8_who_112 : decode cX8_who 112 = .ok (.getfield 19, 3) := dq_180 (b1 := 0) (b2 := 19) (by decide +kernel) (by decide)
theorem dX8_who_115 : decode cX8_who 115 = .ok (.iconst 0, 1) := dq_3 (by decide +kernel)
theorem dX8_who_116 : decode cX8_who 116 = .ok (.iaload, 1) := dq_46 (by decide +kernel)
theorem dX8_who_117 : decode cX8_who 117 = .ok (.iconst 1, 1) := dq_4 (by decide +kernel)
theorem dX8_who_118 : decode cX8_who 118 = .ok (.isub, 1) := dq_100 (by decide +kernel)
theorem dX8_who_119 : decode cX8_who 119 = .ok (.iload_n 1, 1) := dq_27 (by decide +kernel)
theorem dX8_who_12 : decode cX8_who 12 = .ok (.ifCond .eq 23, 3) := dq_153 (b1 := 0) (b2 := 23) (by decide +kernel) (by decide)
theorem dX8_who_120 : decode cX8_who 120 = .ok (.iload 7, 2) := dq_21 (b1 := 7) (by decide +kernel) (by decide)
theorem dX8_who_122 : decode cX8_who 122 = .ok (.iload 5, 2) := dq_21 (b1 := 5) (by decide +kernel) (by decide)
theorem dX8_who_124 : decode cX8_who 124 = .ok (.invokevirtual 232, 3) := dq_182 (b1 := 0) (b2 := 232) (by decide +kernel) (by decide)
theorem dX8_who_127 : decode cX8_who 127 = .ok (.ireturn, 1) := dq_172 (by decide +kernel)
theorem dX8_who_15 : decode cX8_who 15 = .ok (.iload_n 3, 1) := dq_29 (by decide +kernel)
theorem dX8_who_16 : decode cX8_who 16 = .ok (.invokestatic 61, 3) := dq_184 (b1 := 0) (b2 := 61) (by decide +kernel) (by decide)
theorem dX8_who_19 : decode cX8_who 19 = .ok (.ifCond .eq 16, 3) := dq_153 (b1 := 0) (b2 := 16) (by decide +kernel) (by decide)
theorem dX8_who_2 : decode cX8_who 2 = .ok (.invokevirtual 173, 3) := dq_182 (b1 := 0) (b2 := 173) (by decide +kernel) (by decide)
theorem dX8_who_22 : decode cX8_who 22 = .ok (.iload 5, 2) := dq_21 (b1 := 5) (by decide +kernel) (by decide)
theorem dX8_who_24 : decode cX8_who 24 = .ok (.i2l, 1) := dq_133 (by decide +kernel)
theorem dX8_who_25 : decode cX8_who 25 = .ok (.lconst 1, 1) := dq_10 (by decide +kernel)
theorem dX8_who_26 : decode cX8_who 26 = .ok (.ldc2_w 226, 3) := dq_20 (b1 := 0) (b2 := 226) (by decide +kernel) (by decide)
theorem dX8_who_29 : decode cX8_who 29 = .ok (.invokestatic 57, 3) := dq_184 (b1 := 0) (b2 := 57) (by decide +kernel) (by decide)
theorem dX8_who_32 : decode cX8_who 32 = .ok (.ifCond .ne 6, 3) := dq_154 (b1 := 0) (b2 := 6) (by decide +kernel) (by decide)
theorem dX8_who_35 : decode cX8_who 35 = .ok (.ldc 67, 2) := dq_18 (b1 := 67) (by decide +kernel) (by decide)
theorem dX8_who_37 : decode cX8_who 37 = .ok (.ireturn, 1) := dq_172 (by decide +kernel)
theorem dX8_who_38 : decode cX8_who 38 = .ok (.aload_n 0, 1) := dq_42 (by decide +kernel)
theorem dX8_who_39 : decode cX8_who 39 = .ok (.getfield 19, 3) := dq_180 (b1 := 0) (b2 := 19) (by decide +kernel) (by decide)
theorem dX8_who_42 : decode cX8_who 42 = .ok (.bipush 26, 2) := dq_16 (b1 := 26) (by decide +kernel) (by decide)
theorem dX8_who_44 : decode cX8_who 44 = .ok (.iload_n 1, 1) := dq_27 (by decide +kernel)
theorem dX8_who_45 : decode cX8_who 45 = .ok (.iadd, 1) := dq_96 (by decide +kernel)
theorem dX8_who_46 : decode cX8_who 46 = .ok (.iaload, 1) := dq_46 (by decide +kernel)
theorem dX8_who_47 : decode cX8_who 47 = .ok (.ifCond .eq 6, 3) := dq_153 (b1 := 0) (b2 := 6) (by decide +kernel) (by decide)
theorem dX8_who_5 : decode cX8_who 5 = .ok (.ifCond .eq 30, 3) := dq_153 (b1 := 0) (b2 := 30) (by decide +kernel) (by decide)
theorem dX8_who_50 : decode cX8_who 50 = .ok (.ldc 161, 2) := dq_18 (b1 := 161) (by decide +kernel) (by decide)
theorem dX8_who_52 : decode cX8_who 52 = .ok (.ireturn, 1) := dq_172 (by decide +kernel)
theorem dX8_who_53 : decode cX8_who 53 = .ok (.aload_n 0, 1) := dq_42 (by decide +kernel)
theorem dX8_who_54 : decode cX8_who 54 = .ok (.iload_n 3, 1) := dq_29 (by decide +kernel)
theorem dX8_who_55 : decode cX8_who 55 = .ok (.iload 4, 2) := dq_21 (b1 := 4) (by decide +kernel) (by decide)
theorem dX8_who_57 : decode cX8_who 57 = .ok (.iload 5, 2) := dq_21 (b1 := 5) (by decide +kernel) (by decide)
theorem dX8_who_59 : decode cX8_who 59 = .ok (.invokevirtual 228, 3) := dq_182 (b1 := 0) (b2 := 228) (by decide +kernel) (by decide)
theorem dX8_who_62 : decode cX8_who 62 = .ok (.istore 6, 2) := dq_54 (b1 := 6) (by decide +kernel) (by decide)
theorem dX8_who_64 : decode cX8_who 64 = .ok (.bipush 40, 2) := dq_16 (b1 := 40) (by decide +kernel) (by decide)
theorem dX8_who_66 : decode cX8_who 66 = .ok (.iload_n 3, 1) := dq_29 (by decide +kernel)
theorem dX8_who_67 : decode cX8_who 67 = .ok (.imul, 1) := dq_104 (by decide +kernel)
theorem dX8_who_68 : decode cX8_who 68 = .ok (.iload 4, 2) := dq_21 (b1 := 4) (by decide +kernel) (by decide)
theorem dX8_who_70 : decode cX8_who 70 = .ok (.iadd, 1) := dq_96 (by decide +kernel)
theorem dX8_who_71 : decode cX8_who 71 = .ok (.istore 7, 2) := dq_54 (b1 := 7) (by decide +kernel) (by decide)
theorem dX8_who_73 : decode cX8_who 73 = .ok (.iload 6, 2) := dq_21 (b1 := 6) (by decide +kernel) (by decide)
theorem dX8_who_75 : decode cX8_who 75 = .ok (.ifCond .ge 8, 3) := dq_156 (b1 := 0) (b2 := 8) (by decide +kernel) (by decide)
theorem dX8_who_78 : decode cX8_who 78 = .ok (.iload 6, 2) := dq_21 (b1 := 6) (by decide +kernel) (by decide)
theorem dX8_who_8 : decode cX8_who 8 = .ok (.iload_n 2, 1) := dq_28 (by decide +kernel)
theorem dX8_who_80 : decode cX8_who 80 = .ok (.goto 47, 3) := dq_167 (b1 := 0) (b2 := 47) (by decide +kernel) (by decide)
theorem dX8_who_83 : decode cX8_who 83 = .ok (.iload_n 2, 1) := dq_28 (by decide +kernel)
theorem dX8_who_84 : decode cX8_who 84 = .ok (.ifCond .ne 21, 3) := dq_154 (b1 := 0) (b2 := 21) (by decide +kernel) (by decide)
theorem dX8_who_87 : decode cX8_who 87 = .ok (.aload_n 0, 1) := dq_42 (by decide +kernel)
theorem dX8_who_88 : decode cX8_who 88 = .ok (.bipush 14, 2) := dq_16 (b1 := 14) (by decide +kernel) (by decide)
theorem dX8_who_9 : decode cX8_who 9 = .ok (.invokestatic 210, 3) := dq_184 (b1 := 0) (b2 := 210) (by decide +kernel) (by decide)
theorem dX8_who_90 : decode cX8_who 90 = .ok (.iload_n 1, 1) := dq_27 (by decide +kernel)
theorem dX8_who_91 : decode cX8_who 91 = .ok (.iadd, 1) := dq_96 (by decide +kernel)
theorem dX8_who_92 : decode cX8_who 92 = .ok (.iconst 1, 1) := dq_4 (by decide +kernel)
theorem dX8_who_93 : decode cX8_who 93 = .ok (.iconst 5, 1) := dq_8 (by decide +kernel)
theorem dX8_who_94 : decode cX8_who 94 = .ok (.iload_n 1, 1) := dq_27 (by decide +kernel)
theorem dX8_who_95 : decode cX8_who 95 = .ok (.iload 7, 2) := dq_21 (b1 := 7) (by decide +kernel) (by decide)
theorem dX8_who_97 : decode cX8_who 97 = .ok (.iload 5, 2) := dq_21 (b1 := 5) (by decide +kernel) (by decide)
theorem dX8_who_99 : decode cX8_who 99 = .ok (.invokevirtual 232, 3) := dq_182 (b1 := 0) (b2 := 232) (by decide +kernel) (by decide)
theorem mb_X8_calm_wsX8_calm_r2 {w : Cond} (h : w ∈ wsX8_calm_r2) : w ∈ wsX8_calm := by unfold wsX8_calm; exact List.mem_cons_of_mem _ (List.mem_append_left _ (List.mem_append_right _ (List.mem_append_left _ (h))))
theorem mx_X8_calm_27 : Cond.code yX8_goOn cX8_goOn 3 none ∈ wsX8_calm := mb_X8_calm_wsX8_calm_r2 (List.mem_of_getElem? (i := 2) rfl)
theorem mx_X8_calm_28 : Cond.methodLink RX8 167 yX8_oneHour ∈ wsX8_calm := mb_X8_calm_wsX8_calm_r2 (List.mem_of_getElem? (i := 3) rfl)
theorem mx_X8_calm_29 : Cond.instanceMethod yX8_oneHour ∈ wsX8_calm := mb_X8_calm_wsX8_calm_r2 (List.mem_of_getElem? (i := 4) rfl)
theorem mx_X8_calm_30 : Cond.selects RX8 yX8_oneHour yX8_oneHour ∈ wsX8_calm := mb_X8_calm_wsX8_calm_r2 (List.mem_of_getElem? (i := 5) rfl)
theorem mb_X8_calm_wsX8_calm_r1 {w : Cond} (h : w ∈ wsX8_calm_r1) : w ∈ wsX8_calm := by unfold wsX8_calm; exact List.mem_cons_of_mem _ (List.mem_append_left _ (List.mem_append_left _ (h)))
theorem mx_X8_calm_9 : Cond.initialized RX8 ∈ wsX8_calm := mb_X8_calm_wsX8_calm_r1 (List.mem_of_getElem? (i := 8) rfl)
theorem mx_X8_calm_31 : Cond.code yX8_oneHour cX8_oneHour 4 (some .int) ∈ wsX8_calm := mb_X8_calm_wsX8_calm_r2 (List.mem_of_getElem? (i := 6) rfl)
theorem mx_X8_calm_4 : Cond.fieldLink RX8 19 "MillTalkModel" "st" "[I" ∈ wsX8_calm := mb_X8_calm_wsX8_calm_r1 (List.mem_of_getElem? (i := 3) rfl)
theorem mx_X8_calm_32 : Cond.methodLink RX8 151 yX8_gustOf ∈ wsX8_calm := mb_X8_calm_wsX8_calm_r2 (List.mem_of_getElem? (i := 7) rfl)
theorem mx_X8_calm_33 : Cond.instanceMethod yX8_gustOf ∈ wsX8_calm := mb_X8_calm_wsX8_calm_r2 (List.mem_of_getElem? (i := 8) rfl)
theorem mx_X8_calm_34 : Cond.selects RX8 yX8_gustOf yX8_gustOf ∈ wsX8_calm := mb_X8_calm_wsX8_calm_r2 (List.mem_of_getElem? (i := 9) rfl)
theorem mx_X8_calm_35 : Cond.code yX8_gustOf cX8_gustOf 2 (some .int) ∈ wsX8_calm := mb_X8_calm_wsX8_calm_r2 (List.mem_of_getElem? (i := 10) rfl)
theorem mx_X8_calm_36 : Cond.methodLink RX8 154 yX8_drift ∈ wsX8_calm := mb_X8_calm_wsX8_calm_r2 (List.mem_of_getElem? (i := 11) rfl)
theorem mx_X8_calm_37 : Cond.instanceMethod yX8_drift ∈ wsX8_calm := mb_X8_calm_wsX8_calm_r2 (List.mem_of_getElem? (i := 12) rfl)
theorem mx_X8_calm_38 : Cond.selects RX8 yX8_drift yX8_drift ∈ wsX8_calm := mb_X8_calm_wsX8_calm_r2 (List.mem_of_getElem? (i := 13) rfl)
theorem mx_X8_calm_39 : Cond.code yX8_drift cX8_drift 7 none ∈ wsX8_calm := mb_X8_calm_wsX8_calm_r2 (List.mem_of_getElem? (i := 14) rfl)
theorem mx_X8_calm_40 : Cond.methodLink RX8 145 yX8_drifts ∈ wsX8_calm := mb_X8_calm_wsX8_calm_r2 (List.mem_of_getElem? (i := 15) rfl)
theorem mx_X8_calm_41 : Cond.static yX8_drifts ∈ wsX8_calm := mb_X8_calm_wsX8_calm_r2 (List.mem_of_getElem? (i := 16) rfl)
theorem mx_X8_calm_42 : Cond.code yX8_drifts cX8_drifts 2 (some .int) ∈ wsX8_calm := mb_X8_calm_wsX8_calm_r2 (List.mem_of_getElem? (i := 17) rfl)
theorem mx_X8_calm_43 : Cond.methodLink RX8 148 yX8_isCell ∈ wsX8_calm := mb_X8_calm_wsX8_calm_r2 (List.mem_of_getElem? (i := 18) rfl)
theorem mx_X8_calm_44 : Cond.instanceMethod yX8_isCell ∈ wsX8_calm := mb_X8_calm_wsX8_calm_r2 (List.mem_of_getElem? (i := 19) rfl)
theorem mx_X8_calm_45 : Cond.selects RX8 yX8_isCell yX8_isCell ∈ wsX8_calm := mb_X8_calm_wsX8_calm_r2 (List.mem_of_getElem? (i := 20) rfl)
theorem mx_X8_calm_46 : Cond.code yX8_isCell cX8_isCell 2 (some .boolean) ∈ wsX8_calm := mb_X8_calm_wsX8_calm_r2 (List.mem_of_getElem? (i := 21) rfl)
theorem mx_X8_calm_11 : Cond.methodLink RX8 57 yX8_in ∈ wsX8_calm := mb_X8_calm_wsX8_calm_r1 (List.mem_of_getElem? (i := 10) rfl)
theorem mx_X8_calm_12 : Cond.static yX8_in ∈ wsX8_calm := mb_X8_calm_wsX8_calm_r1 (List.mem_of_getElem? (i := 11) rfl)
theorem mx_X8_calm_13 : Cond.code yX8_in cX8_in 6 (some .boolean) ∈ wsX8_calm := mb_X8_calm_wsX8_calm_r1 (List.mem_of_getElem? (i := 12) rfl)
theorem mx_X8_calm_47 : Cond.methodLink RX8 158 yX8_isAtMill ∈ wsX8_calm := mb_X8_calm_wsX8_calm_r2 (List.mem_of_getElem? (i := 22) rfl)
theorem mx_X8_calm_48 : Cond.instanceMethod yX8_isAtMill ∈ wsX8_calm := mb_X8_calm_wsX8_calm_r2 (List.mem_of_getElem? (i := 23) rfl)
theorem mb_X8_calm_wsX8_calm_r3 {w : Cond} (h : w ∈ wsX8_calm_r3) : w ∈ wsX8_calm := by unfold wsX8_calm; exact List.mem_cons_of_mem _ (List.mem_append_left _ (List.mem_append_right _ (List.mem_append_right _ (h))))
theorem mx_X8_calm_49 : Cond.selects RX8 yX8_isAtMill yX8_isAtMill ∈ wsX8_calm := mb_X8_calm_wsX8_calm_r3 (List.mem_of_getElem? (i := 0) rfl)
theorem mx_X8_calm_50 : Cond.code yX8_isAtMill cX8_isAtMill 3 (some .boolean) ∈ wsX8_calm := mb_X8_calm_wsX8_calm_r3 (List.mem_of_getElem? (i := 1) rfl)
theorem mb_X8_calm_wsX80 {w : Cond} (h : w ∈ wsX80) : w ∈ wsX8_calm := by unfold wsX8_calm; exact List.mem_cons_of_mem _ (List.mem_append_right _ (h))
theorem ggX8_calm_X8_goOn : GoodIn wsX8_calm wsX8_goOn := goodIn_sub (by unfold wsX8_goOn; exact List.forall_mem_cons.mpr ⟨mx_X8_calm_27, List.forall_mem_append.mpr ⟨List.forall_mem_append.mpr ⟨(by unfold wsX8_goOn_r1; exact List.forall_mem_cons.mpr ⟨mx_X8_calm_28, List.forall_mem_cons.mpr ⟨mx_X8_calm_29, List.forall_mem_cons.mpr ⟨mx_X8_calm_30, List.forall_mem_cons.mpr ⟨mx_X8_calm_9, List.forall_mem_cons.mpr ⟨mx_X8_calm_31, List.forall_mem_cons.mpr ⟨mx_X8_calm_4, List.forall_mem_cons.mpr ⟨mx_X8_calm_32, List.forall_mem_cons.mpr ⟨mx_X8_calm_33, List.forall_mem_cons.mpr ⟨mx_X8_calm_34, List.forall_mem_cons.mpr ⟨mx_X8_calm_35, List.forall_mem_cons.mpr ⟨mx_X8_calm_36, List.forall_mem_cons.mpr ⟨mx_X8_calm_37, List.forall_mem_cons.mpr ⟨mx_X8_calm_38, List.forall_mem_cons.mpr ⟨mx_X8_calm_39, List.forall_mem_cons.mpr ⟨mx_X8_calm_40, List.forall_mem_cons.mpr ⟨mx_X8_calm_41, List.forall_mem_cons.mpr ⟨mx_X8_calm_42, List.forall_mem_cons.mpr ⟨mx_X8_calm_43, List.forall_mem_cons.mpr ⟨mx_X8_calm_44, List.forall_mem_cons.mpr ⟨mx_X8_calm_45, List.forall_mem_cons.mpr ⟨mx_X8_calm_46, List.forall_mem_cons.mpr ⟨mx_X8_calm_11, List.forall_mem_cons.mpr ⟨mx_X8_calm_12, List.forall_mem_cons.mpr ⟨mx_X8_calm_13, fun _ h_ => absurd h_ List.not_mem_nil⟩⟩⟩⟩⟩⟩⟩⟩⟩⟩⟩⟩⟩⟩⟩⟩⟩⟩⟩⟩⟩⟩⟩⟩), (by unfold wsX8_goOn_r2; exact List.forall_mem_cons.mpr ⟨mx_X8_calm_47, List.forall_mem_cons.mpr ⟨mx_X8_calm_48, List.forall_mem_cons.mpr ⟨mx_X8_calm_49, List.forall_mem_cons.mpr ⟨mx_X8_calm_50, fun _ h_ => absurd h_ List.not_mem_nil⟩⟩⟩⟩)⟩, (fun _ h_ => mb_X8_calm_wsX80 h_)⟩⟩) (by decide +kernel)
theorem mx_X8_calm_24 : Cond.methodLink RX8 190 yX8_goOn ∈ wsX8_calm := mb_X8_calm_wsX8_calm_r1 (List.mem_of_getElem? (i := 23) rfl)
theorem mx_X8_calm_25 : Cond.instanceMethod yX8_goOn ∈ wsX8_calm := mb_X8_calm_wsX8_calm_r2 (List.mem_of_getElem? (i := 0) rfl)
theorem mx_X8_calm_26 : Cond.selects RX8 yX8_goOn yX8_goOn ∈ wsX8_calm := mb_X8_calm_wsX8_calm_r2 (List.mem_of_getElem? (i := 1) rfl)
theorem gX8_calm_X8_goOn : GoodIn wsX8_calm (wsV RX8 190 RX8 yX8_goOn wsX8_goOn) := goodIn_app (goodIn_sub (List.forall_mem_cons.mpr ⟨mx_X8_calm_24, List.forall_mem_cons.mpr ⟨mx_X8_calm_25, List.forall_mem_cons.mpr ⟨mx_X8_calm_26, List.forall_mem_cons.mpr ⟨mx_X8_calm_9, fun _ h_ => absurd h_ List.not_mem_nil⟩⟩⟩⟩) (by decide +kernel)) ggX8_calm_X8_goOn
theorem mx_X8_calm_23 : Cond.code yX8_has cX8_has 2 (some .boolean) ∈ wsX8_calm := mb_X8_calm_wsX8_calm_r1 (List.mem_of_getElem? (i := 22) rfl)
theorem ggX8_calm_X8_has : GoodIn wsX8_calm wsX8_has := goodIn_sub (by unfold wsX8_has; exact List.forall_mem_cons.mpr ⟨mx_X8_calm_23, fun _ h_ => absurd h_ List.not_mem_nil⟩) (by decide +kernel)
set_option maxRecDepth 20000 in
theorem gX8_calm_X8_has : GoodIn wsX8_calm (va_wsS RX8 213 yX8_has wsX8_has) := goodIn_app (goodIn_of _ (by decide +kernel)) ggX8_calm_X8_has
theorem ggX8_calm_X8_in : GoodIn wsX8_calm wsX8_in := goodIn_sub (by unfold wsX8_in; exact List.forall_mem_cons.mpr ⟨mx_X8_calm_13, fun _ h_ => absurd h_ List.not_mem_nil⟩) (by decide +kernel)
set_option maxRecDepth 20000 in
theorem gX8_calm_X8_in : GoodIn wsX8_calm (va_wsS RX8 57 yX8_in wsX8_in) := goodIn_app (goodIn_of _ (by decide +kernel)) ggX8_calm_X8_in
theorem mx_X8_calm_10 : Cond.code yX8_isSound cX8_isSound 2 (some .boolean) ∈ wsX8_calm := mb_X8_calm_wsX8_calm_r1 (List.mem_of_getElem? (i := 9) rfl)
theorem ggX8_calm_X8_isSound : GoodIn wsX8_calm wsX8_isSound := goodIn_sub (by unfold wsX8_isSound; exact List.forall_mem_cons.mpr ⟨mx_X8_calm_10, List.forall_mem_append.mpr ⟨List.forall_mem_cons.mpr ⟨mx_X8_calm_4, List.forall_mem_cons.mpr ⟨mx_X8_calm_11, List.forall_mem_cons.mpr ⟨mx_X8_calm_12, List.forall_mem_cons.mpr ⟨mx_X8_calm_9, List.forall_mem_cons.mpr ⟨mx_X8_calm_13, fun _ h_ => absurd h_ List.not_mem_nil⟩⟩⟩⟩⟩, (fun _ h_ => mb_X8_calm_wsX80 h_)⟩⟩) (by decide +kernel)
theorem mx_X8_calm_6 : Cond.methodLink RX8 173 yX8_isSound ∈ wsX8_calm := mb_X8_calm_wsX8_calm_r1 (List.mem_of_getElem? (i := 5) rfl)
theorem mx_X8_calm_7 : Cond.instanceMethod yX8_isSound ∈ wsX8_calm := mb_X8_calm_wsX8_calm_r1 (List.mem_of_getElem? (i := 6) rfl)
theorem mx_X8_calm_8 : Cond.selects RX8 yX8_isSound yX8_isSound ∈ wsX8_calm := mb_X8_calm_wsX8_calm_r1 (List.mem_of_getElem? (i := 7) rfl)
theorem gX8_calm_X8_isSound : GoodIn wsX8_calm (wsV RX8 173 RX8 yX8_isSound wsX8_isSound) := goodIn_app (goodIn_sub (List.forall_mem_cons.mpr ⟨mx_X8_calm_6, List.forall_mem_cons.mpr ⟨mx_X8_calm_7, List.forall_mem_cons.mpr ⟨mx_X8_calm_8, List.forall_mem_cons.mpr ⟨mx_X8_calm_9, fun _ h_ => absurd h_ List.not_mem_nil⟩⟩⟩⟩) (by decide +kernel)) ggX8_calm_X8_isSound
theorem mx_X8_calm_16 : Cond.code yX8_isWhat cX8_isWhat 1 (some .boolean) ∈ wsX8_calm := mb_X8_calm_wsX8_calm_r1 (List.mem_of_getElem? (i := 15) rfl)
theorem ggX8_calm_X8_isWhat : GoodIn wsX8_calm wsX8_isWhat := goodIn_sub (by unfold wsX8_isWhat; exact List.forall_mem_cons.mpr ⟨mx_X8_calm_16, List.forall_mem_cons.mpr ⟨mx_X8_calm_11, List.forall_mem_cons.mpr ⟨mx_X8_calm_12, List.forall_mem_cons.mpr ⟨mx_X8_calm_9, List.forall_mem_cons.mpr ⟨mx_X8_calm_13, fun _ h_ => absurd h_ List.not_mem_nil⟩⟩⟩⟩⟩) (by decide +kernel)
set_option maxRecDepth 20000 in
theorem gX8_calm_X8_isWhat : GoodIn wsX8_calm (va_wsS RX8 210 yX8_isWhat wsX8_isWhat) := goodIn_app (goodIn_of _ (by decide +kernel)) ggX8_calm_X8_isWhat
theorem mx_X8_calm_20 : Cond.code yX8_putAside cX8_putAside 2 none ∈ wsX8_calm := mb_X8_calm_wsX8_calm_r1 (List.mem_of_getElem? (i := 19) rfl)
theorem mx_X8_calm_5 : Cond.fieldLink RX8 34 "MillTalkModel" "aside" "[I" ∈ wsX8_calm := mb_X8_calm_wsX8_calm_r1 (List.mem_of_getElem? (i := 4) rfl)
theorem ggX8_calm_X8_putAside : GoodIn wsX8_calm wsX8_putAside := goodIn_sub (by unfold wsX8_putAside; exact List.forall_mem_cons.mpr ⟨mx_X8_calm_20, List.forall_mem_append.mpr ⟨List.forall_mem_cons.mpr ⟨mx_X8_calm_5, List.forall_mem_cons.mpr ⟨mx_X8_calm_4, fun _ h_ => absurd h_ List.not_mem_nil⟩⟩, (fun _ h_ => mb_X8_calm_wsX80 h_)⟩⟩) (by decide +kernel)
theorem mx_X8_calm_17 : Cond.methodLink RX8 197 yX8_putAside ∈ wsX8_calm := mb_X8_calm_wsX8_calm_r1 (List.mem_of_getElem? (i := 16) rfl)
theorem mx_X8_calm_18 : Cond.instanceMethod yX8_putAside ∈ wsX8_calm := mb_X8_calm_wsX8_calm_r1 (List.mem_of_getElem? (i := 17) rfl)
theorem mx_X8_calm_19 : Cond.selects RX8 yX8_putAside yX8_putAside ∈ wsX8_calm := mb_X8_calm_wsX8_calm_r1 (List.mem_of_getElem? (i := 18) rfl)
theorem gX8_calm_X8_putAside : GoodIn wsX8_calm (wsV RX8 197 RX8 yX8_putAside wsX8_putAside) := goodIn_app (goodIn_sub (List.forall_mem_cons.mpr ⟨mx_X8_calm_17, List.forall_mem_cons.mpr ⟨mx_X8_calm_18, List.forall_mem_cons.mpr ⟨mx_X8_calm_19, List.forall_mem_cons.mpr ⟨mx_X8_calm_9, fun _ h_ => absurd h_ List.not_mem_nil⟩⟩⟩⟩) (by decide +kernel)) ggX8_calm_X8_putAside
theorem mx_X8_calm_54 : Cond.code yX8_takeBack cX8_takeBack 2 none ∈ wsX8_calm := mb_X8_calm_wsX8_calm_r3 (List.mem_of_getElem? (i := 5) rfl)
theorem ggX8_calm_X8_takeBack : GoodIn wsX8_calm wsX8_takeBack := goodIn_sub (by unfold wsX8_takeBack; exact List.forall_mem_cons.mpr ⟨mx_X8_calm_54, List.forall_mem_append.mpr ⟨List.forall_mem_cons.mpr ⟨mx_X8_calm_4, List.forall_mem_cons.mpr ⟨mx_X8_calm_5, fun _ h_ => absurd h_ List.not_mem_nil⟩⟩, (fun _ h_ => mb_X8_calm_wsX80 h_)⟩⟩) (by decide +kernel)
theorem mx_X8_calm_51 : Cond.methodLink RX8 194 yX8_takeBack ∈ wsX8_calm := mb_X8_calm_wsX8_calm_r3 (List.mem_of_getElem? (i := 2) rfl)
theorem mx_X8_calm_52 : Cond.instanceMethod yX8_takeBack ∈ wsX8_calm := mb_X8_calm_wsX8_calm_r3 (List.mem_of_getElem? (i := 3) rfl)
theorem mx_X8_calm_53 : Cond.selects RX8 yX8_takeBack yX8_takeBack ∈ wsX8_calm := mb_X8_calm_wsX8_calm_r3 (List.mem_of_getElem? (i := 4) rfl)
theorem gX8_calm_X8_takeBack : GoodIn wsX8_calm (wsV RX8 194 RX8 yX8_takeBack wsX8_takeBack) := goodIn_app (goodIn_sub (List.forall_mem_cons.mpr ⟨mx_X8_calm_51, List.forall_mem_cons.mpr ⟨mx_X8_calm_52, List.forall_mem_cons.mpr ⟨mx_X8_calm_53, List.forall_mem_cons.mpr ⟨mx_X8_calm_9, fun _ h_ => absurd h_ List.not_mem_nil⟩⟩⟩⟩) (by decide +kernel)) ggX8_calm_X8_takeBack
theorem mb_X8_drawn_wsX8_drawn_r1 {w : Cond} (h : w ∈ wsX8_drawn_r1) : w ∈ wsX8_drawn := by unfold wsX8_drawn; exact List.mem_cons_of_mem _ (List.mem_append_left _ (List.mem_append_left _ (h)))
theorem mx_X8_drawn_16 : Cond.code yX8_in cX8_in 6 (some .boolean) ∈ wsX8_drawn := mb_X8_drawn_wsX8_drawn_r1 (List.mem_of_getElem? (i := 15) rfl)
theorem ggX8_drawn_X8_in : GoodIn wsX8_drawn wsX8_in := goodIn_sub (by unfold wsX8_in; exact List.forall_mem_cons.mpr ⟨mx_X8_drawn_16, fun _ h_ => absurd h_ List.not_mem_nil⟩) (by decide +kernel)
set_option maxRecDepth 20000 in
theorem gX8_drawn_X8_in : GoodIn wsX8_drawn (va_wsS RX8 57 yX8_in wsX8_in) := goodIn_app (goodIn_of _ (by decide +kernel)) ggX8_drawn_X8_in
theorem mx_X8_drawn_19 : Cond.code yX8_isWhat cX8_isWhat 1 (some .boolean) ∈ wsX8_drawn := mb_X8_drawn_wsX8_drawn_r1 (List.mem_of_getElem? (i := 18) rfl)
theorem mx_X8_drawn_13 : Cond.methodLink RX8 57 yX8_in ∈ wsX8_drawn := mb_X8_drawn_wsX8_drawn_r1 (List.mem_of_getElem? (i := 12) rfl)
theorem mx_X8_drawn_14 : Cond.static yX8_in ∈ wsX8_drawn := mb_X8_drawn_wsX8_drawn_r1 (List.mem_of_getElem? (i := 13) rfl)
theorem mx_X8_drawn_15 : Cond.initialized RX8 ∈ wsX8_drawn := mb_X8_drawn_wsX8_drawn_r1 (List.mem_of_getElem? (i := 14) rfl)
theorem ggX8_drawn_X8_isWhat : GoodIn wsX8_drawn wsX8_isWhat := goodIn_sub (by unfold wsX8_isWhat; exact List.forall_mem_cons.mpr ⟨mx_X8_drawn_19, List.forall_mem_cons.mpr ⟨mx_X8_drawn_13, List.forall_mem_cons.mpr ⟨mx_X8_drawn_14, List.forall_mem_cons.mpr ⟨mx_X8_drawn_15, List.forall_mem_cons.mpr ⟨mx_X8_drawn_16, fun _ h_ => absurd h_ List.not_mem_nil⟩⟩⟩⟩⟩) (by decide +kernel)
set_option maxRecDepth 20000 in
theorem gX8_drawn_X8_isWhat : GoodIn wsX8_drawn (va_wsS RX8 210 yX8_isWhat wsX8_isWhat) := goodIn_app (goodIn_of _ (by decide +kernel)) ggX8_drawn_X8_isWhat
theorem mb_X8_drawn_wsX8_drawn_r2 {w : Cond} (h : w ∈ wsX8_drawn_r2) : w ∈ wsX8_drawn := by unfold wsX8_drawn; exact List.mem_cons_of_mem _ (List.mem_append_left _ (List.mem_append_right _ (List.mem_append_left _ (h))))
theorem mx_X8_drawn_28 : Cond.code yX8_letLoose cX8_letLoose 4 none ∈ wsX8_drawn := mb_X8_drawn_wsX8_drawn_r2 (List.mem_of_getElem? (i := 3) rfl)
theorem mx_X8_drawn_9 : Cond.fieldLink RX8 19 "MillTalkModel" "st" "[I" ∈ wsX8_drawn := mb_X8_drawn_wsX8_drawn_r1 (List.mem_of_getElem? (i := 8) rfl)
theorem mb_X8_drawn_wsX80 {w : Cond} (h : w ∈ wsX80) : w ∈ wsX8_drawn := by unfold wsX8_drawn; exact List.mem_cons_of_mem _ (List.mem_append_right _ (h))
theorem ggX8_drawn_X8_letLoose : GoodIn wsX8_drawn wsX8_letLoose := goodIn_sub (by unfold wsX8_letLoose; exact List.forall_mem_cons.mpr ⟨mx_X8_drawn_28, List.forall_mem_append.mpr ⟨List.forall_mem_cons.mpr ⟨mx_X8_drawn_9, fun _ h_ => absurd h_ List.not_mem_nil⟩, (fun _ h_ => mb_X8_drawn_wsX80 h_)⟩⟩) (by decide +kernel)
theorem mx_X8_drawn_25 : Cond.methodLink RX8 178 yX8_letLoose ∈ wsX8_drawn := mb_X8_drawn_wsX8_drawn_r2 (List.mem_of_getElem? (i := 0) rfl)
theorem mx_X8_drawn_26 : Cond.instanceMethod yX8_letLoose ∈ wsX8_drawn := mb_X8_drawn_wsX8_drawn_r2 (List.mem_of_getElem? (i := 1) rfl)
theorem mx_X8_drawn_27 : Cond.selects RX8 yX8_letLoose yX8_letLoose ∈ wsX8_drawn := mb_X8_drawn_wsX8_drawn_r2 (List.mem_of_getElem? (i := 2) rfl)
theorem gX8_drawn_X8_letLoose : GoodIn wsX8_drawn (wsV RX8 178 RX8 yX8_letLoose wsX8_letLoose) := goodIn_app (goodIn_sub (List.forall_mem_cons.mpr ⟨mx_X8_drawn_25, List.forall_mem_cons.mpr ⟨mx_X8_drawn_26, List.forall_mem_cons.mpr ⟨mx_X8_drawn_27, List.forall_mem_cons.mpr ⟨mx_X8_drawn_15, fun _ h_ => absurd h_ List.not_mem_nil⟩⟩⟩⟩) (by decide +kernel)) ggX8_drawn_X8_letLoose
theorem mx_X8_drawn_32 : Cond.code yX8_oneHour cX8_oneHour 4 (some .int) ∈ wsX8_drawn := mb_X8_drawn_wsX8_drawn_r2 (List.mem_of_getElem? (i := 7) rfl)
theorem mx_X8_drawn_33 : Cond.methodLink RX8 151 yX8_gustOf ∈ wsX8_drawn := mb_X8_drawn_wsX8_drawn_r2 (List.mem_of_getElem? (i := 8) rfl)
theorem mx_X8_drawn_34 : Cond.instanceMethod yX8_gustOf ∈ wsX8_drawn := mb_X8_drawn_wsX8_drawn_r2 (List.mem_of_getElem? (i := 9) rfl)
theorem mx_X8_drawn_35 : Cond.selects RX8 yX8_gustOf yX8_gustOf ∈ wsX8_drawn := mb_X8_drawn_wsX8_drawn_r2 (List.mem_of_getElem? (i := 10) rfl)
theorem mx_X8_drawn_36 : Cond.code yX8_gustOf cX8_gustOf 2 (some .int) ∈ wsX8_drawn := mb_X8_drawn_wsX8_drawn_r2 (List.mem_of_getElem? (i := 11) rfl)
theorem mx_X8_drawn_37 : Cond.methodLink RX8 154 yX8_drift ∈ wsX8_drawn := mb_X8_drawn_wsX8_drawn_r2 (List.mem_of_getElem? (i := 12) rfl)
theorem mx_X8_drawn_38 : Cond.instanceMethod yX8_drift ∈ wsX8_drawn := mb_X8_drawn_wsX8_drawn_r2 (List.mem_of_getElem? (i := 13) rfl)
theorem mx_X8_drawn_39 : Cond.selects RX8 yX8_drift yX8_drift ∈ wsX8_drawn := mb_X8_drawn_wsX8_drawn_r2 (List.mem_of_getElem? (i := 14) rfl)
theorem mx_X8_drawn_40 : Cond.code yX8_drift cX8_drift 7 none ∈ wsX8_drawn := mb_X8_drawn_wsX8_drawn_r2 (List.mem_of_getElem? (i := 15) rfl)
theorem mx_X8_drawn_41 : Cond.methodLink RX8 145 yX8_drifts ∈ wsX8_drawn := mb_X8_drawn_wsX8_drawn_r2 (List.mem_of_getElem? (i := 16) rfl)
theorem mx_X8_drawn_42 : Cond.static yX8_drifts ∈ wsX8_drawn := mb_X8_drawn_wsX8_drawn_r2 (List.mem_of_getElem? (i := 17) rfl)
theorem mx_X8_drawn_43 : Cond.code yX8_drifts cX8_drifts 2 (some .int) ∈ wsX8_drawn := mb_X8_drawn_wsX8_drawn_r2 (List.mem_of_getElem? (i := 18) rfl)
theorem mx_X8_drawn_44 : Cond.methodLink RX8 148 yX8_isCell ∈ wsX8_drawn := mb_X8_drawn_wsX8_drawn_r2 (List.mem_of_getElem? (i := 19) rfl)
theorem mx_X8_drawn_45 : Cond.instanceMethod yX8_isCell ∈ wsX8_drawn := mb_X8_drawn_wsX8_drawn_r2 (List.mem_of_getElem? (i := 20) rfl)
theorem mx_X8_drawn_46 : Cond.selects RX8 yX8_isCell yX8_isCell ∈ wsX8_drawn := mb_X8_drawn_wsX8_drawn_r2 (List.mem_of_getElem? (i := 21) rfl)
theorem mx_X8_drawn_47 : Cond.code yX8_isCell cX8_isCell 2 (some .boolean) ∈ wsX8_drawn := mb_X8_drawn_wsX8_drawn_r2 (List.mem_of_getElem? (i := 22) rfl)
theorem mx_X8_drawn_48 : Cond.methodLink RX8 158 yX8_isAtMill ∈ wsX8_drawn := mb_X8_drawn_wsX8_drawn_r2 (List.mem_of_getElem? (i := 23) rfl)
theorem mb_X8_drawn_wsX8_drawn_r3 {w : Cond} (h : w ∈ wsX8_drawn_r3) : w ∈ wsX8_drawn := by unfold wsX8_drawn; exact List.mem_cons_of_mem _ (List.mem_append_left _ (List.mem_append_right _ (List.mem_append_right _ (h))))
theorem mx_X8_drawn_49 : Cond.instanceMethod yX8_isAtMill ∈ wsX8_drawn := mb_X8_drawn_wsX8_drawn_r3 (List.mem_of_getElem? (i := 0) rfl)
theorem mx_X8_drawn_50 : Cond.selects RX8 yX8_isAtMill yX8_isAtMill ∈ wsX8_drawn := mb_X8_drawn_wsX8_drawn_r3 (List.mem_of_getElem? (i := 1) rfl)
theorem mx_X8_drawn_51 : Cond.code yX8_isAtMill cX8_isAtMill 3 (some .boolean) ∈ wsX8_drawn := mb_X8_drawn_wsX8_drawn_r3 (List.mem_of_getElem? (i := 2) rfl)
theorem ggX8_drawn_X8_oneHour : GoodIn wsX8_drawn wsX8_oneHour := goodIn_sub (by unfold wsX8_oneHour; exact List.forall_mem_cons.mpr ⟨mx_X8_drawn_32, List.forall_mem_append.mpr ⟨List.forall_mem_cons.mpr ⟨mx_X8_drawn_9, List.forall_mem_cons.mpr ⟨mx_X8_drawn_33, List.forall_mem_cons.mpr ⟨mx_X8_drawn_34, List.forall_mem_cons.mpr ⟨mx_X8_drawn_35, List.forall_mem_cons.mpr ⟨mx_X8_drawn_15, List.forall_mem_cons.mpr ⟨mx_X8_drawn_36, List.forall_mem_cons.mpr ⟨mx_X8_drawn_37, List.forall_mem_cons.mpr ⟨mx_X8_drawn_38, List.forall_mem_cons.mpr ⟨mx_X8_drawn_39, List.forall_mem_cons.mpr ⟨mx_X8_drawn_40, List.forall_mem_cons.mpr ⟨mx_X8_drawn_41, List.forall_mem_cons.mpr ⟨mx_X8_drawn_42, List.forall_mem_cons.mpr ⟨mx_X8_drawn_43, List.forall_mem_cons.mpr ⟨mx_X8_drawn_44, List.forall_mem_cons.mpr ⟨mx_X8_drawn_45, List.forall_mem_cons.mpr ⟨mx_X8_drawn_46, List.forall_mem_cons.mpr ⟨mx_X8_drawn_47, List.forall_mem_cons.mpr ⟨mx_X8_drawn_13, List.forall_mem_cons.mpr ⟨mx_X8_drawn_14, List.forall_mem_cons.mpr ⟨mx_X8_drawn_16, List.forall_mem_cons.mpr ⟨mx_X8_drawn_48, List.forall_mem_cons.mpr ⟨mx_X8_drawn_49, List.forall_mem_cons.mpr ⟨mx_X8_drawn_50, List.forall_mem_cons.mpr ⟨mx_X8_drawn_51, fun _ h_ => absurd h_ List.not_mem_nil⟩⟩⟩⟩⟩⟩⟩⟩⟩⟩⟩⟩⟩⟩⟩⟩⟩⟩⟩⟩⟩⟩⟩⟩, (fun _ h_ => mb_X8_drawn_wsX80 h_)⟩⟩) (by decide +kernel)
theorem mx_X8_drawn_29 : Cond.methodLink RX8 167 yX8_oneHour ∈ wsX8_drawn := mb_X8_drawn_wsX8_drawn_r2 (List.mem_of_getElem? (i := 4) rfl)
theorem mx_X8_drawn_30 : Cond.instanceMethod yX8_oneHour ∈ wsX8_drawn := mb_X8_drawn_wsX8_drawn_r2 (List.mem_of_getElem? (i := 5) rfl)
theorem mx_X8_drawn_31 : Cond.selects RX8 yX8_oneHour yX8_oneHour ∈ wsX8_drawn := mb_X8_drawn_wsX8_drawn_r2 (List.mem_of_getElem? (i := 6) rfl)
theorem gX8_drawn_X8_oneHour : GoodIn wsX8_drawn (wsV RX8 167 RX8 yX8_oneHour wsX8_oneHour) := goodIn_app (goodIn_sub (List.forall_mem_cons.mpr ⟨mx_X8_drawn_29, List.forall_mem_cons.mpr ⟨mx_X8_drawn_30, List.forall_mem_cons.mpr ⟨mx_X8_drawn_31, List.forall_mem_cons.mpr ⟨mx_X8_drawn_15, fun _ h_ => absurd h_ List.not_mem_nil⟩⟩⟩⟩) (by decide +kernel)) ggX8_drawn_X8_oneHour
theorem mx_X8_drawn_58 : Cond.code yX8_ones cX8_ones 3 (some .int) ∈ wsX8_drawn := mb_X8_drawn_wsX8_drawn_r3 (List.mem_of_getElem? (i := 9) rfl)
theorem ggX8_drawn_X8_ones : GoodIn wsX8_drawn wsX8_ones := goodIn_sub (by unfold wsX8_ones; exact List.forall_mem_cons.mpr ⟨mx_X8_drawn_58, fun _ h_ => absurd h_ List.not_mem_nil⟩) (by decide +kernel)
set_option maxRecDepth 20000 in
theorem gX8_drawn_X8_ones : GoodIn wsX8_drawn (va_wsS RX8 254 yX8_ones wsX8_ones) := goodIn_app (goodIn_of _ (by decide +kernel)) ggX8_drawn_X8_ones
theorem mx_X8_drawn_23 : Cond.code yX8_putAside cX8_putAside 2 none ∈ wsX8_drawn := mb_X8_drawn_wsX8_drawn_r1 (List.mem_of_getElem? (i := 22) rfl)
theorem mx_X8_drawn_24 : Cond.fieldLink RX8 34 "MillTalkModel" "aside" "[I" ∈ wsX8_drawn := mb_X8_drawn_wsX8_drawn_r1 (List.mem_of_getElem? (i := 23) rfl)
theorem ggX8_drawn_X8_putAside : GoodIn wsX8_drawn wsX8_putAside := goodIn_sub (by unfold wsX8_putAside; exact List.forall_mem_cons.mpr ⟨mx_X8_drawn_23, List.forall_mem_append.mpr ⟨List.forall_mem_cons.mpr ⟨mx_X8_drawn_24, List.forall_mem_cons.mpr ⟨mx_X8_drawn_9, fun _ h_ => absurd h_ List.not_mem_nil⟩⟩, (fun _ h_ => mb_X8_drawn_wsX80 h_)⟩⟩) (by decide +kernel)
theorem mx_X8_drawn_20 : Cond.methodLink RX8 197 yX8_putAside ∈ wsX8_drawn := mb_X8_drawn_wsX8_drawn_r1 (List.mem_of_getElem? (i := 19) rfl)
theorem mx_X8_drawn_21 : Cond.instanceMethod yX8_putAside ∈ wsX8_drawn := mb_X8_drawn_wsX8_drawn_r1 (List.mem_of_getElem? (i := 20) rfl)
theorem mx_X8_drawn_22 : Cond.selects RX8 yX8_putAside yX8_putAside ∈ wsX8_drawn := mb_X8_drawn_wsX8_drawn_r1 (List.mem_of_getElem? (i := 21) rfl)
theorem gX8_drawn_X8_putAside : GoodIn wsX8_drawn (wsV RX8 197 RX8 yX8_putAside wsX8_putAside) := goodIn_app (goodIn_sub (List.forall_mem_cons.mpr ⟨mx_X8_drawn_20, List.forall_mem_cons.mpr ⟨mx_X8_drawn_21, List.forall_mem_cons.mpr ⟨mx_X8_drawn_22, List.forall_mem_cons.mpr ⟨mx_X8_drawn_15, fun _ h_ => absurd h_ List.not_mem_nil⟩⟩⟩⟩) (by decide +kernel)) ggX8_drawn_X8_putAside
theorem mx_X8_drawn_62 : Cond.code yX8_takeBack cX8_takeBack 2 none ∈ wsX8_drawn := mb_X8_drawn_wsX8_drawn_r3 (List.mem_of_getElem? (i := 13) rfl)
theorem ggX8_drawn_X8_takeBack : GoodIn wsX8_drawn wsX8_takeBack := goodIn_sub (by unfold wsX8_takeBack; exact List.forall_mem_cons.mpr ⟨mx_X8_drawn_62, List.forall_mem_append.mpr ⟨List.forall_mem_cons.mpr ⟨mx_X8_drawn_9, List.forall_mem_cons.mpr ⟨mx_X8_drawn_24, fun _ h_ => absurd h_ List.not_mem_nil⟩⟩, (fun _ h_ => mb_X8_drawn_wsX80 h_)⟩⟩) (by decide +kernel)
theorem mx_X8_drawn_59 : Cond.methodLink RX8 194 yX8_takeBack ∈ wsX8_drawn := mb_X8_drawn_wsX8_drawn_r3 (List.mem_of_getElem? (i := 10) rfl)
theorem mx_X8_drawn_60 : Cond.instanceMethod yX8_takeBack ∈ wsX8_drawn := mb_X8_drawn_wsX8_drawn_r3 (List.mem_of_getElem? (i := 11) rfl)
theorem mx_X8_drawn_61 : Cond.selects RX8 yX8_takeBack yX8_takeBack ∈ wsX8_drawn := mb_X8_drawn_wsX8_drawn_r3 (List.mem_of_getElem? (i := 12) rfl)
theorem gX8_drawn_X8_takeBack : GoodIn wsX8_drawn (wsV RX8 194 RX8 yX8_takeBack wsX8_takeBack) := goodIn_app (goodIn_sub (List.forall_mem_cons.mpr ⟨mx_X8_drawn_59, List.forall_mem_cons.mpr ⟨mx_X8_drawn_60, List.forall_mem_cons.mpr ⟨mx_X8_drawn_61, List.forall_mem_cons.mpr ⟨mx_X8_drawn_15, fun _ h_ => absurd h_ List.not_mem_nil⟩⟩⟩⟩) (by decide +kernel)) ggX8_drawn_X8_takeBack
theorem mx_X8_drawn_55 : Cond.code yX8_those cX8_those 4 (some .int) ∈ wsX8_drawn := mb_X8_drawn_wsX8_drawn_r3 (List.mem_of_getElem? (i := 6) rfl)
theorem ggX8_drawn_X8_those : GoodIn wsX8_drawn wsX8_those := goodIn_sub (by unfold wsX8_those; exact List.forall_mem_cons.mpr ⟨mx_X8_drawn_55, List.forall_mem_append.mpr ⟨List.forall_mem_cons.mpr ⟨mx_X8_drawn_9, fun _ h_ => absurd h_ List.not_mem_nil⟩, (fun _ h_ => mb_X8_drawn_wsX80 h_)⟩⟩) (by decide +kernel)
theorem mx_X8_drawn_52 : Cond.methodLink RX8 182 yX8_those ∈ wsX8_drawn := mb_X8_drawn_wsX8_drawn_r3 (List.mem_of_getElem? (i := 3) rfl)
theorem mx_X8_drawn_53 : Cond.instanceMethod yX8_those ∈ wsX8_drawn := mb_X8_drawn_wsX8_drawn_r3 (List.mem_of_getElem? (i := 4) rfl)
theorem mx_X8_drawn_54 : Cond.selects RX8 yX8_those yX8_those ∈ wsX8_drawn := mb_X8_drawn_wsX8_drawn_r3 (List.mem_of_getElem? (i := 5) rfl)
theorem gX8_drawn_X8_those : GoodIn wsX8_drawn (wsV RX8 182 RX8 yX8_those wsX8_those) := goodIn_app (goodIn_sub (List.forall_mem_cons.mpr ⟨mx_X8_drawn_52, List.forall_mem_cons.mpr ⟨mx_X8_drawn_53, List.forall_mem_cons.mpr ⟨mx_X8_drawn_54, List.forall_mem_cons.mpr ⟨mx_X8_drawn_15, fun _ h_ => absurd h_ List.not_mem_nil⟩⟩⟩⟩) (by decide +kernel)) ggX8_drawn_X8_those
theorem mb_X8_fits_wsX8_fits_r1 {w : Cond} (h : w ∈ wsX8_fits_r1) : w ∈ wsX8_fits := by unfold wsX8_fits; exact List.mem_cons_of_mem _ (List.mem_append_left _ (List.mem_append_left _ (h)))
theorem mx_X8_fits_11 : Cond.code yX8_isSo cX8_isSo 7 (some .boolean) ∈ wsX8_fits := mb_X8_fits_wsX8_fits_r1 (List.mem_of_getElem? (i := 10) rfl)
theorem mx_X8_fits_1 : Cond.fieldLink RX8 19 "MillTalkModel" "st" "[I" ∈ wsX8_fits := mb_X8_fits_wsX8_fits_r1 (List.mem_of_getElem? (i := 0) rfl)
theorem mx_X8_fits_12 : Cond.fieldLink RX8 16 "MillTalkModel" "items" "[I" ∈ wsX8_fits := mb_X8_fits_wsX8_fits_r1 (List.mem_of_getElem? (i := 11) rfl)
theorem mx_X8_fits_13 : Cond.methodLink RX8 167 yX8_oneHour ∈ wsX8_fits := mb_X8_fits_wsX8_fits_r1 (List.mem_of_getElem? (i := 12) rfl)
theorem mx_X8_fits_14 : Cond.instanceMethod yX8_oneHour ∈ wsX8_fits := mb_X8_fits_wsX8_fits_r1 (List.mem_of_getElem? (i := 13) rfl)
theorem mx_X8_fits_15 : Cond.selects RX8 yX8_oneHour yX8_oneHour ∈ wsX8_fits := mb_X8_fits_wsX8_fits_r1 (List.mem_of_getElem? (i := 14) rfl)
theorem mx_X8_fits_5 : Cond.initialized RX8 ∈ wsX8_fits := mb_X8_fits_wsX8_fits_r1 (List.mem_of_getElem? (i := 4) rfl)
theorem mx_X8_fits_16 : Cond.code yX8_oneHour cX8_oneHour 4 (some .int) ∈ wsX8_fits := mb_X8_fits_wsX8_fits_r1 (List.mem_of_getElem? (i := 15) rfl)
theorem mx_X8_fits_17 : Cond.methodLink RX8 151 yX8_gustOf ∈ wsX8_fits := mb_X8_fits_wsX8_fits_r1 (List.mem_of_getElem? (i := 16) rfl)
theorem mx_X8_fits_18 : Cond.instanceMethod yX8_gustOf ∈ wsX8_fits := mb_X8_fits_wsX8_fits_r1 (List.mem_of_getElem? (i := 17) rfl)
theorem mx_X8_fits_19 : Cond.selects RX8 yX8_gustOf yX8_gustOf ∈ wsX8_fits := mb_X8_fits_wsX8_fits_r1 (List.mem_of_getElem? (i := 18) rfl)
theorem mx_X8_fits_20 : Cond.code yX8_gustOf cX8_gustOf 2 (some .int) ∈ wsX8_fits := mb_X8_fits_wsX8_fits_r1 (List.mem_of_getElem? (i := 19) rfl)
theorem mx_X8_fits_21 : Cond.methodLink RX8 154 yX8_drift ∈ wsX8_fits := mb_X8_fits_wsX8_fits_r1 (List.mem_of_getElem? (i := 20) rfl)
theorem mx_X8_fits_22 : Cond.instanceMethod yX8_drift ∈ wsX8_fits := mb_X8_fits_wsX8_fits_r1 (List.mem_of_getElem? (i := 21) rfl)
theorem mx_X8_fits_23 : Cond.selects RX8 yX8_drift yX8_drift ∈ wsX8_fits := mb_X8_fits_wsX8_fits_r1 (List.mem_of_getElem? (i := 22) rfl)
theorem mx_X8_fits_24 : Cond.code yX8_drift cX8_drift 7 none ∈ wsX8_fits := mb_X8_fits_wsX8_fits_r1 (List.mem_of_getElem? (i := 23) rfl)
theorem mb_X8_fits_wsX8_fits_r2 {w : Cond} (h : w ∈ wsX8_fits_r2) : w ∈ wsX8_fits := by unfold wsX8_fits; exact List.mem_cons_of_mem _ (List.mem_append_left _ (List.mem_append_right _ (h)))
theorem mx_X8_fits_25 : Cond.methodLink RX8 145 yX8_drifts ∈ wsX8_fits := mb_X8_fits_wsX8_fits_r2 (List.mem_of_getElem? (i := 0) rfl)
theorem mx_X8_fits_26 : Cond.static yX8_drifts ∈ wsX8_fits := mb_X8_fits_wsX8_fits_r2 (List.mem_of_getElem? (i := 1) rfl)
theorem mx_X8_fits_27 : Cond.code yX8_drifts cX8_drifts 2 (some .int) ∈ wsX8_fits := mb_X8_fits_wsX8_fits_r2 (List.mem_of_getElem? (i := 2) rfl)
theorem mx_X8_fits_28 : Cond.methodLink RX8 148 yX8_isCell ∈ wsX8_fits := mb_X8_fits_wsX8_fits_r2 (List.mem_of_getElem? (i := 3) rfl)
theorem mx_X8_fits_29 : Cond.instanceMethod yX8_isCell ∈ wsX8_fits := mb_X8_fits_wsX8_fits_r2 (List.mem_of_getElem? (i := 4) rfl)
theorem mx_X8_fits_30 : Cond.selects RX8 yX8_isCell yX8_isCell ∈ wsX8_fits := mb_X8_fits_wsX8_fits_r2 (List.mem_of_getElem? (i := 5) rfl)
theorem mx_X8_fits_31 : Cond.code yX8_isCell cX8_isCell 2 (some .boolean) ∈ wsX8_fits := mb_X8_fits_wsX8_fits_r2 (List.mem_of_getElem? (i := 6) rfl)
theorem mx_X8_fits_32 : Cond.methodLink RX8 57 yX8_in ∈ wsX8_fits := mb_X8_fits_wsX8_fits_r2 (List.mem_of_getElem? (i := 7) rfl)
theorem mx_X8_fits_33 : Cond.static yX8_in ∈ wsX8_fits := mb_X8_fits_wsX8_fits_r2 (List.mem_of_getElem? (i := 8) rfl)
theorem mx_X8_fits_34 : Cond.code yX8_in cX8_in 6 (some .boolean) ∈ wsX8_fits := mb_X8_fits_wsX8_fits_r2 (List.mem_of_getElem? (i := 9) rfl)
theorem mx_X8_fits_35 : Cond.methodLink RX8 158 yX8_isAtMill ∈ wsX8_fits := mb_X8_fits_wsX8_fits_r2 (List.mem_of_getElem? (i := 10) rfl)
theorem mx_X8_fits_36 : Cond.instanceMethod yX8_isAtMill ∈ wsX8_fits := mb_X8_fits_wsX8_fits_r2 (List.mem_of_getElem? (i := 11) rfl)
theorem mx_X8_fits_37 : Cond.selects RX8 yX8_isAtMill yX8_isAtMill ∈ wsX8_fits := mb_X8_fits_wsX8_fits_r2 (List.mem_of_getElem? (i := 12) rfl)
theorem mx_X8_fits_38 : Cond.code yX8_isAtMill cX8_isAtMill 3 (some .boolean) ∈ wsX8_fits := mb_X8_fits_wsX8_fits_r2 (List.mem_of_getElem? (i := 13) rfl)
theorem mx_X8_fits_39 : Cond.methodLink RX8 194 yX8_takeBack ∈ wsX8_fits := mb_X8_fits_wsX8_fits_r2 (List.mem_of_getElem? (i := 14) rfl)
theorem mx_X8_fits_40 : Cond.instanceMethod yX8_takeBack ∈ wsX8_fits := mb_X8_fits_wsX8_fits_r2 (List.mem_of_getElem? (i := 15) rfl)
theorem mx_X8_fits_41 : Cond.selects RX8 yX8_takeBack yX8_takeBack ∈ wsX8_fits := mb_X8_fits_wsX8_fits_r2 (List.mem_of_getElem? (i := 16) rfl)
theorem mx_X8_fits_42 : Cond.code yX8_takeBack cX8_takeBack 2 none ∈ wsX8_fits := mb_X8_fits_wsX8_fits_r2 (List.mem_of_getElem? (i := 17) rfl)
theorem mx_X8_fits_7 : Cond.fieldLink RX8 34 "MillTalkModel" "aside" "[I" ∈ wsX8_fits := mb_X8_fits_wsX8_fits_r1 (List.mem_of_getElem? (i := 6) rfl)
theorem mb_X8_fits_wsX80 {w : Cond} (h : w ∈ wsX80) : w ∈ wsX8_fits := by unfold wsX8_fits; exact List.mem_cons_of_mem _ (List.mem_append_right _ (h))
theorem ggX8_fits_X8_isSo : GoodIn wsX8_fits wsX8_isSo := goodIn_sub (by unfold wsX8_isSo; exact List.forall_mem_cons.mpr ⟨mx_X8_fits_11, List.forall_mem_append.mpr ⟨List.forall_mem_append.mpr ⟨(by unfold wsX8_isSo_r1; exact List.forall_mem_cons.mpr ⟨mx_X8_fits_1, List.forall_mem_cons.mpr ⟨mx_X8_fits_12, List.forall_mem_cons.mpr ⟨mx_X8_fits_13, List.forall_mem_cons.mpr ⟨mx_X8_fits_14, List.forall_mem_cons.mpr ⟨mx_X8_fits_15, List.forall_mem_cons.mpr ⟨mx_X8_fits_5, List.forall_mem_cons.mpr ⟨mx_X8_fits_16, List.forall_mem_cons.mpr ⟨mx_X8_fits_17, List.forall_mem_cons.mpr ⟨mx_X8_fits_18, List.forall_mem_cons.mpr ⟨mx_X8_fits_19, List.forall_mem_cons.mpr ⟨mx_X8_fits_20, List.forall_mem_cons.mpr ⟨mx_X8_fits_21, List.forall_mem_cons.mpr ⟨mx_X8_fits_22, List.forall_mem_cons.mpr ⟨mx_X8_fits_23, List.forall_mem_cons.mpr ⟨mx_X8_fits_24, List.forall_mem_cons.mpr ⟨mx_X8_fits_25, List.forall_mem_cons.mpr ⟨mx_X8_fits_26, List.forall_mem_cons.mpr ⟨mx_X8_fits_27, List.forall_mem_cons.mpr ⟨mx_X8_fits_28, List.forall_mem_cons.mpr ⟨mx_X8_fits_29, List.forall_mem_cons.mpr ⟨mx_X8_fits_30, List.forall_mem_cons.mpr ⟨mx_X8_fits_31, List.forall_mem_cons.mpr ⟨mx_X8_fits_32, List.forall_mem_cons.mpr ⟨mx_X8_fits_33, fun _ h_ => absurd h_ List.not_mem_nil⟩⟩⟩⟩⟩⟩⟩⟩⟩⟩⟩⟩⟩⟩⟩⟩⟩⟩⟩⟩⟩⟩⟩⟩), (by unfold wsX8_isSo_r2; exact List.forall_mem_cons.mpr ⟨mx_X8_fits_34, List.forall_mem_cons.mpr ⟨mx_X8_fits_35, List.forall_mem_cons.mpr ⟨mx_X8_fits_36, List.forall_mem_cons.mpr ⟨mx_X8_fits_37, List.forall_mem_cons.mpr ⟨mx_X8_fits_38, List.forall_mem_cons.mpr ⟨mx_X8_fits_39, List.forall_mem_cons.mpr ⟨mx_X8_fits_40, List.forall_mem_cons.mpr ⟨mx_X8_fits_41, List.forall_mem_cons.mpr ⟨mx_X8_fits_42, List.forall_mem_cons.mpr ⟨mx_X8_fits_7, fun _ h_ => absurd h_ List.not_mem_nil⟩⟩⟩⟩⟩⟩⟩⟩⟩⟩)⟩, (fun _ h_ => mb_X8_fits_wsX80 h_)⟩⟩) (by decide +kernel)
theorem mx_X8_fits_8 : Cond.methodLink RX8 222 yX8_isSo ∈ wsX8_fits := mb_X8_fits_wsX8_fits_r1 (List.mem_of_getElem? (i := 7) rfl)
theorem mx_X8_fits_9 : Cond.instanceMethod yX8_isSo ∈ wsX8_fits := mb_X8_fits_wsX8_fits_r1 (List.mem_of_getElem? (i := 8) rfl)
theorem mx_X8_fits_10 : Cond.selects RX8 yX8_isSo yX8_isSo ∈ wsX8_fits := mb_X8_fits_wsX8_fits_r1 (List.mem_of_getElem? (i := 9) rfl)
theorem gX8_fits_X8_isSo : GoodIn wsX8_fits (wsV RX8 222 RX8 yX8_isSo wsX8_isSo) := goodIn_app (goodIn_sub (List.forall_mem_cons.mpr ⟨mx_X8_fits_8, List.forall_mem_cons.mpr ⟨mx_X8_fits_9, List.forall_mem_cons.mpr ⟨mx_X8_fits_10, List.forall_mem_cons.mpr ⟨mx_X8_fits_5, fun _ h_ => absurd h_ List.not_mem_nil⟩⟩⟩⟩) (by decide +kernel)) ggX8_fits_X8_isSo
theorem mx_X8_fits_6 : Cond.code yX8_putAside cX8_putAside 2 none ∈ wsX8_fits := mb_X8_fits_wsX8_fits_r1 (List.mem_of_getElem? (i := 5) rfl)
theorem ggX8_fits_X8_putAside : GoodIn wsX8_fits wsX8_putAside := goodIn_sub (by unfold wsX8_putAside; exact List.forall_mem_cons.mpr ⟨mx_X8_fits_6, List.forall_mem_append.mpr ⟨List.forall_mem_cons.mpr ⟨mx_X8_fits_7, List.forall_mem_cons.mpr ⟨mx_X8_fits_1, fun _ h_ => absurd h_ List.not_mem_nil⟩⟩, (fun _ h_ => mb_X8_fits_wsX80 h_)⟩⟩) (by decide +kernel)
theorem mx_X8_fits_2 : Cond.methodLink RX8 197 yX8_putAside ∈ wsX8_fits := mb_X8_fits_wsX8_fits_r1 (List.mem_of_getElem? (i := 1) rfl)
theorem mx_X8_fits_3 : Cond.instanceMethod yX8_putAside ∈ wsX8_fits := mb_X8_fits_wsX8_fits_r1 (List.mem_of_getElem? (i := 2) rfl)
theorem mx_X8_fits_4 : Cond.selects RX8 yX8_putAside yX8_putAside ∈ wsX8_fits := mb_X8_fits_wsX8_fits_r1 (List.mem_of_getElem? (i := 3) rfl)
theorem gX8_fits_X8_putAside : GoodIn wsX8_fits (wsV RX8 197 RX8 yX8_putAside wsX8_putAside) := goodIn_app (goodIn_sub (List.forall_mem_cons.mpr ⟨mx_X8_fits_2, List.forall_mem_cons.mpr ⟨mx_X8_fits_3, List.forall_mem_cons.mpr ⟨mx_X8_fits_4, List.forall_mem_cons.mpr ⟨mx_X8_fits_5, fun _ h_ => absurd h_ List.not_mem_nil⟩⟩⟩⟩) (by decide +kernel)) ggX8_fits_X8_putAside
theorem mx_X8_fits_46 : Cond.code yX8_well cX8_well 2 (some .int) ∈ wsX8_fits := mb_X8_fits_wsX8_fits_r2 (List.mem_of_getElem? (i := 21) rfl)
theorem mx_X8_fits_47 : Cond.fieldLink RX8 50 "MillTalkModel" "status" "I" ∈ wsX8_fits := mb_X8_fits_wsX8_fits_r2 (List.mem_of_getElem? (i := 22) rfl)
theorem ggX8_fits_X8_well : GoodIn wsX8_fits wsX8_well := goodIn_sub (by unfold wsX8_well; exact List.forall_mem_cons.mpr ⟨mx_X8_fits_46, List.forall_mem_append.mpr ⟨List.forall_mem_cons.mpr ⟨mx_X8_fits_47, fun _ h_ => absurd h_ List.not_mem_nil⟩, (fun _ h_ => mb_X8_fits_wsX80 h_)⟩⟩) (by decide +kernel)
theorem mx_X8_fits_43 : Cond.methodLink RX8 72 yX8_well ∈ wsX8_fits := mb_X8_fits_wsX8_fits_r2 (List.mem_of_getElem? (i := 18) rfl)
theorem mx_X8_fits_44 : Cond.instanceMethod yX8_well ∈ wsX8_fits := mb_X8_fits_wsX8_fits_r2 (List.mem_of_getElem? (i := 19) rfl)
theorem mx_X8_fits_45 : Cond.selects RX8 yX8_well yX8_well ∈ wsX8_fits := mb_X8_fits_wsX8_fits_r2 (List.mem_of_getElem? (i := 20) rfl)
theorem gX8_fits_X8_well : GoodIn wsX8_fits (wsV RX8 72 RX8 yX8_well wsX8_well) := goodIn_app (goodIn_sub (List.forall_mem_cons.mpr ⟨mx_X8_fits_43, List.forall_mem_cons.mpr ⟨mx_X8_fits_44, List.forall_mem_cons.mpr ⟨mx_X8_fits_45, List.forall_mem_cons.mpr ⟨mx_X8_fits_5, fun _ h_ => absurd h_ List.not_mem_nil⟩⟩⟩⟩) (by decide +kernel)) ggX8_fits_X8_well
theorem mb_X8_gusts_wsX8_gusts_r2 {w : Cond} (h : w ∈ wsX8_gusts_r2) : w ∈ wsX8_gusts := by unfold wsX8_gusts; exact List.mem_cons_of_mem _ (List.mem_append_left _ (List.mem_append_right _ (List.mem_append_left _ (h))))
theorem mx_X8_gusts_32 : Cond.code yX8_fits cX8_fits 9 (some .int) ∈ wsX8_gusts := mb_X8_gusts_wsX8_gusts_r2 (List.mem_of_getElem? (i := 7) rfl)
theorem mb_X8_gusts_wsX8_gusts_r1 {w : Cond} (h : w ∈ wsX8_gusts_r1) : w ∈ wsX8_gusts := by unfold wsX8_gusts; exact List.mem_cons_of_mem _ (List.mem_append_left _ (List.mem_append_left _ (h)))
theorem mx_X8_gusts_2 : Cond.fieldLink RX8 19 "MillTalkModel" "st" "[I" ∈ wsX8_gusts := mb_X8_gusts_wsX8_gusts_r1 (List.mem_of_getElem? (i := 1) rfl)
theorem mx_X8_gusts_33 : Cond.methodLink RX8 197 yX8_putAside ∈ wsX8_gusts := mb_X8_gusts_wsX8_gusts_r2 (List.mem_of_getElem? (i := 8) rfl)
theorem mx_X8_gusts_34 : Cond.instanceMethod yX8_putAside ∈ wsX8_gusts := mb_X8_gusts_wsX8_gusts_r2 (List.mem_of_getElem? (i := 9) rfl)
theorem mx_X8_gusts_35 : Cond.selects RX8 yX8_putAside yX8_putAside ∈ wsX8_gusts := mb_X8_gusts_wsX8_gusts_r2 (List.mem_of_getElem? (i := 10) rfl)
theorem mx_X8_gusts_8 : Cond.initialized RX8 ∈ wsX8_gusts := mb_X8_gusts_wsX8_gusts_r1 (List.mem_of_getElem? (i := 7) rfl)
theorem mx_X8_gusts_36 : Cond.code yX8_putAside cX8_putAside 2 none ∈ wsX8_gusts := mb_X8_gusts_wsX8_gusts_r2 (List.mem_of_getElem? (i := 11) rfl)
theorem mx_X8_gusts_37 : Cond.fieldLink RX8 34 "MillTalkModel" "aside" "[I" ∈ wsX8_gusts := mb_X8_gusts_wsX8_gusts_r2 (List.mem_of_getElem? (i := 12) rfl)
theorem mx_X8_gusts_38 : Cond.methodLink RX8 222 yX8_isSo ∈ wsX8_gusts := mb_X8_gusts_wsX8_gusts_r2 (List.mem_of_getElem? (i := 13) rfl)
theorem mx_X8_gusts_39 : Cond.instanceMethod yX8_isSo ∈ wsX8_gusts := mb_X8_gusts_wsX8_gusts_r2 (List.mem_of_getElem? (i := 14) rfl)
theorem mx_X8_gusts_40 : Cond.selects RX8 yX8_isSo yX8_isSo ∈ wsX8_gusts := mb_X8_gusts_wsX8_gusts_r2 (List.mem_of_getElem? (i := 15) rfl)
theorem mx_X8_gusts_41 : Cond.code yX8_isSo cX8_isSo 7 (some .boolean) ∈ wsX8_gusts := mb_X8_gusts_wsX8_gusts_r2 (List.mem_of_getElem? (i := 16) rfl)
theorem mx_X8_gusts_42 : Cond.fieldLink RX8 16 "MillTalkModel" "items" "[I" ∈ wsX8_gusts := mb_X8_gusts_wsX8_gusts_r2 (List.mem_of_getElem? (i := 17) rfl)
theorem mx_X8_gusts_43 : Cond.methodLink RX8 167 yX8_oneHour ∈ wsX8_gusts := mb_X8_gusts_wsX8_gusts_r2 (List.mem_of_getElem? (i := 18) rfl)
theorem mx_X8_gusts_44 : Cond.instanceMethod yX8_oneHour ∈ wsX8_gusts := mb_X8_gusts_wsX8_gusts_r2 (List.mem_of_getElem? (i := 19) rfl)
theorem mx_X8_gusts_45 : Cond.selects RX8 yX8_oneHour yX8_oneHour ∈ wsX8_gusts := mb_X8_gusts_wsX8_gusts_r2 (List.mem_of_getElem? (i := 20) rfl)
theorem mx_X8_gusts_46 : Cond.code yX8_oneHour cX8_oneHour 4 (some .int) ∈ wsX8_gusts := mb_X8_gusts_wsX8_gusts_r2 (List.mem_of_getElem? (i := 21) rfl)
theorem mx_X8_gusts_47 : Cond.methodLink RX8 151 yX8_gustOf ∈ wsX8_gusts := mb_X8_gusts_wsX8_gusts_r2 (List.mem_of_getElem? (i := 22) rfl)
theorem mx_X8_gusts_48 : Cond.instanceMethod yX8_gustOf ∈ wsX8_gusts := mb_X8_gusts_wsX8_gusts_r2 (List.mem_of_getElem? (i := 23) rfl)
theorem mb_X8_gusts_wsX8_gusts_r3 {w : Cond} (h : w ∈ wsX8_gusts_r3) : w ∈ wsX8_gusts := by unfold wsX8_gusts; exact List.mem_cons_of_mem _ (List.mem_append_left _ (List.mem_append_right _ (List.mem_append_right _ (List.mem_append_left _ (h)))))
theorem mx_X8_gusts_49 : Cond.selects RX8 yX8_gustOf yX8_gustOf ∈ wsX8_gusts := mb_X8_gusts_wsX8_gusts_r3 (List.mem_of_getElem? (i := 0) rfl)
theorem mx_X8_gusts_50 : Cond.code yX8_gustOf cX8_gustOf 2 (some .int) ∈ wsX8_gusts := mb_X8_gusts_wsX8_gusts_r3 (List.mem_of_getElem? (i := 1) rfl)
theorem mx_X8_gusts_51 : Cond.methodLink RX8 154 yX8_drift ∈ wsX8_gusts := mb_X8_gusts_wsX8_gusts_r3 (List.mem_of_getElem? (i := 2) rfl)
theorem mx_X8_gusts_52 : Cond.instanceMethod yX8_drift ∈ wsX8_gusts := mb_X8_gusts_wsX8_gusts_r3 (List.mem_of_getElem? (i := 3) rfl)
theorem mx_X8_gusts_53 : Cond.selects RX8 yX8_drift yX8_drift ∈ wsX8_gusts := mb_X8_gusts_wsX8_gusts_r3 (List.mem_of_getElem? (i := 4) rfl)
theorem mx_X8_gusts_54 : Cond.code yX8_drift cX8_drift 7 none ∈ wsX8_gusts := mb_X8_gusts_wsX8_gusts_r3 (List.mem_of_getElem? (i := 5) rfl)
theorem mx_X8_gusts_55 : Cond.methodLink RX8 145 yX8_drifts ∈ wsX8_gusts := mb_X8_gusts_wsX8_gusts_r3 (List.mem_of_getElem? (i := 6) rfl)
theorem mx_X8_gusts_56 : Cond.static yX8_drifts ∈ wsX8_gusts := mb_X8_gusts_wsX8_gusts_r3 (List.mem_of_getElem? (i := 7) rfl)
theorem mx_X8_gusts_57 : Cond.code yX8_drifts cX8_drifts 2 (some .int) ∈ wsX8_gusts := mb_X8_gusts_wsX8_gusts_r3 (List.mem_of_getElem? (i := 8) rfl)
theorem mx_X8_gusts_58 : Cond.methodLink RX8 148 yX8_isCell ∈ wsX8_gusts := mb_X8_gusts_wsX8_gusts_r3 (List.mem_of_getElem? (i := 9) rfl)
theorem mx_X8_gusts_59 : Cond.instanceMethod yX8_isCell ∈ wsX8_gusts := mb_X8_gusts_wsX8_gusts_r3 (List.mem_of_getElem? (i := 10) rfl)
theorem mx_X8_gusts_60 : Cond.selects RX8 yX8_isCell yX8_isCell ∈ wsX8_gusts := mb_X8_gusts_wsX8_gusts_r3 (List.mem_of_getElem? (i := 11) rfl)
theorem mx_X8_gusts_61 : Cond.code yX8_isCell cX8_isCell 2 (some .boolean) ∈ wsX8_gusts := mb_X8_gusts_wsX8_gusts_r3 (List.mem_of_getElem? (i := 12) rfl)
theorem mx_X8_gusts_6 : Cond.methodLink RX8 57 yX8_in ∈ wsX8_gusts := mb_X8_gusts_wsX8_gusts_r1 (List.mem_of_getElem? (i := 5) rfl)
theorem mx_X8_gusts_7 : Cond.static yX8_in ∈ wsX8_gusts := mb_X8_gusts_wsX8_gusts_r1 (List.mem_of_getElem? (i := 6) rfl)
theorem mx_X8_gusts_9 : Cond.code yX8_in cX8_in 6 (some .boolean) ∈ wsX8_gusts := mb_X8_gusts_wsX8_gusts_r1 (List.mem_of_getElem? (i := 8) rfl)
theorem mx_X8_gusts_62 : Cond.methodLink RX8 158 yX8_isAtMill ∈ wsX8_gusts := mb_X8_gusts_wsX8_gusts_r3 (List.mem_of_getElem? (i := 13) rfl)
theorem mx_X8_gusts_63 : Cond.instanceMethod yX8_isAtMill ∈ wsX8_gusts := mb_X8_gusts_wsX8_gusts_r3 (List.mem_of_getElem? (i := 14) rfl)
theorem mx_X8_gusts_64 : Cond.selects RX8 yX8_isAtMill yX8_isAtMill ∈ wsX8_gusts := mb_X8_gusts_wsX8_gusts_r3 (List.mem_of_getElem? (i := 15) rfl)
theorem mx_X8_gusts_65 : Cond.code yX8_isAtMill cX8_isAtMill 3 (some .boolean) ∈ wsX8_gusts := mb_X8_gusts_wsX8_gusts_r3 (List.mem_of_getElem? (i := 16) rfl)
theorem mx_X8_gusts_66 : Cond.methodLink RX8 194 yX8_takeBack ∈ wsX8_gusts := mb_X8_gusts_wsX8_gusts_r3 (List.mem_of_getElem? (i := 17) rfl)
theorem mx_X8_gusts_67 : Cond.instanceMethod yX8_takeBack ∈ wsX8_gusts := mb_X8_gusts_wsX8_gusts_r3 (List.mem_of_getElem? (i := 18) rfl)
theorem mx_X8_gusts_68 : Cond.selects RX8 yX8_takeBack yX8_takeBack ∈ wsX8_gusts := mb_X8_gusts_wsX8_gusts_r3 (List.mem_of_getElem? (i := 19) rfl)
theorem mx_X8_gusts_69 : Cond.code yX8_takeBack cX8_takeBack 2 none ∈ wsX8_gusts := mb_X8_gusts_wsX8_gusts_r3 (List.mem_of_getElem? (i := 20) rfl)
theorem mx_X8_gusts_70 : Cond.methodLink RX8 72 yX8_well ∈ wsX8_gusts := mb_X8_gusts_wsX8_gusts_r3 (List.mem_of_getElem? (i := 21) rfl)
theorem mx_X8_gusts_71 : Cond.instanceMethod yX8_well ∈ wsX8_gusts := mb_X8_gusts_wsX8_gusts_r3 (List.mem_of_getElem? (i := 22) rfl)
theorem mx_X8_gusts_72 : Cond.selects RX8 yX8_well yX8_well ∈ wsX8_gusts := mb_X8_gusts_wsX8_gusts_r3 (List.mem_of_getElem? (i := 23) rfl)
theorem mb_X8_gusts_wsX8_gusts_r4 {w : Cond} (h : w ∈ wsX8_gusts_r4) : w ∈ wsX8_gusts := by unfold wsX8_gusts; exact List.mem_cons_of_mem _ (List.mem_append_left _ (List.mem_append_right _ (List.mem_append_right _ (List.mem_append_right _ (h)))))
theorem mx_X8_gusts_73 : Cond.code yX8_well cX8_well 2 (some .int) ∈ wsX8_gusts := mb_X8_gusts_wsX8_gusts_r4 (List.mem_of_getElem? (i := 0) rfl)
theorem mx_X8_gusts_27 : Cond.fieldLink RX8 50 "MillTalkModel" "status" "I" ∈ wsX8_gusts := mb_X8_gusts_wsX8_gusts_r2 (List.mem_of_getElem? (i := 2) rfl)
theorem mb_X8_gusts_wsX80 {w : Cond} (h : w ∈ wsX80) : w ∈ wsX8_gusts := by unfold wsX8_gusts; exact List.mem_cons_of_mem _ (List.mem_append_right _ (h))
theorem ggX8_gusts_X8_fits : GoodIn wsX8_gusts wsX8_fits := goodIn_sub (by unfold wsX8_fits; exact List.forall_mem_cons.mpr ⟨mx_X8_gusts_32, List.forall_mem_append.mpr ⟨List.forall_mem_append.mpr ⟨(by unfold wsX8_fits_r1; exact List.forall_mem_cons.mpr ⟨mx_X8_gusts_2, List.forall_mem_cons.mpr ⟨mx_X8_gusts_33, List.forall_mem_cons.mpr ⟨mx_X8_gusts_34, List.forall_mem_cons.mpr ⟨mx_X8_gusts_35, List.forall_mem_cons.mpr ⟨mx_X8_gusts_8, List.forall_mem_cons.mpr ⟨mx_X8_gusts_36, List.forall_mem_cons.mpr ⟨mx_X8_gusts_37, List.forall_mem_cons.mpr ⟨mx_X8_gusts_38, List.forall_mem_cons.mpr ⟨mx_X8_gusts_39, List.forall_mem_cons.mpr ⟨mx_X8_gusts_40, List.forall_mem_cons.mpr ⟨mx_X8_gusts_41, List.forall_mem_cons.mpr ⟨mx_X8_gusts_42, List.forall_mem_cons.mpr ⟨mx_X8_gusts_43, List.forall_mem_cons.mpr ⟨mx_X8_gusts_44, List.forall_mem_cons.mpr ⟨mx_X8_gusts_45, List.forall_mem_cons.mpr ⟨mx_X8_gusts_46, List.forall_mem_cons.mpr ⟨mx_X8_gusts_47, List.forall_mem_cons.mpr ⟨mx_X8_gusts_48, List.forall_mem_cons.mpr ⟨mx_X8_gusts_49, List.forall_mem_cons.mpr ⟨mx_X8_gusts_50, List.forall_mem_cons.mpr ⟨mx_X8_gusts_51, List.forall_mem_cons.mpr ⟨mx_X8_gusts_52, List.forall_mem_cons.mpr ⟨mx_X8_gusts_53, List.forall_mem_cons.mpr ⟨mx_X8_gusts_54, fun _ h_ => absurd h_ List.not_mem_nil⟩⟩⟩⟩⟩⟩⟩⟩⟩⟩⟩⟩⟩⟩⟩⟩⟩⟩⟩⟩⟩⟩⟩⟩), (by unfold wsX8_fits_r2; exact List.forall_mem_cons.mpr ⟨mx_X8_gusts_55, List.forall_mem_cons.mpr ⟨mx_X8_gusts_56, List.forall_mem_cons.mpr ⟨mx_X8_gusts_57, List.forall_mem_cons.mpr ⟨mx_X8_gusts_58, List.forall_mem_cons.mpr ⟨mx_X8_gusts_59, List.forall_mem_cons.mpr ⟨mx_X8_gusts_60, List.forall_mem_cons.mpr ⟨mx_X8_gusts_61, List.forall_mem_cons.mpr ⟨mx_X8_gusts_6, List.forall_mem_cons.mpr ⟨mx_X8_gusts_7, List.forall_mem_cons.mpr ⟨mx_X8_gusts_9, List.forall_mem_cons.mpr ⟨mx_X8_gusts_62, List.forall_mem_cons.mpr ⟨mx_X8_gusts_63, List.forall_mem_cons.mpr ⟨mx_X8_gusts_64, List.forall_mem_cons.mpr ⟨mx_X8_gusts_65, List.forall_mem_cons.mpr ⟨mx_X8_gusts_66, List.forall_mem_cons.mpr ⟨mx_X8_gusts_67, List.forall_mem_cons.mpr ⟨mx_X8_gusts_68, List.forall_mem_cons.mpr ⟨mx_X8_gusts_69, List.forall_mem_cons.mpr ⟨mx_X8_gusts_70, List.forall_mem_cons.mpr ⟨mx_X8_gusts_71, List.forall_mem_cons.mpr ⟨mx_X8_gusts_72, List.forall_mem_cons.mpr ⟨mx_X8_gusts_73, List.forall_mem_cons.mpr ⟨mx_X8_gusts_27, fun _ h_ => absurd h_ List.not_mem_nil⟩⟩⟩⟩⟩⟩⟩⟩⟩⟩⟩⟩⟩⟩⟩⟩⟩⟩⟩⟩⟩⟩⟩)⟩, (fun _ h_ => mb_X8_gusts_wsX80 h_)⟩⟩) (by decide +kernel)
theorem mx_X8_gusts_29 : Cond.methodLink RX8 232 yX8_fits ∈ wsX8_gusts := mb_X8_gusts_wsX8_gusts_r2 (List.mem_of_getElem? (i := 4) rfl)
theorem mx_X8_gusts_30 : Cond.instanceMethod yX8_fits ∈ wsX8_gusts := mb_X8_gusts_wsX8_gusts_r2 (List.mem_of_getElem? (i := 5) rfl)
theorem mx_X8_gusts_31 : Cond.selects RX8 yX8_fits yX8_fits ∈ wsX8_gusts := mb_X8_gusts_wsX8_gusts_r2 (List.mem_of_getElem? (i := 6) rfl)
theorem gX8_gusts_X8_fits : GoodIn wsX8_gusts (wsV RX8 232 RX8 yX8_fits wsX8_fits) := goodIn_app (goodIn_sub (List.forall_mem_cons.mpr ⟨mx_X8_gusts_29, List.forall_mem_cons.mpr ⟨mx_X8_gusts_30, List.forall_mem_cons.mpr ⟨mx_X8_gusts_31, List.forall_mem_cons.mpr ⟨mx_X8_gusts_8, fun _ h_ => absurd h_ List.not_mem_nil⟩⟩⟩⟩) (by decide +kernel)) ggX8_gusts_X8_fits
theorem ggX8_gusts_X8_in : GoodIn wsX8_gusts wsX8_in := goodIn_sub (by unfold wsX8_in; exact List.forall_mem_cons.mpr ⟨mx_X8_gusts_9, fun _ h_ => absurd h_ List.not_mem_nil⟩) (by decide +kernel)
set_option maxRecDepth 20000 in
theorem gX8_gusts_X8_in : GoodIn wsX8_gusts (va_wsS RX8 57 yX8_in wsX8_in) := goodIn_app (goodIn_of _ (by decide +kernel)) ggX8_gusts_X8_in
theorem mx_X8_gusts_16 : Cond.code yX8_isRow cX8_isRow 1 (some .boolean) ∈ wsX8_gusts := mb_X8_gusts_wsX8_gusts_r1 (List.mem_of_getElem? (i := 15) rfl)
theorem mx_X8_gusts_17 : Cond.constantLong RX8 55 (7) ∈ wsX8_gusts := mb_X8_gusts_wsX8_gusts_r1 (List.mem_of_getElem? (i := 16) rfl)
theorem ggX8_gusts_X8_isRow : GoodIn wsX8_gusts wsX8_isRow := goodIn_sub (by unfold wsX8_isRow; exact List.forall_mem_cons.mpr ⟨mx_X8_gusts_16, List.forall_mem_cons.mpr ⟨mx_X8_gusts_17, List.forall_mem_cons.mpr ⟨mx_X8_gusts_6, List.forall_mem_cons.mpr ⟨mx_X8_gusts_7, List.forall_mem_cons.mpr ⟨mx_X8_gusts_8, List.forall_mem_cons.mpr ⟨mx_X8_gusts_9, fun _ h_ => absurd h_ List.not_mem_nil⟩⟩⟩⟩⟩⟩) (by decide +kernel)
set_option maxRecDepth 20000 in
theorem gX8_gusts_X8_isRow : GoodIn wsX8_gusts (va_wsS RX8 61 yX8_isRow wsX8_isRow) := goodIn_app (goodIn_of _ (by decide +kernel)) ggX8_gusts_X8_isRow
theorem mx_X8_gusts_13 : Cond.code yX8_isSound cX8_isSound 2 (some .boolean) ∈ wsX8_gusts := mb_X8_gusts_wsX8_gusts_r1 (List.mem_of_getElem? (i := 12) rfl)
theorem ggX8_gusts_X8_isSound : GoodIn wsX8_gusts wsX8_isSound := goodIn_sub (by unfold wsX8_isSound; exact List.forall_mem_cons.mpr ⟨mx_X8_gusts_13, List.forall_mem_append.mpr ⟨List.forall_mem_cons.mpr ⟨mx_X8_gusts_2, List.forall_mem_cons.mpr ⟨mx_X8_gusts_6, List.forall_mem_cons.mpr ⟨mx_X8_gusts_7, List.forall_mem_cons.mpr ⟨mx_X8_gusts_8, List.forall_mem_cons.mpr ⟨mx_X8_gusts_9, fun _ h_ => absurd h_ List.not_mem_nil⟩⟩⟩⟩⟩, (fun _ h_ => mb_X8_gusts_wsX80 h_)⟩⟩) (by decide +kernel)
theorem mx_X8_gusts_10 : Cond.methodLink RX8 173 yX8_isSound ∈ wsX8_gusts := mb_X8_gusts_wsX8_gusts_r1 (List.mem_of_getElem? (i := 9) rfl)
theorem mx_X8_gusts_11 : Cond.instanceMethod yX8_isSound ∈ wsX8_gusts := mb_X8_gusts_wsX8_gusts_r1 (List.mem_of_getElem? (i := 10) rfl)
theorem mx_X8_gusts_12 : Cond.selects RX8 yX8_isSound yX8_isSound ∈ wsX8_gusts := mb_X8_gusts_wsX8_gusts_r1 (List.mem_of_getElem? (i := 11) rfl)
theorem gX8_gusts_X8_isSound : GoodIn wsX8_gusts (wsV RX8 173 RX8 yX8_isSound wsX8_isSound) := goodIn_app (goodIn_sub (List.forall_mem_cons.mpr ⟨mx_X8_gusts_10, List.forall_mem_cons.mpr ⟨mx_X8_gusts_11, List.forall_mem_cons.mpr ⟨mx_X8_gusts_12, List.forall_mem_cons.mpr ⟨mx_X8_gusts_8, fun _ h_ => absurd h_ List.not_mem_nil⟩⟩⟩⟩) (by decide +kernel)) ggX8_gusts_X8_isSound
theorem mx_X8_gusts_21 : Cond.code yX8_lacks cX8_lacks 4 (some .int) ∈ wsX8_gusts := mb_X8_gusts_wsX8_gusts_r1 (List.mem_of_getElem? (i := 20) rfl)
theorem mx_X8_gusts_22 : Cond.fieldLink RX8 13 "MillTalkModel" "sizes" "[I" ∈ wsX8_gusts := mb_X8_gusts_wsX8_gusts_r1 (List.mem_of_getElem? (i := 21) rfl)
theorem mx_X8_gusts_23 : Cond.methodLink RX8 68 yX8_find ∈ wsX8_gusts := mb_X8_gusts_wsX8_gusts_r1 (List.mem_of_getElem? (i := 22) rfl)
theorem mx_X8_gusts_24 : Cond.instanceMethod yX8_find ∈ wsX8_gusts := mb_X8_gusts_wsX8_gusts_r1 (List.mem_of_getElem? (i := 23) rfl)
theorem mx_X8_gusts_25 : Cond.selects RX8 yX8_find yX8_find ∈ wsX8_gusts := mb_X8_gusts_wsX8_gusts_r2 (List.mem_of_getElem? (i := 0) rfl)
theorem mx_X8_gusts_26 : Cond.code yX8_find cX8_find 2 (some .int) ∈ wsX8_gusts := mb_X8_gusts_wsX8_gusts_r2 (List.mem_of_getElem? (i := 1) rfl)
theorem mx_X8_gusts_28 : Cond.constant RX8 54 (-1000010) ∈ wsX8_gusts := mb_X8_gusts_wsX8_gusts_r2 (List.mem_of_getElem? (i := 3) rfl)
theorem ggX8_gusts_X8_lacks : GoodIn wsX8_gusts wsX8_lacks := goodIn_sub (by unfold wsX8_lacks; exact List.forall_mem_cons.mpr ⟨mx_X8_gusts_21, List.forall_mem_append.mpr ⟨List.forall_mem_cons.mpr ⟨mx_X8_gusts_22, List.forall_mem_cons.mpr ⟨mx_X8_gusts_23, List.forall_mem_cons.mpr ⟨mx_X8_gusts_24, List.forall_mem_cons.mpr ⟨mx_X8_gusts_25, List.forall_mem_cons.mpr ⟨mx_X8_gusts_8, List.forall_mem_cons.mpr ⟨mx_X8_gusts_26, List.forall_mem_cons.mpr ⟨mx_X8_gusts_27, List.forall_mem_cons.mpr ⟨mx_X8_gusts_28, List.forall_mem_cons.mpr ⟨mx_X8_gusts_6, List.forall_mem_cons.mpr ⟨mx_X8_gusts_7, List.forall_mem_cons.mpr ⟨mx_X8_gusts_9, fun _ h_ => absurd h_ List.not_mem_nil⟩⟩⟩⟩⟩⟩⟩⟩⟩⟩⟩, (fun _ h_ => mb_X8_gusts_wsX80 h_)⟩⟩) (by decide +kernel)
theorem mx_X8_gusts_18 : Cond.methodLink RX8 228 yX8_lacks ∈ wsX8_gusts := mb_X8_gusts_wsX8_gusts_r1 (List.mem_of_getElem? (i := 17) rfl)
theorem mx_X8_gusts_19 : Cond.instanceMethod yX8_lacks ∈ wsX8_gusts := mb_X8_gusts_wsX8_gusts_r1 (List.mem_of_getElem? (i := 18) rfl)
theorem mx_X8_gusts_20 : Cond.selects RX8 yX8_lacks yX8_lacks ∈ wsX8_gusts := mb_X8_gusts_wsX8_gusts_r1 (List.mem_of_getElem? (i := 19) rfl)
theorem gX8_gusts_X8_lacks : GoodIn wsX8_gusts (wsV RX8 228 RX8 yX8_lacks wsX8_lacks) := goodIn_app (goodIn_sub (List.forall_mem_cons.mpr ⟨mx_X8_gusts_18, List.forall_mem_cons.mpr ⟨mx_X8_gusts_19, List.forall_mem_cons.mpr ⟨mx_X8_gusts_20, List.forall_mem_cons.mpr ⟨mx_X8_gusts_8, fun _ h_ => absurd h_ List.not_mem_nil⟩⟩⟩⟩) (by decide +kernel)) ggX8_gusts_X8_lacks
theorem mb_X8_isSo_wsX8_isSo_r1 {w : Cond} (h : w ∈ wsX8_isSo_r1) : w ∈ wsX8_isSo := by unfold wsX8_isSo; exact List.mem_cons_of_mem _ (List.mem_append_left _ (List.mem_append_left _ (h)))
theorem mx_X8_isSo_7 : Cond.code yX8_oneHour cX8_oneHour 4 (some .int) ∈ wsX8_isSo := mb_X8_isSo_wsX8_isSo_r1 (List.mem_of_getElem? (i := 6) rfl)
theorem mx_X8_isSo_1 : Cond.fieldLink RX8 19 "MillTalkModel" "st" "[I" ∈ wsX8_isSo := mb_X8_isSo_wsX8_isSo_r1 (List.mem_of_getElem? (i := 0) rfl)
theorem mx_X8_isSo_8 : Cond.methodLink RX8 151 yX8_gustOf ∈ wsX8_isSo := mb_X8_isSo_wsX8_isSo_r1 (List.mem_of_getElem? (i := 7) rfl)
theorem mx_X8_isSo_9 : Cond.instanceMethod yX8_gustOf ∈ wsX8_isSo := mb_X8_isSo_wsX8_isSo_r1 (List.mem_of_getElem? (i := 8) rfl)
theorem mx_X8_isSo_10 : Cond.selects RX8 yX8_gustOf yX8_gustOf ∈ wsX8_isSo := mb_X8_isSo_wsX8_isSo_r1 (List.mem_of_getElem? (i := 9) rfl)
theorem mx_X8_isSo_6 : Cond.initialized RX8 ∈ wsX8_isSo := mb_X8_isSo_wsX8_isSo_r1 (List.mem_of_getElem? (i := 5) rfl)
theorem mx_X8_isSo_11 : Cond.code yX8_gustOf cX8_gustOf 2 (some .int) ∈ wsX8_isSo := mb_X8_isSo_wsX8_isSo_r1 (List.mem_of_getElem? (i := 10) rfl)
theorem mx_X8_isSo_12 : Cond.methodLink RX8 154 yX8_drift ∈ wsX8_isSo := mb_X8_isSo_wsX8_isSo_r1 (List.mem_of_getElem? (i := 11) rfl)
theorem mx_X8_isSo_13 : Cond.instanceMethod yX8_drift ∈ wsX8_isSo := mb_X8_isSo_wsX8_isSo_r1 (List.mem_of_getElem? (i := 12) rfl)
theorem mx_X8_isSo_14 : Cond.selects RX8 yX8_drift yX8_drift ∈ wsX8_isSo := mb_X8_isSo_wsX8_isSo_r1 (List.mem_of_getElem? (i := 13) rfl)
theorem mx_X8_isSo_15 : Cond.code yX8_drift cX8_drift 7 none ∈ wsX8_isSo := mb_X8_isSo_wsX8_isSo_r1 (List.mem_of_getElem? (i := 14) rfl)
theorem mx_X8_isSo_16 : Cond.methodLink RX8 145 yX8_drifts ∈ wsX8_isSo := mb_X8_isSo_wsX8_isSo_r1 (List.mem_of_getElem? (i := 15) rfl)
theorem mx_X8_isSo_17 : Cond.static yX8_drifts ∈ wsX8_isSo := mb_X8_isSo_wsX8_isSo_r1 (List.mem_of_getElem? (i := 16) rfl)
theorem mx_X8_isSo_18 : Cond.code yX8_drifts cX8_drifts 2 (some .int) ∈ wsX8_isSo := mb_X8_isSo_wsX8_isSo_r1 (List.mem_of_getElem? (i := 17) rfl)
theorem mx_X8_isSo_19 : Cond.methodLink RX8 148 yX8_isCell ∈ wsX8_isSo := mb_X8_isSo_wsX8_isSo_r1 (List.mem_of_getElem? (i := 18) rfl)
theorem mx_X8_isSo_20 : Cond.instanceMethod yX8_isCell ∈ wsX8_isSo := mb_X8_isSo_wsX8_isSo_r1 (List.mem_of_getElem? (i := 19) rfl)
theorem mx_X8_isSo_21 : Cond.selects RX8 yX8_isCell yX8_isCell ∈ wsX8_isSo := mb_X8_isSo_wsX8_isSo_r1 (List.mem_of_getElem? (i := 20) rfl)
theorem mx_X8_isSo_22 : Cond.code yX8_isCell cX8_isCell 2 (some .boolean) ∈ wsX8_isSo := mb_X8_isSo_wsX8_isSo_r1 (List.mem_of_getElem? (i := 21) rfl)
theorem mx_X8_isSo_23 : Cond.methodLink RX8 57 yX8_in ∈ wsX8_isSo := mb_X8_isSo_wsX8_isSo_r1 (List.mem_of_getElem? (i := 22) rfl)
theorem mx_X8_isSo_24 : Cond.static yX8_in ∈ wsX8_isSo := mb_X8_isSo_wsX8_isSo_r1 (List.mem_of_getElem? (i := 23) rfl)
theorem mb_X8_isSo_wsX8_isSo_r2 {w : Cond} (h : w ∈ wsX8_isSo_r2) : w ∈ wsX8_isSo := by unfold wsX8_isSo; exact List.mem_cons_of_mem _ (List.mem_append_left _ (List.mem_append_right _ (h)))
theorem mx_X8_isSo_25 : Cond.code yX8_in cX8_in 6 (some .boolean) ∈ wsX8_isSo := mb_X8_isSo_wsX8_isSo_r2 (List.mem_of_getElem? (i := 0) rfl)
theorem mx_X8_isSo_26 : Cond.methodLink RX8 158 yX8_isAtMill ∈ wsX8_isSo := mb_X8_isSo_wsX8_isSo_r2 (List.mem_of_getElem? (i := 1) rfl)
theorem mx_X8_isSo_27 : Cond.instanceMethod yX8_isAtMill ∈ wsX8_isSo := mb_X8_isSo_wsX8_isSo_r2 (List.mem_of_getElem? (i := 2) rfl)
theorem mx_X8_isSo_28 : Cond.selects RX8 yX8_isAtMill yX8_isAtMill ∈ wsX8_isSo := mb_X8_isSo_wsX8_isSo_r2 (List.mem_of_getElem? (i := 3) rfl)
theorem mx_X8_isSo_29 : Cond.code yX8_isAtMill cX8_isAtMill 3 (some .boolean) ∈ wsX8_isSo := mb_X8_isSo_wsX8_isSo_r2 (List.mem_of_getElem? (i := 4) rfl)
theorem mb_X8_isSo_wsX80 {w : Cond} (h : w ∈ wsX80) : w ∈ wsX8_isSo := by unfold wsX8_isSo; exact List.mem_cons_of_mem _ (List.mem_append_right _ (h))
theorem ggX8_isSo_X8_oneHour : GoodIn wsX8_isSo wsX8_oneHour := goodIn_sub (by unfold wsX8_oneHour; exact List.forall_mem_cons.mpr ⟨mx_X8_isSo_7, List.forall_mem_append.mpr ⟨List.forall_mem_cons.mpr ⟨mx_X8_isSo_1, List.forall_mem_cons.mpr ⟨mx_X8_isSo_8, List.forall_mem_cons.mpr ⟨mx_X8_isSo_9, List.forall_mem_cons.mpr ⟨mx_X8_isSo_10, List.forall_mem_cons.mpr ⟨mx_X8_isSo_6, List.forall_mem_cons.mpr ⟨mx_X8_isSo_11, List.forall_mem_cons.mpr ⟨mx_X8_isSo_12, List.forall_mem_cons.mpr ⟨mx_X8_isSo_13, List.forall_mem_cons.mpr ⟨mx_X8_isSo_14, List.forall_mem_cons.mpr ⟨mx_X8_isSo_15, List.forall_mem_cons.mpr ⟨mx_X8_isSo_16, List.forall_mem_cons.mpr ⟨mx_X8_isSo_17, List.forall_mem_cons.mpr ⟨mx_X8_isSo_18, List.forall_mem_cons.mpr ⟨mx_X8_isSo_19, List.forall_mem_cons.mpr ⟨mx_X8_isSo_20, List.forall_mem_cons.mpr ⟨mx_X8_isSo_21, List.forall_mem_cons.mpr ⟨mx_X8_isSo_22, List.forall_mem_cons.mpr ⟨mx_X8_isSo_23, List.forall_mem_cons.mpr ⟨mx_X8_isSo_24, List.forall_mem_cons.mpr ⟨mx_X8_isSo_25, List.forall_mem_cons.mpr ⟨mx_X8_isSo_26, List.forall_mem_cons.mpr ⟨mx_X8_isSo_27, List.forall_mem_cons.mpr ⟨mx_X8_isSo_28, List.forall_mem_cons.mpr ⟨mx_X8_isSo_29, fun _ h_ => absurd h_ List.not_mem_nil⟩⟩⟩⟩⟩⟩⟩⟩⟩⟩⟩⟩⟩⟩⟩⟩⟩⟩⟩⟩⟩⟩⟩⟩, (fun _ h_ => mb_X8_isSo_wsX80 h_)⟩⟩) (by decide +kernel)
theorem mx_X8_isSo_3 : Cond.methodLink RX8 167 yX8_oneHour ∈ wsX8_isSo := mb_X8_isSo_wsX8_isSo_r1 (List.mem_of_getElem? (i := 2) rfl)
theorem mx_X8_isSo_4 : Cond.instanceMethod yX8_oneHour ∈ wsX8_isSo := mb_X8_isSo_wsX8_isSo_r1 (List.mem_of_getElem? (i := 3) rfl)
theorem mx_X8_isSo_5 : Cond.selects RX8 yX8_oneHour yX8_oneHour ∈ wsX8_isSo := mb_X8_isSo_wsX8_isSo_r1 (List.mem_of_getElem? (i := 4) rfl)
theorem gX8_isSo_X8_oneHour : GoodIn wsX8_isSo (wsV RX8 167 RX8 yX8_oneHour wsX8_oneHour) := goodIn_app (goodIn_sub (List.forall_mem_cons.mpr ⟨mx_X8_isSo_3, List.forall_mem_cons.mpr ⟨mx_X8_isSo_4, List.forall_mem_cons.mpr ⟨mx_X8_isSo_5, List.forall_mem_cons.mpr ⟨mx_X8_isSo_6, fun _ h_ => absurd h_ List.not_mem_nil⟩⟩⟩⟩) (by decide +kernel)) ggX8_isSo_X8_oneHour
theorem mx_X8_isSo_33 : Cond.code yX8_takeBack cX8_takeBack 2 none ∈ wsX8_isSo := mb_X8_isSo_wsX8_isSo_r2 (List.mem_of_getElem? (i := 8) rfl)
theorem mx_X8_isSo_34 : Cond.fieldLink RX8 34 "MillTalkModel" "aside" "[I" ∈ wsX8_isSo := mb_X8_isSo_wsX8_isSo_r2 (List.mem_of_getElem? (i := 9) rfl)
theorem ggX8_isSo_X8_takeBack : GoodIn wsX8_isSo wsX8_takeBack := goodIn_sub (by unfold wsX8_takeBack; exact List.forall_mem_cons.mpr ⟨mx_X8_isSo_33, List.forall_mem_append.mpr ⟨List.forall_mem_cons.mpr ⟨mx_X8_isSo_1, List.forall_mem_cons.mpr ⟨mx_X8_isSo_34, fun _ h_ => absurd h_ List.not_mem_nil⟩⟩, (fun _ h_ => mb_X8_isSo_wsX80 h_)⟩⟩) (by decide +kernel)
theorem mx_X8_isSo_30 : Cond.methodLink RX8 194 yX8_takeBack ∈ wsX8_isSo := mb_X8_isSo_wsX8_isSo_r2 (List.mem_of_getElem? (i := 5) rfl)
theorem mx_X8_isSo_31 : Cond.instanceMethod yX8_takeBack ∈ wsX8_isSo := mb_X8_isSo_wsX8_isSo_r2 (List.mem_of_getElem? (i := 6) rfl)
theorem mx_X8_isSo_32 : Cond.selects RX8 yX8_takeBack yX8_takeBack ∈ wsX8_isSo := mb_X8_isSo_wsX8_isSo_r2 (List.mem_of_getElem? (i := 7) rfl)
theorem gX8_isSo_X8_takeBack : GoodIn wsX8_isSo (wsV RX8 194 RX8 yX8_takeBack wsX8_takeBack) := goodIn_app (goodIn_sub (List.forall_mem_cons.mpr ⟨mx_X8_isSo_30, List.forall_mem_cons.mpr ⟨mx_X8_isSo_31, List.forall_mem_cons.mpr ⟨mx_X8_isSo_32, List.forall_mem_cons.mpr ⟨mx_X8_isSo_6, fun _ h_ => absurd h_ List.not_mem_nil⟩⟩⟩⟩) (by decide +kernel)) ggX8_isSo_X8_takeBack
theorem mx_X8_lacks_6 : Cond.code yX8_find cX8_find 2 (some .int) ∈ wsX8_lacks := by unfold wsX8_lacks; exact List.mem_cons_of_mem _ (List.mem_append_left _ (List.mem_of_getElem? (i := 5) rfl))
theorem mx_X8_lacks_7 : Cond.fieldLink RX8 50 "MillTalkModel" "status" "I" ∈ wsX8_lacks := by unfold wsX8_lacks; exact List.mem_cons_of_mem _ (List.mem_append_left _ (List.mem_of_getElem? (i := 6) rfl))
theorem mx_X8_lacks_8 : Cond.constant RX8 54 (-1000010) ∈ wsX8_lacks := by unfold wsX8_lacks; exact List.mem_cons_of_mem _ (List.mem_append_left _ (List.mem_of_getElem? (i := 7) rfl))
theorem mb_X8_lacks_wsX80 {w : Cond} (h : w ∈ wsX80) : w ∈ wsX8_lacks := by unfold wsX8_lacks; exact List.mem_cons_of_mem _ (List.mem_append_right _ (h))
theorem ggX8_lacks_X8_find : GoodIn wsX8_lacks wsX8_find := goodIn_sub (by unfold wsX8_find; exact List.forall_mem_cons.mpr ⟨mx_X8_lacks_6, List.forall_mem_append.mpr ⟨List.forall_mem_cons.mpr ⟨mx_X8_lacks_7, List.forall_mem_cons.mpr ⟨mx_X8_lacks_8, fun _ h_ => absurd h_ List.not_mem_nil⟩⟩, (fun _ h_ => mb_X8_lacks_wsX80 h_)⟩⟩) (by decide +kernel)
theorem mx_X8_lacks_2 : Cond.methodLink RX8 68 yX8_find ∈ wsX8_lacks := by unfold wsX8_lacks; exact List.mem_cons_of_mem _ (List.mem_append_left _ (List.mem_of_getElem? (i := 1) rfl))
theorem mx_X8_lacks_3 : Cond.instanceMethod yX8_find ∈ wsX8_lacks := by unfold wsX8_lacks; exact List.mem_cons_of_mem _ (List.mem_append_left _ (List.mem_of_getElem? (i := 2) rfl))
theorem mx_X8_lacks_4 : Cond.selects RX8 yX8_find yX8_find ∈ wsX8_lacks := by unfold wsX8_lacks; exact List.mem_cons_of_mem _ (List.mem_append_left _ (List.mem_of_getElem? (i := 3) rfl))
theorem mx_X8_lacks_5 : Cond.initialized RX8 ∈ wsX8_lacks := by unfold wsX8_lacks; exact List.mem_cons_of_mem _ (List.mem_append_left _ (List.mem_of_getElem? (i := 4) rfl))
theorem gX8_lacks_X8_find : GoodIn wsX8_lacks (wsV RX8 68 RX8 yX8_find wsX8_find) := goodIn_app (goodIn_sub (List.forall_mem_cons.mpr ⟨mx_X8_lacks_2, List.forall_mem_cons.mpr ⟨mx_X8_lacks_3, List.forall_mem_cons.mpr ⟨mx_X8_lacks_4, List.forall_mem_cons.mpr ⟨mx_X8_lacks_5, fun _ h_ => absurd h_ List.not_mem_nil⟩⟩⟩⟩) (by decide +kernel)) ggX8_lacks_X8_find
theorem mx_X8_lacks_11 : Cond.code yX8_in cX8_in 6 (some .boolean) ∈ wsX8_lacks := by unfold wsX8_lacks; exact List.mem_cons_of_mem _ (List.mem_append_left _ (List.mem_of_getElem? (i := 10) rfl))
theorem ggX8_lacks_X8_in : GoodIn wsX8_lacks wsX8_in := goodIn_sub (by unfold wsX8_in; exact List.forall_mem_cons.mpr ⟨mx_X8_lacks_11, fun _ h_ => absurd h_ List.not_mem_nil⟩) (by decide +kernel)
set_option maxRecDepth 20000 in
theorem gX8_lacks_X8_in : GoodIn wsX8_lacks (va_wsS RX8 57 yX8_in wsX8_in) := goodIn_app (goodIn_of _ (by decide +kernel)) ggX8_lacks_X8_in
theorem mb_X8_who_wsX8_who_r2 {w : Cond} (h : w ∈ wsX8_who_r2) : w ∈ wsX8_who := by unfold wsX8_who; exact List.mem_cons_of_mem _ (List.mem_append_left _ (List.mem_append_right _ (List.mem_append_left _ (h))))
theorem mx_X8_who_34 : Cond.code yX8_fits cX8_fits 9 (some .int) ∈ wsX8_who := mb_X8_who_wsX8_who_r2 (List.mem_of_getElem? (i := 9) rfl)
theorem mb_X8_who_wsX8_who_r1 {w : Cond} (h : w ∈ wsX8_who_r1) : w ∈ wsX8_who := by unfold wsX8_who; exact List.mem_cons_of_mem _ (List.mem_append_left _ (List.mem_append_left _ (h)))
theorem mx_X8_who_3 : Cond.fieldLink RX8 19 "MillTalkModel" "st" "[I" ∈ wsX8_who := mb_X8_who_wsX8_who_r1 (List.mem_of_getElem? (i := 2) rfl)
theorem mx_X8_who_35 : Cond.methodLink RX8 197 yX8_putAside ∈ wsX8_who := mb_X8_who_wsX8_who_r2 (List.mem_of_getElem? (i := 10) rfl)
theorem mx_X8_who_36 : Cond.instanceMethod yX8_putAside ∈ wsX8_who := mb_X8_who_wsX8_who_r2 (List.mem_of_getElem? (i := 11) rfl)
theorem mx_X8_who_37 : Cond.selects RX8 yX8_putAside yX8_putAside ∈ wsX8_who := mb_X8_who_wsX8_who_r2 (List.mem_of_getElem? (i := 12) rfl)
theorem mx_X8_who_8 : Cond.initialized RX8 ∈ wsX8_who := mb_X8_who_wsX8_who_r1 (List.mem_of_getElem? (i := 7) rfl)
theorem mx_X8_who_38 : Cond.code yX8_putAside cX8_putAside 2 none ∈ wsX8_who := mb_X8_who_wsX8_who_r2 (List.mem_of_getElem? (i := 13) rfl)
theorem mx_X8_who_39 : Cond.fieldLink RX8 34 "MillTalkModel" "aside" "[I" ∈ wsX8_who := mb_X8_who_wsX8_who_r2 (List.mem_of_getElem? (i := 14) rfl)
theorem mx_X8_who_40 : Cond.methodLink RX8 222 yX8_isSo ∈ wsX8_who := mb_X8_who_wsX8_who_r2 (List.mem_of_getElem? (i := 15) rfl)
theorem mx_X8_who_41 : Cond.instanceMethod yX8_isSo ∈ wsX8_who := mb_X8_who_wsX8_who_r2 (List.mem_of_getElem? (i := 16) rfl)
theorem mx_X8_who_42 : Cond.selects RX8 yX8_isSo yX8_isSo ∈ wsX8_who := mb_X8_who_wsX8_who_r2 (List.mem_of_getElem? (i := 17) rfl)
theorem mx_X8_who_43 : Cond.code yX8_isSo cX8_isSo 7 (some .boolean) ∈ wsX8_who := mb_X8_who_wsX8_who_r2 (List.mem_of_getElem? (i := 18) rfl)
theorem mx_X8_who_44 : Cond.fieldLink RX8 16 "MillTalkModel" "items" "[I" ∈ wsX8_who := mb_X8_who_wsX8_who_r2 (List.mem_of_getElem? (i := 19) rfl)
theorem mx_X8_who_45 : Cond.methodLink RX8 167 yX8_oneHour ∈ wsX8_who := mb_X8_who_wsX8_who_r2 (List.mem_of_getElem? (i := 20) rfl)
theorem mx_X8_who_46 : Cond.instanceMethod yX8_oneHour ∈ wsX8_who := mb_X8_who_wsX8_who_r2 (List.mem_of_getElem? (i := 21) rfl)
theorem mx_X8_who_47 : Cond.selects RX8 yX8_oneHour yX8_oneHour ∈ wsX8_who := mb_X8_who_wsX8_who_r2 (List.mem_of_getElem? (i := 22) rfl)
theorem mx_X8_who_48 : Cond.code yX8_oneHour cX8_oneHour 4 (some .int) ∈ wsX8_who := mb_X8_who_wsX8_who_r2 (List.mem_of_getElem? (i := 23) rfl)
theorem mb_X8_who_wsX8_who_r3 {w : Cond} (h : w ∈ wsX8_who_r3) : w ∈ wsX8_who := by unfold wsX8_who; exact List.mem_cons_of_mem _ (List.mem_append_left _ (List.mem_append_right _ (List.mem_append_right _ (List.mem_append_left _ (h)))))
theorem mx_X8_who_49 : Cond.methodLink RX8 151 yX8_gustOf ∈ wsX8_who := mb_X8_who_wsX8_who_r3 (List.mem_of_getElem? (i := 0) rfl)
theorem mx_X8_who_50 : Cond.instanceMethod yX8_gustOf ∈ wsX8_who := mb_X8_who_wsX8_who_r3 (List.mem_of_getElem? (i := 1) rfl)
theorem mx_X8_who_51 : Cond.selects RX8 yX8_gustOf yX8_gustOf ∈ wsX8_who := mb_X8_who_wsX8_who_r3 (List.mem_of_getElem? (i := 2) rfl)
theorem mx_X8_who_52 : Cond.code yX8_gustOf cX8_gustOf 2 (some .int) ∈ wsX8_who := mb_X8_who_wsX8_who_r3 (List.mem_of_getElem? (i := 3) rfl)
theorem mx_X8_who_53 : Cond.methodLink RX8 154 yX8_drift ∈ wsX8_who := mb_X8_who_wsX8_who_r3 (List.mem_of_getElem? (i := 4) rfl)
theorem mx_X8_who_54 : Cond.instanceMethod yX8_drift ∈ wsX8_who := mb_X8_who_wsX8_who_r3 (List.mem_of_getElem? (i := 5) rfl)
theorem mx_X8_who_55 : Cond.selects RX8 yX8_drift yX8_drift ∈ wsX8_who := mb_X8_who_wsX8_who_r3 (List.mem_of_getElem? (i := 6) rfl)
theorem mx_X8_who_56 : Cond.code yX8_drift cX8_drift 7 none ∈ wsX8_who := mb_X8_who_wsX8_who_r3 (List.mem_of_getElem? (i := 7) rfl)
theorem mx_X8_who_57 : Cond.methodLink RX8 145 yX8_drifts ∈ wsX8_who := mb_X8_who_wsX8_who_r3 (List.mem_of_getElem? (i := 8) rfl)
theorem mx_X8_who_58 : Cond.static yX8_drifts ∈ wsX8_who := mb_X8_who_wsX8_who_r3 (List.mem_of_getElem? (i := 9) rfl)
theorem mx_X8_who_59 : Cond.code yX8_drifts cX8_drifts 2 (some .int) ∈ wsX8_who := mb_X8_who_wsX8_who_r3 (List.mem_of_getElem? (i := 10) rfl)
theorem mx_X8_who_60 : Cond.methodLink RX8 148 yX8_isCell ∈ wsX8_who := mb_X8_who_wsX8_who_r3 (List.mem_of_getElem? (i := 11) rfl)
theorem mx_X8_who_61 : Cond.instanceMethod yX8_isCell ∈ wsX8_who := mb_X8_who_wsX8_who_r3 (List.mem_of_getElem? (i := 12) rfl)
theorem mx_X8_who_62 : Cond.selects RX8 yX8_isCell yX8_isCell ∈ wsX8_who := mb_X8_who_wsX8_who_r3 (List.mem_of_getElem? (i := 13) rfl)
theorem mx_X8_who_63 : Cond.code yX8_isCell cX8_isCell 2 (some .boolean) ∈ wsX8_who := mb_X8_who_wsX8_who_r3 (List.mem_of_getElem? (i := 14) rfl)
theorem mx_X8_who_10 : Cond.methodLink RX8 57 yX8_in ∈ wsX8_who := mb_X8_who_wsX8_who_r1 (List.mem_of_getElem? (i := 9) rfl)
theorem mx_X8_who_11 : Cond.static yX8_in ∈ wsX8_who := mb_X8_who_wsX8_who_r1 (List.mem_of_getElem? (i := 10) rfl)
theorem mx_X8_who_12 : Cond.code yX8_in cX8_in 6 (some .boolean) ∈ wsX8_who := mb_X8_who_wsX8_who_r1 (List.mem_of_getElem? (i := 11) rfl)
theorem mx_X8_who_64 : Cond.methodLink RX8 158 yX8_isAtMill ∈ wsX8_who := mb_X8_who_wsX8_who_r3 (List.mem_of_getElem? (i := 15) rfl)
theorem mx_X8_who_65 : Cond.instanceMethod yX8_isAtMill ∈ wsX8_who := mb_X8_who_wsX8_who_r3 (List.mem_of_getElem? (i := 16) rfl)
theorem mx_X8_who_66 : Cond.selects RX8 yX8_isAtMill yX8_isAtMill ∈ wsX8_who := mb_X8_who_wsX8_who_r3 (List.mem_of_getElem? (i := 17) rfl)
theorem mx_X8_who_67 : Cond.code yX8_isAtMill cX8_isAtMill 3 (some .boolean) ∈ wsX8_who := mb_X8_who_wsX8_who_r3 (List.mem_of_getElem? (i := 18) rfl)
theorem mx_X8_who_68 : Cond.methodLink RX8 194 yX8_takeBack ∈ wsX8_who := mb_X8_who_wsX8_who_r3 (List.mem_of_getElem? (i := 19) rfl)
theorem mx_X8_who_69 : Cond.instanceMethod yX8_takeBack ∈ wsX8_who := mb_X8_who_wsX8_who_r3 (List.mem_of_getElem? (i := 20) rfl)
theorem mx_X8_who_70 : Cond.selects RX8 yX8_takeBack yX8_takeBack ∈ wsX8_who := mb_X8_who_wsX8_who_r3 (List.mem_of_getElem? (i := 21) rfl)
theorem mx_X8_who_71 : Cond.code yX8_takeBack cX8_takeBack 2 none ∈ wsX8_who := mb_X8_who_wsX8_who_r3 (List.mem_of_getElem? (i := 22) rfl)
theorem mx_X8_who_72 : Cond.methodLink RX8 72 yX8_well ∈ wsX8_who := mb_X8_who_wsX8_who_r3 (List.mem_of_getElem? (i := 23) rfl)
theorem mb_X8_who_wsX8_who_r4 {w : Cond} (h : w ∈ wsX8_who_r4) : w ∈ wsX8_who := by unfold wsX8_who; exact List.mem_cons_of_mem _ (List.mem_append_left _ (List.mem_append_right _ (List.mem_append_right _ (List.mem_append_right _ (h)))))
theorem mx_X8_who_73 : Cond.instanceMethod yX8_well ∈ wsX8_who := mb_X8_who_wsX8_who_r4 (List.mem_of_getElem? (i := 0) rfl)
theorem mx_X8_who_74 : Cond.selects RX8 yX8_well yX8_well ∈ wsX8_who := mb_X8_who_wsX8_who_r4 (List.mem_of_getElem? (i := 1) rfl)
theorem mx_X8_who_75 : Cond.code yX8_well cX8_well 2 (some .int) ∈ wsX8_who := mb_X8_who_wsX8_who_r4 (List.mem_of_getElem? (i := 2) rfl)
theorem mx_X8_who_29 : Cond.fieldLink RX8 50 "MillTalkModel" "status" "I" ∈ wsX8_who := mb_X8_who_wsX8_who_r2 (List.mem_of_getElem? (i := 4) rfl)
theorem mb_X8_who_wsX80 {w : Cond} (h : w ∈ wsX80) : w ∈ wsX8_who := by unfold wsX8_who; exact List.mem_cons_of_mem _ (List.mem_append_right _ (h))
theorem ggX8_who_X8_fits : GoodIn wsX8_who wsX8_fits := goodIn_sub (by unfold wsX8_fits; exact List.forall_mem_cons.mpr ⟨mx_X8_who_34, List.forall_mem_append.mpr ⟨List.forall_mem_append.mpr ⟨(by unfold wsX8_fits_r1; exact List.forall_mem_cons.mpr ⟨mx_X8_who_3, List.forall_mem_cons.mpr ⟨mx_X8_who_35, List.forall_mem_cons.mpr ⟨mx_X8_who_36, List.forall_mem_cons.mpr ⟨mx_X8_who_37, List.forall_mem_cons.mpr ⟨mx_X8_who_8, List.forall_mem_cons.mpr ⟨mx_X8_who_38, List.forall_mem_cons.mpr ⟨mx_X8_who_39, List.forall_mem_cons.mpr ⟨mx_X8_who_40, List.forall_mem_cons.mpr ⟨mx_X8_who_41, List.forall_mem_cons.mpr ⟨mx_X8_who_42, List.forall_mem_cons.mpr ⟨mx_X8_who_43, List.forall_mem_cons.mpr ⟨mx_X8_who_44, List.forall_mem_cons.mpr ⟨mx_X8_who_45, List.forall_mem_cons.mpr ⟨mx_X8_who_46, List.forall_mem_cons.mpr ⟨mx_X8_who_47, List.forall_mem_cons.mpr ⟨mx_X8_who_48, List.forall_mem_cons.mpr ⟨mx_X8_who_49, List.forall_mem_cons.mpr ⟨mx_X8_who_50, List.forall_mem_cons.mpr ⟨mx_X8_who_51, List.forall_mem_cons.mpr ⟨mx_X8_who_52, List.forall_mem_cons.mpr ⟨mx_X8_who_53, List.forall_mem_cons.mpr ⟨mx_X8_who_54, List.forall_mem_cons.mpr ⟨mx_X8_who_55, List.forall_mem_cons.mpr ⟨mx_X8_who_56, fun _ h_ => absurd h_ List.not_mem_nil⟩⟩⟩⟩⟩⟩⟩⟩⟩⟩⟩⟩⟩⟩⟩⟩⟩⟩⟩⟩⟩⟩⟩⟩), (by unfold wsX8_fits_r2; exact List.forall_mem_cons.mpr ⟨mx_X8_who_57, List.forall_mem_cons.mpr ⟨mx_X8_who_58, List.forall_mem_cons.mpr ⟨mx_X8_who_59, List.forall_mem_cons.mpr ⟨mx_X8_who_60, List.forall_mem_cons.mpr ⟨mx_X8_who_61, List.forall_mem_cons.mpr ⟨mx_X8_who_62, List.forall_mem_cons.mpr ⟨mx_X8_who_63, List.forall_mem_cons.mpr ⟨mx_X8_who_10, List.forall_mem_cons.mpr ⟨mx_X8_who_11, List.forall_mem_cons.mpr ⟨mx_X8_who_12, List.forall_mem_cons.mpr ⟨mx_X8_who_64, List.forall_mem_cons.mpr ⟨mx_X8_who_65, List.forall_mem_cons.mpr ⟨mx_X8_who_66, List.forall_mem_cons.mpr ⟨mx_X8_who_67, List.forall_mem_cons.mpr ⟨mx_X8_who_68, List.forall_mem_cons.mpr ⟨mx_X8_who_69, List.forall_mem_cons.mpr ⟨mx_X8_who_70, List.forall_mem_cons.mpr ⟨mx_X8_who_71, List.forall_mem_cons.mpr ⟨mx_X8_who_72, List.forall_mem_cons.mpr ⟨mx_X8_who_73, List.forall_mem_cons.mpr ⟨mx_X8_who_74, List.forall_mem_cons.mpr ⟨mx_X8_who_75, List.forall_mem_cons.mpr ⟨mx_X8_who_29, fun _ h_ => absurd h_ List.not_mem_nil⟩⟩⟩⟩⟩⟩⟩⟩⟩⟩⟩⟩⟩⟩⟩⟩⟩⟩⟩⟩⟩⟩⟩)⟩, (fun _ h_ => mb_X8_who_wsX80 h_)⟩⟩) (by decide +kernel)
theorem mx_X8_who_31 : Cond.methodLink RX8 232 yX8_fits ∈ wsX8_who := mb_X8_who_wsX8_who_r2 (List.mem_of_getElem? (i := 6) rfl)
theorem mx_X8_who_32 : Cond.instanceMethod yX8_fits ∈ wsX8_who := mb_X8_who_wsX8_who_r2 (List.mem_of_getElem? (i := 7) rfl)
theorem mx_X8_who_33 : Cond.selects RX8 yX8_fits yX8_fits ∈ wsX8_who := mb_X8_who_wsX8_who_r2 (List.mem_of_getElem? (i := 8) rfl)
theorem gX8_who_X8_fits : GoodIn wsX8_who (wsV RX8 232 RX8 yX8_fits wsX8_fits) := goodIn_app (goodIn_sub (List.forall_mem_cons.mpr ⟨mx_X8_who_31, List.forall_mem_cons.mpr ⟨mx_X8_who_32, List.forall_mem_cons.mpr ⟨mx_X8_who_33, List.forall_mem_cons.mpr ⟨mx_X8_who_8, fun _ h_ => absurd h_ List.not_mem_nil⟩⟩⟩⟩) (by decide +kernel)) ggX8_who_X8_fits
theorem ggX8_who_X8_in : GoodIn wsX8_who wsX8_in := goodIn_sub (by unfold wsX8_in; exact List.forall_mem_cons.mpr ⟨mx_X8_who_12, fun _ h_ => absurd h_ List.not_mem_nil⟩) (by decide +kernel)
set_option maxRecDepth 20000 in
theorem gX8_who_X8_in : GoodIn wsX8_who (va_wsS RX8 57 yX8_in wsX8_in) := goodIn_app (goodIn_of _ (by decide +kernel)) ggX8_who_X8_in
theorem mx_X8_who_18 : Cond.code yX8_isRow cX8_isRow 1 (some .boolean) ∈ wsX8_who := mb_X8_who_wsX8_who_r1 (List.mem_of_getElem? (i := 17) rfl)
theorem mx_X8_who_19 : Cond.constantLong RX8 55 (7) ∈ wsX8_who := mb_X8_who_wsX8_who_r1 (List.mem_of_getElem? (i := 18) rfl)
theorem ggX8_who_X8_isRow : GoodIn wsX8_who wsX8_isRow := goodIn_sub (by unfold wsX8_isRow; exact List.forall_mem_cons.mpr ⟨mx_X8_who_18, List.forall_mem_cons.mpr ⟨mx_X8_who_19, List.forall_mem_cons.mpr ⟨mx_X8_who_10, List.forall_mem_cons.mpr ⟨mx_X8_who_11, List.forall_mem_cons.mpr ⟨mx_X8_who_8, List.forall_mem_cons.mpr ⟨mx_X8_who_12, fun _ h_ => absurd h_ List.not_mem_nil⟩⟩⟩⟩⟩⟩) (by decide +kernel)
set_option maxRecDepth 20000 in
theorem gX8_who_X8_isRow : GoodIn wsX8_who (va_wsS RX8 61 yX8_isRow wsX8_isRow) := goodIn_app (goodIn_of _ (by decide +kernel)) ggX8_who_X8_isRow
theorem mx_X8_who_9 : Cond.code yX8_isSound cX8_isSound 2 (some .boolean) ∈ wsX8_who := mb_X8_who_wsX8_who_r1 (List.mem_of_getElem? (i := 8) rfl)
theorem ggX8_who_X8_isSound : GoodIn wsX8_who wsX8_isSound := goodIn_sub (by unfold wsX8_isSound; exact List.forall_mem_cons.mpr ⟨mx_X8_who_9, List.forall_mem_append.mpr ⟨List.forall_mem_cons.mpr ⟨mx_X8_who_3, List.forall_mem_cons.mpr ⟨mx_X8_who_10, List.forall_mem_cons.mpr ⟨mx_X8_who_11, List.forall_mem_cons.mpr ⟨mx_X8_who_8, List.forall_mem_cons.mpr ⟨mx_X8_who_12, fun _ h_ => absurd h_ List.not_mem_nil⟩⟩⟩⟩⟩, (fun _ h_ => mb_X8_who_wsX80 h_)⟩⟩) (by decide +kernel)
theorem mx_X8_who_5 : Cond.methodLink RX8 173 yX8_isSound ∈ wsX8_who := mb_X8_who_wsX8_who_r1 (List.mem_of_getElem? (i := 4) rfl)
theorem mx_X8_who_6 : Cond.instanceMethod yX8_isSound ∈ wsX8_who := mb_X8_who_wsX8_who_r1 (List.mem_of_getElem? (i := 5) rfl)
theorem mx_X8_who_7 : Cond.selects RX8 yX8_isSound yX8_isSound ∈ wsX8_who := mb_X8_who_wsX8_who_r1 (List.mem_of_getElem? (i := 6) rfl)
theorem gX8_who_X8_isSound : GoodIn wsX8_who (wsV RX8 173 RX8 yX8_isSound wsX8_isSound) := goodIn_app (goodIn_sub (List.forall_mem_cons.mpr ⟨mx_X8_who_5, List.forall_mem_cons.mpr ⟨mx_X8_who_6, List.forall_mem_cons.mpr ⟨mx_X8_who_7, List.forall_mem_cons.mpr ⟨mx_X8_who_8, fun _ h_ => absurd h_ List.not_mem_nil⟩⟩⟩⟩) (by decide +kernel)) ggX8_who_X8_isSound
theorem mx_X8_who_15 : Cond.code yX8_isWhat cX8_isWhat 1 (some .boolean) ∈ wsX8_who := mb_X8_who_wsX8_who_r1 (List.mem_of_getElem? (i := 14) rfl)
theorem ggX8_who_X8_isWhat : GoodIn wsX8_who wsX8_isWhat := goodIn_sub (by unfold wsX8_isWhat; exact List.forall_mem_cons.mpr ⟨mx_X8_who_15, List.forall_mem_cons.mpr ⟨mx_X8_who_10, List.forall_mem_cons.mpr ⟨mx_X8_who_11, List.forall_mem_cons.mpr ⟨mx_X8_who_8, List.forall_mem_cons.mpr ⟨mx_X8_who_12, fun _ h_ => absurd h_ List.not_mem_nil⟩⟩⟩⟩⟩) (by decide +kernel)
set_option maxRecDepth 20000 in
theorem gX8_who_X8_isWhat : GoodIn wsX8_who (va_wsS RX8 210 yX8_isWhat wsX8_isWhat) := goodIn_app (goodIn_of _ (by decide +kernel)) ggX8_who_X8_isWhat
theorem mx_X8_who_23 : Cond.code yX8_lacks cX8_lacks 4 (some .int) ∈ wsX8_who := mb_X8_who_wsX8_who_r1 (List.mem_of_getElem? (i := 22) rfl)
theorem mx_X8_who_24 : Cond.fieldLink RX8 13 "MillTalkModel" "sizes" "[I" ∈ wsX8_who := mb_X8_who_wsX8_who_r1 (List.mem_of_getElem? (i := 23) rfl)
theorem mx_X8_who_25 : Cond.methodLink RX8 68 yX8_find ∈ wsX8_who := mb_X8_who_wsX8_who_r2 (List.mem_of_getElem? (i := 0) rfl)
theorem mx_X8_who_26 : Cond.instanceMethod yX8_find ∈ wsX8_who := mb_X8_who_wsX8_who_r2 (List.mem_of_getElem? (i := 1) rfl)
theorem mx_X8_who_27 : Cond.selects RX8 yX8_find yX8_find ∈ wsX8_who := mb_X8_who_wsX8_who_r2 (List.mem_of_getElem? (i := 2) rfl)
theorem mx_X8_who_28 : Cond.code yX8_find cX8_find 2 (some .int) ∈ wsX8_who := mb_X8_who_wsX8_who_r2 (List.mem_of_getElem? (i := 3) rfl)
theorem mx_X8_who_30 : Cond.constant RX8 54 (-1000010) ∈ wsX8_who := mb_X8_who_wsX8_who_r2 (List.mem_of_getElem? (i := 5) rfl)
theorem ggX8_who_X8_lacks : GoodIn wsX8_who wsX8_lacks := goodIn_sub (by unfold wsX8_lacks; exact List.forall_mem_cons.mpr ⟨mx_X8_who_23, List.forall_mem_append.mpr ⟨List.forall_mem_cons.mpr ⟨mx_X8_who_24, List.forall_mem_cons.mpr ⟨mx_X8_who_25, List.forall_mem_cons.mpr ⟨mx_X8_who_26, List.forall_mem_cons.mpr ⟨mx_X8_who_27, List.forall_mem_cons.mpr ⟨mx_X8_who_8, List.forall_mem_cons.mpr ⟨mx_X8_who_28, List.forall_mem_cons.mpr ⟨mx_X8_who_29, List.forall_mem_cons.mpr ⟨mx_X8_who_30, List.forall_mem_cons.mpr ⟨mx_X8_who_10, List.forall_mem_cons.mpr ⟨mx_X8_who_11, List.forall_mem_cons.mpr ⟨mx_X8_who_12, fun _ h_ => absurd h_ List.not_mem_nil⟩⟩⟩⟩⟩⟩⟩⟩⟩⟩⟩, (fun _ h_ => mb_X8_who_wsX80 h_)⟩⟩) (by decide +kernel)
theorem mx_X8_who_20 : Cond.methodLink RX8 228 yX8_lacks ∈ wsX8_who := mb_X8_who_wsX8_who_r1 (List.mem_of_getElem? (i := 19) rfl)
theorem mx_X8_who_21 : Cond.instanceMethod yX8_lacks ∈ wsX8_who := mb_X8_who_wsX8_who_r1 (List.mem_of_getElem? (i := 20) rfl)
theorem mx_X8_who_22 : Cond.selects RX8 yX8_lacks yX8_lacks ∈ wsX8_who := mb_X8_who_wsX8_who_r1 (List.mem_of_getElem? (i := 21) rfl)
theorem gX8_who_X8_lacks : GoodIn wsX8_who (wsV RX8 228 RX8 yX8_lacks wsX8_lacks) := goodIn_app (goodIn_sub (List.forall_mem_cons.mpr ⟨mx_X8_who_20, List.forall_mem_cons.mpr ⟨mx_X8_who_21, List.forall_mem_cons.mpr ⟨mx_X8_who_22, List.forall_mem_cons.mpr ⟨mx_X8_who_8, fun _ h_ => absurd h_ List.not_mem_nil⟩⟩⟩⟩) (by decide +kernel)) ggX8_who_X8_lacks
theorem i_X8_calm_X8 : ∀ w ∈ u_ws RX8 TX8 24, w ∈ wsX8_calm := fun _ h_ => mb_X8_calm_wsX80 h_
theorem i_X8_drawn_X8 : ∀ w ∈ u_ws RX8 TX8 24, w ∈ wsX8_drawn := fun _ h_ => mb_X8_drawn_wsX80 h_
theorem i_X8_fits_X8 : ∀ w ∈ u_ws RX8 TX8 24, w ∈ wsX8_fits := fun _ h_ => mb_X8_fits_wsX80 h_
theorem i_X8_gusts_X8 : ∀ w ∈ u_ws RX8 TX8 24, w ∈ wsX8_gusts := fun _ h_ => mb_X8_gusts_wsX80 h_
theorem i_X8_isSo_X8 : ∀ w ∈ u_ws RX8 TX8 24, w ∈ wsX8_isSo := fun _ h_ => mb_X8_isSo_wsX80 h_
theorem i_X8_lacks_X8 : ∀ w ∈ u_ws RX8 TX8 24, w ∈ wsX8_lacks := fun _ h_ => mb_X8_lacks_wsX80 h_
theorem i_X8_who_X8 : ∀ w ∈ u_ws RX8 TX8 24, w ∈ wsX8_who := fun _ h_ => mb_X8_who_wsX80 h_
theorem mx_X8_lacks_1 : Cond.fieldLink RX8 13 "MillTalkModel" "sizes" "[I" ∈ wsX8_lacks := by unfold wsX8_lacks; exact List.mem_cons_of_mem _ (List.mem_append_left _ (List.mem_of_getElem? (i := 0) rfl))
theorem mx_X8_isSo_2 : Cond.fieldLink RX8 16 "MillTalkModel" "items" "[I" ∈ wsX8_isSo := mb_X8_isSo_wsX8_isSo_r1 (List.mem_of_getElem? (i := 1) rfl)
theorem mx_X8_who_2 : Cond.constant RX8 67 (-1000001) ∈ wsX8_who := mb_X8_who_wsX8_who_r1 (List.mem_of_getElem? (i := 1) rfl)
theorem mx_X8_who_1 : Cond.constantLong RX8 226 (12) ∈ wsX8_who := mb_X8_who_wsX8_who_r1 (List.mem_of_getElem? (i := 0) rfl)
theorem mx_X8_who_4 : Cond.constant RX8 161 (-1000002) ∈ wsX8_who := mb_X8_who_wsX8_who_r1 (List.mem_of_getElem? (i := 3) rfl)
theorem mx_X8_gusts_1 : Cond.constantLong RX8 236 (-1) ∈ wsX8_gusts := mb_X8_gusts_wsX8_gusts_r1 (List.mem_of_getElem? (i := 0) rfl)
theorem mx_X8_gusts_4 : Cond.constant RX8 67 (-1000001) ∈ wsX8_gusts := mb_X8_gusts_wsX8_gusts_r1 (List.mem_of_getElem? (i := 3) rfl)
theorem mx_X8_gusts_3 : Cond.constantLong RX8 226 (12) ∈ wsX8_gusts := mb_X8_gusts_wsX8_gusts_r1 (List.mem_of_getElem? (i := 2) rfl)
theorem mx_X8_gusts_5 : Cond.constant RX8 161 (-1000002) ∈ wsX8_gusts := mb_X8_gusts_wsX8_gusts_r1 (List.mem_of_getElem? (i := 4) rfl)
theorem mx_X8_calm_3 : Cond.constantLong RX8 240 (-1000001) ∈ wsX8_calm := mb_X8_calm_wsX8_calm_r1 (List.mem_of_getElem? (i := 2) rfl)
theorem mx_X8_calm_1 : Cond.constantLong RX8 188 (60) ∈ wsX8_calm := mb_X8_calm_wsX8_calm_r1 (List.mem_of_getElem? (i := 0) rfl)
theorem mx_X8_calm_2 : Cond.constantLong RX8 238 (10) ∈ wsX8_calm := mb_X8_calm_wsX8_calm_r1 (List.mem_of_getElem? (i := 1) rfl)
theorem mx_X8_drawn_1 : Cond.fieldLink RX8 138 "MillTalkModel" "isThere" "Z" ∈ wsX8_drawn := mb_X8_drawn_wsX8_drawn_r1 (List.mem_of_getElem? (i := 0) rfl)
theorem mx_X8_drawn_3 : Cond.constantLong RX8 188 (60) ∈ wsX8_drawn := mb_X8_drawn_wsX8_drawn_r1 (List.mem_of_getElem? (i := 2) rfl)
theorem mx_X8_drawn_5 : Cond.constant RX8 67 (-1000001) ∈ wsX8_drawn := mb_X8_drawn_wsX8_drawn_r1 (List.mem_of_getElem? (i := 4) rfl)
theorem mx_X8_drawn_4 : Cond.constantLong RX8 242 (999999) ∈ wsX8_drawn := mb_X8_drawn_wsX8_drawn_r1 (List.mem_of_getElem? (i := 3) rfl)
theorem mx_X8_drawn_6 : Cond.constantLong RX8 244 (16807) ∈ wsX8_drawn := mb_X8_drawn_wsX8_drawn_r1 (List.mem_of_getElem? (i := 5) rfl)
theorem mx_X8_drawn_7 : Cond.constantLong RX8 246 (2147483647) ∈ wsX8_drawn := mb_X8_drawn_wsX8_drawn_r1 (List.mem_of_getElem? (i := 6) rfl)
theorem mx_X8_drawn_8 : Cond.constantLong RX8 248 (3) ∈ wsX8_drawn := mb_X8_drawn_wsX8_drawn_r1 (List.mem_of_getElem? (i := 7) rfl)
theorem mx_X8_drawn_11 : Cond.constantLong RX8 65 (2) ∈ wsX8_drawn := mb_X8_drawn_wsX8_drawn_r1 (List.mem_of_getElem? (i := 10) rfl)
theorem mx_X8_drawn_12 : Cond.constantLong RX8 252 (9) ∈ wsX8_drawn := mb_X8_drawn_wsX8_drawn_r1 (List.mem_of_getElem? (i := 11) rfl)
theorem mx_X8_drawn_10 : Cond.constantLong RX8 250 (5) ∈ wsX8_drawn := mb_X8_drawn_wsX8_drawn_r1 (List.mem_of_getElem? (i := 9) rfl)
theorem mx_X8_drawn_2 : Cond.constant RX8 161 (-1000002) ∈ wsX8_drawn := mb_X8_drawn_wsX8_drawn_r1 (List.mem_of_getElem? (i := 1) rfl)
