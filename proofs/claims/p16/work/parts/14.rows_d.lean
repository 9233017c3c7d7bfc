theorem fl2 {F g : Nat → Int32} {v : Int32} {i : Nat} (h : ∀ j : Nat, j < i → F j = v) (hi : i < 2 ^ 31) (e : upd F (nI i).toNatClampNeg v = g) : ∀ j : Nat, j < i + 1 → g j = v := by
  intro j hj
  rw [nI_clamp hi] at e
  rw [← e]
  unfold upd
  split
  · rfl
  · exact h j (by omega)
/-- so many places from x on in a row of L -/
noncomputable abbrev plc (L x y : Int32) : Prop := ¬ x < 0 ∧ ¬ y < 0 ∧ ¬ L - y < x
/-- a number as a lane keeps it -/
noncomputable def laneX (l v : Int32) : Int32 := if l = 0 then v.toInt8.toInt32 else if l = 1 then v.toInt16.toInt32 else v
noncomputable abbrev badr (a : Int32) : Prop := a < 0 ∨ 8 ≤ a
/-- the rows as both sides know them: lane (-1: none), length (none: 0) -/
noncomputable def abl (fl : Nat → Int32) : Nat → Int32 := fun j => if j < 8 then fl j else -1
noncomputable def abn (fl fe : Nat → Int32) : Nat → Int32 := fun j => if j < 8 ∧ ¬ fl j = -1 then fe j else 0
/-- so many rows are there -/
noncomputable def prR (R : Nat → Int32) : Nat → Int32
  | 0 => 0
  | i + 1 => prR R i + (if R i = -1 then 0 else 1)
theorem prR_c {h g : Nat → Int32} : ∀ n : Nat, (∀ i : Nat, i < n → (h i = -1 ↔ g i = -1)) → prR h n = prR g n
  | 0, _ => rfl
  | n + 1, e => by
    show prR h n + (if h n = -1 then 0 else 1) = prR g n + (if g n = -1 then 0 else 1)
    have h9 := e n (by omega)
    rw [prR_c n (fun i hi => e i (by omega))]
    by_cases q : h n = -1
    · rw [if_pos q, if_pos (h9.mp q)]
    · rw [if_neg q, if_neg (fun z => q (h9.mpr z))]
theorem prR_abl {fl : Nat → Int32} : prR (abl fl) 8 = prR fl 8 := prR_c 8 (fun i hi => by unfold abl; rw [if_pos hi])
noncomputable def mbl (fn fz : Nat → Int32) : Nat → Int32 := fun j => if j < 8 ∧ ¬ fz j = -1 then fn j else -1
noncomputable def mbn (fz : Nat → Int32) : Nat → Int32 := fun j => if j < 8 ∧ ¬ fz j = -1 then fz j else 0
noncomputable abbrev okr (a b n : Int32) : Prop := ¬ badr a ∧ ¬ (b < 0 ∨ 2 < b) ∧ n ≤ 40 ∧ 0 ≤ n
noncomputable def sr_l (R : Nat → Int32) (a b n : Int32) : Nat → Int32 := if okr a b n then upd R a.toNatClampNeg b else R
noncomputable def sr_n (R : Nat → Int32) (a b n : Int32) : Nat → Int32 := if okr a b n then upd R a.toNatClampNeg n else R
noncomputable def sd_l (R : Nat → Int32) (a : Int32) : Nat → Int32 := if badr a then R else upd R a.toNatClampNeg (-1)
noncomputable def sd_n (R : Nat → Int32) (a : Int32) : Nat → Int32 := if badr a then R else upd R a.toNatClampNeg 0
noncomputable def ar_set (Rl Rn : Nat → Int32) (a i v : Int32) : Int32 := if badr a then -1000001 else if Rl a.toNatClampNeg = -1 then -1000011 else if plc (Rn a.toNatClampNeg) i 1 then laneX (Rl a.toNatClampNeg) v else -1000012
noncomputable def ar_copy (Rl Rn : Nat → Int32) (a i b j n : Int32) : Int32 := if badr a ∨ badr b then -1000001 else if Rl a.toNatClampNeg = -1 ∨ Rl b.toNatClampNeg = -1 then -1000011 else if ¬ Rl a.toNatClampNeg = Rl b.toNatClampNeg then -1000015 else if plc (Rn a.toNatClampNeg) i n ∧ plc (Rn b.toNatClampNeg) j n then n else -1000012
noncomputable def ar_drop (Rl Rn : Nat → Int32) (a : Int32) : Int32 := if badr a then -1000001 else if Rl a.toNatClampNeg = -1 then -1000011 else Rn a.toNatClampNeg
theorem nI_nb {j : Nat} (h : j < 8) : ¬ badr (nI j) := by
  rintro (q | q)
  · exact nI_pos (by omega) q
  · exact nI_ge (a := j) (b := 8) h (by decide) q
noncomputable def apz (z : Nat) : Nat := if z < 120 then z + 1 else z
noncomputable def an_fd (z : Nat) (a : Int32) : Int32 := if a < 0 ∨ ¬ a ≤ 255 then -1000001 else if z = 120 then -1000003 else nI (z + 1)
noncomputable def sf_z (z : Nat) (a : Int32) : Nat := if a < 0 ∨ ¬ a ≤ 255 ∨ z = 120 then z else z + 1
theorem okr_ok {j n : Nat} {b : Int32} (hj : j < 8) (hb : ¬ (b < 0 ∨ 2 < b)) (hn : n ≤ 40) : okr (nI j) b (nI n) := ⟨nI_nb hj, hb, nI_le (b := 40) hn (by decide), nI_pos' (by omega)⟩
theorem sr_l_ok {R : Nat → Int32} {j n : Nat} {b : Int32} (hj : j < 8) (hb : ¬ (b < 0 ∨ 2 < b)) (hn : n ≤ 40) : sr_l R (nI j) b (nI n) = upd R j b := by
  unfold sr_l
  rw [if_pos (okr_ok hj hb hn), nI_clamp (by omega)]
theorem sr_n_ok {R : Nat → Int32} {j n : Nat} {b : Int32} (hj : j < 8) (hb : ¬ (b < 0 ∨ 2 < b)) (hn : n ≤ 40) : sr_n R (nI j) b (nI n) = upd R j (nI n) := by
  unfold sr_n
  rw [if_pos (okr_ok hj hb hn), nI_clamp (by omega)]
theorem abl_up {fl : Nat → Int32} {j : Nat} {b : Int32} (hj : j < 8) : abl (upd fl j b) = upd (abl fl) j b := by
  funext q
  unfold abl upd
  grind
theorem lane_n {b : Int32} (hb : ¬ (b < 0 ∨ 2 < b)) : ¬ b = -1 := fun q => hb (Or.inl (by rw [q]; decide))
theorem abn_up {fl fe : Nat → Int32} {j : Nat} {b n : Int32} (hj : j < 8) (hb : ¬ (b < 0 ∨ 2 < b)) : abn (upd fl j b) (upd fe j n) = upd (abn fl fe) j n := by
  have h1 := lane_n hb
  funext q
  unfold abn upd
  grind
theorem abl_at {fl : Nat → Int32} {j : Nat} (hj : j < 8) : abl fl (nI j).toNatClampNeg = fl j := by
  rw [nI_clamp (by omega)]
  unfold abl
  rw [if_pos hj]
theorem abn_at {fl fe : Nat → Int32} {j : Nat} (hj : j < 8) (h : ¬ fl j = -1) : abn fl fe (nI j).toNatClampNeg = fe j := by
  rw [nI_clamp (by omega)]
  unfold abn
  rw [if_pos ⟨hj, h⟩]
theorem ar_set_0 {Rl Rn : Nat → Int32} {a i v : Int32} (h : a < 0 ∨ 8 ≤ a) : ar_set Rl Rn a i v = -1000001 := if_pos h
theorem ar_set_1 {fl fe : Nat → Int32} {j : Nat} {i v : Int32} (hj : j < 8) (h : fl j = -1) : ar_set (abl fl) (abn fl fe) (nI j) i v = -1000010 - 1 := by
  unfold ar_set
  rw [if_neg (nI_nb hj), abl_at hj, if_pos h]
  decide
theorem ar_set_2 {fl fe : Nat → Int32} {j : Nat} {i v : Int32} (hj : j < 8) (h : ¬ fl j = -1) (h2 : ¬ plc (fe j) i 1) : ar_set (abl fl) (abn fl fe) (nI j) i v = -1000010 - 2 := by
  unfold ar_set
  rw [if_neg (nI_nb hj), abl_at hj, if_neg h, abn_at hj h, if_neg h2]
  decide
theorem ar_set_3 {fl fe : Nat → Int32} {j : Nat} {i v : Int32} (hj : j < 8) (h : ¬ fl j = -1) (h2 : plc (fe j) i 1) : ar_set (abl fl) (abn fl fe) (nI j) i v = laneX (fl j) v := by
  unfold ar_set
  rw [if_neg (nI_nb hj), abl_at hj, if_neg h, abn_at hj h, if_pos h2]
theorem ar_copy_0 {Rl Rn : Nat → Int32} {a i b j n : Int32} (h : badr a ∨ badr b) : ar_copy Rl Rn a i b j n = -1000001 := if_pos h
theorem ar_copy_1 {fl fe : Nat → Int32} {a b : Nat} {i j n : Int32} (ha : a < 8) (hb : b < 8) (h : fl a = -1 ∨ fl b = -1) : ar_copy (abl fl) (abn fl fe) (nI a) i (nI b) j n = -1000010 - 1 := by
  unfold ar_copy
  rw [if_neg (fun q => q.elim (nI_nb ha) (nI_nb hb)), abl_at ha, abl_at hb, if_pos h]
  decide
theorem ar_copy_2 {fl fe : Nat → Int32} {a b : Nat} {i j n : Int32} (ha : a < 8) (hb : b < 8) (h1 : ¬ fl a = -1) (h2 : ¬ fl b = -1) (h : ¬ fl a = fl b) : ar_copy (abl fl) (abn fl fe) (nI a) i (nI b) j n = -1000010 - 5 := by
  unfold ar_copy
  rw [if_neg (fun q => q.elim (nI_nb ha) (nI_nb hb)), abl_at ha, abl_at hb, if_neg (fun q => q.elim h1 h2), if_pos h]
  decide
theorem ar_copy_3 {fl fe : Nat → Int32} {a b : Nat} {i j n : Int32} (ha : a < 8) (hb : b < 8) (h1 : ¬ fl a = -1) (h2 : ¬ fl b = -1) (h : fl a = fl b) (h3 : ¬ plc (fe a) i n ∨ ¬ plc (fe b) j n) : ar_copy (abl fl) (abn fl fe) (nI a) i (nI b) j n = -1000010 - 2 := by
  unfold ar_copy
  rw [if_neg (fun q => q.elim (nI_nb ha) (nI_nb hb)), abl_at ha, abl_at hb, if_neg (fun q => q.elim h1 h2), if_neg (fun q => q h), abn_at ha h1, abn_at hb h2, if_neg (fun q => h3.elim (fun z => z q.1) (fun z => z q.2))]
  decide
theorem ar_copy_4 {fl fe : Nat → Int32} {a b : Nat} {i j n : Int32} (ha : a < 8) (hb : b < 8) (h1 : ¬ fl a = -1) (h2 : ¬ fl b = -1) (h : fl a = fl b) (h3 : plc (fe a) i n) (h4 : plc (fe b) j n) : ar_copy (abl fl) (abn fl fe) (nI a) i (nI b) j n = n := by
  unfold ar_copy
  rw [if_neg (fun q => q.elim (nI_nb ha) (nI_nb hb)), abl_at ha, abl_at hb, if_neg (fun q => q.elim h1 h2), if_neg (fun q => q h), abn_at ha h1, abn_at hb h2, if_pos ⟨h3, h4⟩]
theorem ar_drop_0 {Rl Rn : Nat → Int32} {a : Int32} (h : a < 0 ∨ 8 ≤ a) : ar_drop Rl Rn a = -1000001 := if_pos h
theorem ar_drop_1 {fl fe : Nat → Int32} {j : Nat} (hj : j < 8) (h : fl j = -1) : ar_drop (abl fl) (abn fl fe) (nI j) = -1000010 - 1 := by
  unfold ar_drop
  rw [if_neg (nI_nb hj), abl_at hj, if_pos h]
  decide
theorem ar_drop_2 {fl fe : Nat → Int32} {j : Nat} (hj : j < 8) (h : ¬ fl j = -1) : ar_drop (abl fl) (abn fl fe) (nI j) = fe j := by
  unfold ar_drop
  rw [if_neg (nI_nb hj), abl_at hj, if_neg h, abn_at hj h]
theorem sd_l_0 {R : Nat → Int32} {a : Int32} (h : a < 0 ∨ 8 ≤ a) : sd_l R a = R := if_pos h
theorem sd_n_0 {R : Nat → Int32} {a : Int32} (h : a < 0 ∨ 8 ≤ a) : sd_n R a = R := if_pos h
theorem sd_l_1 {fl : Nat → Int32} {j : Nat} (hj : j < 8) : abl (upd fl j (-1)) = sd_l (abl fl) (nI j) := by
  unfold sd_l
  rw [if_neg (nI_nb hj), nI_clamp (by omega)]
  exact abl_up hj
theorem sd_n_1 {fl fe : Nat → Int32} {j : Nat} (hj : j < 8) : abn (upd fl j (-1)) fe = sd_n (abn fl fe) (nI j) := by
  unfold sd_n
  rw [if_neg (nI_nb hj), nI_clamp (by omega)]
  funext q
  unfold abn upd
  grind
theorem sd_l_2 {fl : Nat → Int32} {j : Nat} (hj : j < 8) (h : fl j = -1) : abl fl = sd_l (abl fl) (nI j) := by
  unfold sd_l
  rw [if_neg (nI_nb hj), nI_clamp (by omega)]
  funext q
  unfold abl upd
  grind
theorem sd_n_2 {fl fe : Nat → Int32} {j : Nat} (hj : j < 8) (h : fl j = -1) : abn fl fe = sd_n (abn fl fe) (nI j) := by
  unfold sd_n
  rw [if_neg (nI_nb hj), nI_clamp (by omega)]
  funext q
  unfold abn upd
  grind
theorem plc_iff {q : Nat} {a n : Int32} (hq : q ≤ 40) : plc (nI q) a n ↔ 0 ≤ a.toInt ∧ 0 ≤ n.toInt ∧ a.toInt ≤ (q : Int) - n.toInt := by
  have e2 : (0 : Int32).toInt = 0 := rfl
  have hm := Int32.toInt_lt n
  unfold plc
  rw [Int32.lt_iff_toInt_lt, Int32.lt_iff_toInt_lt, Int32.lt_iff_toInt_lt, e2, Int32.toInt_sub, nI_toInt (by omega)]
  constructor
  · rintro ⟨h1, h2, h3⟩
    rw [Int.bmod_eq_of_le (by omega) (by omega)] at h3
    omega
  · rintro ⟨h1, h2, h3⟩
    refine ⟨by omega, by omega, ?_⟩
    rw [Int.bmod_eq_of_le (by omega) (by omega)]
    omega
theorem plc_i32 {q : Nat} {a v : Int32} (hq : q ≤ 40) (e : v = nI q - 1) : (¬ (a.toInt64 < 0 ∨ v.toInt64 < a.toInt64)) ↔ plc (nI q) a 1 := by
  have e1 : (1 : Int32).toInt = 1 := rfl
  have e2 : (0 : Int64).toInt = 0 := rfl
  have e3 : (nI q - 1).toInt = (q : Int) - 1 := pk_sub_toInt (a := q) (b := 1) (by omega) (by decide)
  rw [plc_iff hq, Int64.lt_iff_toInt_lt, Int64.lt_iff_toInt_lt, Int32.toInt_toInt64, Int32.toInt_toInt64, e, e1, e2, e3]
  omega
theorem plc_i64 {q : Nat} {a n : Int32} {v : Int64} (hq : q ≤ 40) (hn : ¬ n < 0) (e : v = (nI q).toInt64 - n.toInt64) : (¬ (a.toInt64 < 0 ∨ v < a.toInt64)) ↔ plc (nI q) a n := by
  have e0 : (0 : Int32).toInt = 0 := rfl
  have e2 : (0 : Int64).toInt = 0 := rfl
  have hm := Int32.toInt_lt n
  rw [Int32.lt_iff_toInt_lt, e0] at hn
  rw [plc_iff hq, Int64.lt_iff_toInt_lt, Int64.lt_iff_toInt_lt, Int32.toInt_toInt64, e, Int64.toInt_sub, Int32.toInt_toInt64, Int32.toInt_toInt64, e2, nI_toInt (by omega), Int.bmod_eq_of_le (by omega) (by omega)]
  omega
noncomputable def laneM (l v : Int32) : Int32 := if l = 0 then v <<< (24 &&& 31) >>> (24 &&& 31) else if l = 1 then v <<< (16 &&& 31) >>> (16 &&& 31) else v
theorem sh_8 (v : Int32) : v <<< (24 &&& 31) >>> (24 &&& 31) = v.toInt8.toInt32 := by
  apply Int32.toBitVec_inj.mp
  rw [show (24 &&& 31 : Int32) = 24 from rfl]
  apply BitVec.eq_of_getLsbD_eq
  intro i hi
  simp [Int32.toBitVec_shiftRight, Int32.toBitVec_shiftLeft, BitVec.getLsbD_sshiftRight, BitVec.getLsbD_signExtend, BitVec.msb_eq_getLsbD_last]
  grind
theorem sh_16 (v : Int32) : v <<< (16 &&& 31) >>> (16 &&& 31) = v.toInt16.toInt32 := by
  apply Int32.toBitVec_inj.mp
  rw [show (16 &&& 31 : Int32) = 16 from rfl]
  apply BitVec.eq_of_getLsbD_eq
  intro i hi
  simp [Int32.toBitVec_shiftRight, Int32.toBitVec_shiftLeft, BitVec.getLsbD_sshiftRight, BitVec.getLsbD_signExtend, BitVec.msb_eq_getLsbD_last]
  grind
theorem lane_eq (l v : Int32) : laneM l v = laneX l v := by
  unfold laneM laneX
  rw [sh_8, sh_16]
theorem bd_m {b : Int32} (h : ¬ (b.toInt64 < 0 ∨ 2 < b.toInt64)) : ¬ (b < 0 ∨ 2 < b) := fun q => h (lane64.mpr q)
theorem nI_m1 {n : Nat} (h : n ≤ 40) : ¬ nI n = -1 := fun q => nI_pos (n := n) (by omega) (by rw [q]; decide)
theorem mbl_up {fn fz : Nat → Int32} {j n : Nat} {b : Int32} (hj : j < 8) (hn : n ≤ 40) : mbl (upd fn j b) (upd fz j (nI n)) = upd (mbl fn fz) j b := by
  have h1 := nI_m1 hn
  funext q
  unfold mbl upd
  grind
theorem mbn_up {fz : Nat → Int32} {j n : Nat} (hj : j < 8) (hn : n ≤ 40) : mbn (upd fz j (nI n)) = upd (mbn fz) j (nI n) := by
  have h1 := nI_m1 hn
  funext q
  unfold mbn upd
  grind
theorem ln_up {fn fz : Nat → Int32} {i : Nat} {b n : Int32} (h : ∀ j : Nat, j < 8 → ¬ fz j = -1 → ¬ fn j = -1) (hb : ¬ (b < 0 ∨ 2 < b)) : ∀ j : Nat, j < 8 → ¬ upd fz i n j = -1 → ¬ upd fn i b j = -1 := by
  have h1 := lane_n hb
  intro j hj
  unfold upd
  grind
theorem ln_dn {fn fz : Nat → Int32} {i : Nat} (h : ∀ j : Nat, j < 8 → ¬ fz j = -1 → ¬ fn j = -1) : ∀ j : Nat, j < 8 → ¬ upd fz i (-1) j = -1 → ¬ fn j = -1 := by
  intro j hj
  unfold upd
  grind
theorem mbl_no {fn fz : Nat → Int32} {j : Nat} (hj : j < 8) (h : fz j = -1) : mbl fn fz (nI j).toNatClampNeg = -1 := by
  rw [nI_clamp (by omega)]
  unfold mbl
  grind
theorem mbl_at {fn fz : Nat → Int32} {j q : Nat} (hj : j < 8) (h : fz j = nI q) (hq : q ≤ 40) : mbl fn fz (nI j).toNatClampNeg = fn j := by
  have h1 := nI_m1 hq
  rw [nI_clamp (by omega)]
  unfold mbl
  grind
theorem mbn_at {fz : Nat → Int32} {j q : Nat} (hj : j < 8) (h : fz j = nI q) (hq : q ≤ 40) : mbn fz (nI j).toNatClampNeg = nI q := by
  have h1 := nI_m1 hq
  rw [nI_clamp (by omega)]
  unfold mbn
  grind
theorem mln {fn fz : Nat → Int32} {j q : Nat} (hL : ∀ j : Nat, j < 8 → ¬ fz j = -1 → ¬ fn j = -1) (hj : j < 8) (h : fz j = nI q) (hq : q ≤ 40) : ¬ fn j = -1 := hL j hj (by rw [h]; exact nI_m1 hq)
theorem am_set_1 {fn fz : Nat → Int32} {j : Nat} {i v : Int32} (hj : j < 8) (h : fz j = -1) : ar_set (mbl fn fz) (mbn fz) (nI j) i v = -1000010 - 1 := by
  unfold ar_set
  rw [if_neg (nI_nb hj), mbl_no hj h, if_pos rfl]
  decide
theorem am_set_2 {fn fz : Nat → Int32} {j q : Nat} {i v w : Int32} (hL : ∀ j : Nat, j < 8 → ¬ fz j = -1 → ¬ fn j = -1) (hj : j < 8) (h : fz j = nI q) (hq : q ≤ 40) (e : w = nI q - 1) (h2 : i.toInt64 < 0 ∨ w.toInt64 < i.toInt64) : ar_set (mbl fn fz) (mbn fz) (nI j) i v = -1000010 - 2 := by
  unfold ar_set
  rw [if_neg (nI_nb hj), mbl_at hj h hq, if_neg (mln hL hj h hq), mbn_at hj h hq, if_neg (fun q9 => (plc_i32 hq e).mpr q9 h2)]
  decide
theorem am_set_3 {fn fz g f : Nat → Int32} {j q k ix : Nat} {v w l r r2 r3 : Int32} (hL : ∀ j : Nat, j < 8 → ¬ fz j = -1 → ¬ fn j = -1) (hj : j < 8) (h : fz j = nI q) (hq : q ≤ 40) (e : w = nI q - 1) (h2 : ¬ ((nI k).toInt64 < 0 ∨ w.toInt64 < (nI k).toInt64)) (e1 : l = fn j) (e2 : r = laneM l v) (e3 : g = upd f ix r) (e4 : r2 = g ix) (e5 : r3 = r2) : r3 = ar_set (mbl fn fz) (mbn fz) (nI j) (nI k) v := by
  have h9 : r3 = laneX (fn j) v := by
    rw [e5, e4, e3]
    unfold upd
    rw [if_pos rfl, e2, lane_eq, e1]
  unfold ar_set
  rw [if_neg (nI_nb hj), mbl_at hj h hq, if_neg (mln hL hj h hq), mbn_at hj h hq, if_pos ((plc_i32 hq e).mp h2)]
  exact h9
theorem am_copy_1 {fn fz : Nat → Int32} {a b : Nat} {i j n : Int32} (ha : a < 8) (hb : b < 8) (h : fz a = -1 ∨ fz b = -1) : ar_copy (mbl fn fz) (mbn fz) (nI a) i (nI b) j n = -1000010 - 1 := by
  unfold ar_copy
  rw [if_neg (fun q => q.elim (nI_nb ha) (nI_nb hb)), if_pos (h.elim (fun z => Or.inl (mbl_no ha z)) (fun z => Or.inr (mbl_no hb z)))]
  decide
theorem am_copy_2 {fn fz : Nat → Int32} {a b p q : Nat} {i j n : Int32} (hL : ∀ j : Nat, j < 8 → ¬ fz j = -1 → ¬ fn j = -1) (ha : a < 8) (hb : b < 8) (h1 : fz a = nI p) (hp : p ≤ 40) (h2 : fz b = nI q) (hq : q ≤ 40) (h : ¬ fn a = fn b) : ar_copy (mbl fn fz) (mbn fz) (nI a) i (nI b) j n = -1000010 - 5 := by
  unfold ar_copy
  rw [if_neg (fun q => q.elim (nI_nb ha) (nI_nb hb)), mbl_at ha h1 hp, mbl_at hb h2 hq, if_neg (fun z => z.elim (mln hL ha h1 hp) (mln hL hb h2 hq)), if_pos h]
  decide
theorem am_copy_3 {fn fz : Nat → Int32} {a b p q : Nat} {i j n : Int32} (hL : ∀ j : Nat, j < 8 → ¬ fz j = -1 → ¬ fn j = -1) (ha : a < 8) (hb : b < 8) (h1 : fz a = nI p) (hp : p ≤ 40) (h2 : fz b = nI q) (hq : q ≤ 40) (h : fn a = fn b) (h3 : ¬ plc (nI p) i n ∨ ¬ plc (nI q) j n) : ar_copy (mbl fn fz) (mbn fz) (nI a) i (nI b) j n = -1000010 - 2 := by
  unfold ar_copy
  rw [if_neg (fun q => q.elim (nI_nb ha) (nI_nb hb)), mbl_at ha h1 hp, mbl_at hb h2 hq, if_neg (fun z => z.elim (mln hL ha h1 hp) (mln hL hb h2 hq)), if_neg (fun z => z h), mbn_at ha h1 hp, mbn_at hb h2 hq, if_neg (fun z => h3.elim (fun y => y z.1) (fun y => y z.2))]
  decide
theorem am_copy_4 {fn fz : Nat → Int32} {a b p q : Nat} {i j n : Int32} (hL : ∀ j : Nat, j < 8 → ¬ fz j = -1 → ¬ fn j = -1) (ha : a < 8) (hb : b < 8) (h1 : fz a = nI p) (hp : p ≤ 40) (h2 : fz b = nI q) (hq : q ≤ 40) (h : fn a = fn b) (h3 : plc (nI p) i n) (h4 : plc (nI q) j n) : ar_copy (mbl fn fz) (mbn fz) (nI a) i (nI b) j n = n := by
  unfold ar_copy
  rw [if_neg (fun q => q.elim (nI_nb ha) (nI_nb hb)), mbl_at ha h1 hp, mbl_at hb h2 hq, if_neg (fun z => z.elim (mln hL ha h1 hp) (mln hL hb h2 hq)), if_neg (fun z => z h), mbn_at ha h1 hp, mbn_at hb h2 hq, if_pos ⟨h3, h4⟩]
theorem am_drop_1 {fn fz : Nat → Int32} {j : Nat} (hj : j < 8) (h : fz j = -1) : ar_drop (mbl fn fz) (mbn fz) (nI j) = -1000010 - 1 := by
  unfold ar_drop
  rw [if_neg (nI_nb hj), mbl_no hj h, if_pos rfl]
  decide
theorem am_drop_2 {fn fz : Nat → Int32} {j q : Nat} (hL : ∀ j : Nat, j < 8 → ¬ fz j = -1 → ¬ fn j = -1) (hj : j < 8) (h : fz j = nI q) (hq : q ≤ 40) : ar_drop (mbl fn fz) (mbn fz) (nI j) = nI q := by
  unfold ar_drop
  rw [if_neg (nI_nb hj), mbl_at hj h hq, if_neg (mln hL hj h hq), mbn_at hj h hq]
theorem sm_l_1 {fn fz : Nat → Int32} {j : Nat} (hj : j < 8) : mbl fn (upd fz j (-1)) = sd_l (mbl fn fz) (nI j) := by
  unfold sd_l
  rw [if_neg (nI_nb hj), nI_clamp (by omega)]
  funext q
  unfold mbl upd
  grind
theorem sm_n_1 {fz : Nat → Int32} {j : Nat} (hj : j < 8) : mbn (upd fz j (-1)) = sd_n (mbn fz) (nI j) := by
  unfold sd_n
  rw [if_neg (nI_nb hj), nI_clamp (by omega)]
  funext q
  unfold mbn upd
  grind
theorem sm_l_2 {fn fz : Nat → Int32} {j : Nat} (hj : j < 8) (h : fz j = -1) : mbl fn fz = sd_l (mbl fn fz) (nI j) := by
  unfold sd_l
  rw [if_neg (nI_nb hj), nI_clamp (by omega)]
  funext q
  unfold mbl upd
  grind
theorem sm_n_2 {fz : Nat → Int32} {j : Nat} (hj : j < 8) (h : fz j = -1) : mbn fz = sd_n (mbn fz) (nI j) := by
  unfold sd_n
  rw [if_neg (nI_nb hj), nI_clamp (by omega)]
  funext q
  unfold mbn upd
  grind
theorem abl_0 {fl : Nat → Int32} (h : ∀ j : Nat, j < 8 → fl j = -1) : (fun _ => -1) = abl fl := by
  funext q
  unfold abl
  grind
theorem abn_0 {fl fe : Nat → Int32} (h : ∀ j : Nat, j < 8 → fl j = -1) : (fun _ => 0) = abn fl fe := by
  funext q
  unfold abn
  grind
theorem mbl_0 {fn fz : Nat → Int32} (h : ∀ j : Nat, j < 8 → fz j = -1) : (fun _ => -1) = mbl fn fz := by
  funext q
  unfold mbl
  grind
theorem mbn_0 {fz : Nat → Int32} (h : ∀ j : Nat, j < 8 → fz j = -1) : (fun _ => 0) = mbn fz := by
  funext q
  unfold mbn
  grind
theorem dJ7_fill_53178_0 : decode cJ7_fill_53178 0 = .ok (.iconst 0, 1) := dq_3 (by decide +kernel)
theorem dJ7_fill_53178_1 : decode cJ7_fill_53178 1 = .ok (.istore_n 2, 1) := dq_61 (by decide +kernel)
theorem dJ7_fill_53178_10 : decode cJ7_fill_53178 10 = .ok (.aload_n 0, 1) := dq_42 (by decide +kernel)
theorem dJ7_fill_53178_11 : decode cJ7_fill_53178 11 = .ok (.iload_n 2, 1) := dq_28 (by decide +kernel)
theorem dJ7_fill_53178_12 : decode cJ7_fill_53178 12 = .ok (.iload_n 1, 1) := dq_27 (by decide +kernel)
theorem dJ7_fill_53178_13 : decode cJ7_fill_53178 13 = .ok (.iastore, 1) := dq_79 (by decide +kernel)
theorem dJ7_fill_53178_14 : decode cJ7_fill_53178 14 = .ok (.iinc 2 1, 3) := dq_132 (b1 := 2) (b2 := 1) (by decide +kernel) (by decide) (by decide)
theorem dJ7_fill_53178_17 : decode cJ7_fill_53178 17 = .ok (.goto (-12), 3) := dq_167 (b1 := 255) (b2 := 244) (by decide +kernel) (by decide)
theorem dJ7_fill_53178_2 : decode cJ7_fill_53178 2 = .ok (.aload_n 0, 1) := dq_42 (by decide +kernel)
theorem dJ7_fill_53178_20 : decode cJ7_fill_53178 20 = .ok (.return_, 1) := dq_177 (by decide +kernel)
theorem dJ7_fill_53178_3 : decode cJ7_fill_53178 3 = .ok (.arraylength, 1) := dq_190 (by decide +kernel)
theorem dJ7_fill_53178_4 : decode cJ7_fill_53178 4 = .ok (.istore_n 3, 1) := dq_62 (by decide +kernel)
theorem dJ7_fill_53178_5 : decode cJ7_fill_53178 5 = .ok (.iload_n 2, 1) := dq_28 (by decide +kernel)
theorem dJ7_fill_53178_6 : decode cJ7_fill_53178 6 = .ok (.iload_n 3, 1) := dq_29 (by decide +kernel)
theorem dJ7_fill_53178_7 : decode cJ7_fill_53178 7 = .ok (.if_icmp .ge 13, 3) := dq_162 (b1 := 0) (b2 := 13) (by decide +kernel) (by decide)
theorem dX5_findingOfMove_0 : decode cX5_findingOfMove 0 = .ok (.aload_n 0, 1) := dq_42 (by decide +kernel)
theorem dX5_findingOfMove_1 : decode cX5_findingOfMove 1 = .ok (.iload_n 1, 1) := dq_27 (by decide +kernel)
theorem dX5_findingOfMove_10 : decode cX5_findingOfMove 10 = .ok (.invokevirtual 29, 3) := dq_182 (b1 := 0) (b2 := 29) (by decide +kernel) (by decide)
theorem dX5_findingOfMove_13 : decode cX5_findingOfMove 13 = .ok (.ifCond .eq 5, 3) := dq_153 (b1 := 0) (b2 := 5) (by decide +kernel) (by decide)
theorem dX5_findingOfMove_16 : decode cX5_findingOfMove 16 = .ok (.iconst 1, 1) := dq_4 (by decide +kernel)
theorem dX5_findingOfMove_17 : decode cX5_findingOfMove 17 = .ok (.ireturn, 1) := dq_172 (by decide +kernel)
theorem dX5_findingOfMove_18 : decode cX5_findingOfMove 18 = .ok (.aload_n 0, 1) := dq_42 (by decide +kernel)
theorem dX5_findingOfMove_19 : decode cX5_findingOfMove 19 = .ok (.getfield 16, 3) := dq_180 (b1 := 0) (b2 := 16) (by decide +kernel) (by decide)
theorem dX5_findingOfMove_2 : decode cX5_findingOfMove 2 = .ok (.invokevirtual 29, 3) := dq_182 (b1 := 0) (b2 := 29) (by decide +kernel) (by decide)
theorem dX5_findingOfMove_22 : decode cX5_findingOfMove 22 = .ok (.iload_n 1, 1) := dq_27 (by decide +kernel)
theorem dX5_findingOfMove_23 : decode cX5_findingOfMove 23 = .ok (.iaload, 1) := dq_46 (by decide +kernel)
theorem dX5_findingOfMove_24 : decode cX5_findingOfMove 24 = .ok (.aload_n 0, 1) := dq_42 (by decide +kernel)
theorem dX5_findingOfMove_25 : decode cX5_findingOfMove 25 = .ok (.getfield 16, 3) := dq_180 (b1 := 0) (b2 := 16) (by decide +kernel) (by decide)
theorem dX5_findingOfMove_28 : decode cX5_findingOfMove 28 = .ok (.iload_n 3, 1) := dq_29 (by decide +kernel)
theorem dX5_findingOfMove_29 : decode cX5_findingOfMove 29 = .ok (.iaload, 1) := dq_46 (by decide +kernel)
theorem dX5_findingOfMove_30 : decode cX5_findingOfMove 30 = .ok (.if_icmp .eq 5, 3) := dq_159 (b1 := 0) (b2 := 5) (by decide +kernel) (by decide)
theorem dX5_findingOfMove_33 : decode cX5_findingOfMove 33 = .ok (.iconst 5, 1) := dq_8 (by decide +kernel)
theorem dX5_findingOfMove_34 : decode cX5_findingOfMove 34 = .ok (.ireturn, 1) := dq_172 (by decide +kernel)
theorem dX5_findingOfMove_35 : decode cX5_findingOfMove 35 = .ok (.aload_n 0, 1) := dq_42 (by decide +kernel)
theorem dX5_findingOfMove_36 : decode cX5_findingOfMove 36 = .ok (.iload_n 1, 1) := dq_27 (by decide +kernel)
theorem dX5_findingOfMove_37 : decode cX5_findingOfMove 37 = .ok (.iload_n 2, 1) := dq_28 (by decide +kernel)
theorem dX5_findingOfMove_38 : decode cX5_findingOfMove 38 = .ok (.iload 5, 2) := dq_21 (b1 := 5) (by decide +kernel) (by decide)
theorem dX5_findingOfMove_40 : decode cX5_findingOfMove 40 = .ok (.invokevirtual 33, 3) := dq_182 (b1 := 0) (b2 := 33) (by decide +kernel) (by decide)
theorem dX5_findingOfMove_43 : decode cX5_findingOfMove 43 = .ok (.ifCond .eq 19, 3) := dq_153 (b1 := 0) (b2 := 19) (by decide +kernel) (by decide)
theorem dX5_findingOfMove_46 : decode cX5_findingOfMove 46 = .ok (.aload_n 0, 1) := dq_42 (by decide +kernel)
theorem dX5_findingOfMove_47 : decode cX5_findingOfMove 47 = .ok (.iload_n 3, 1) := dq_29 (by decide +kernel)
theorem dX5_findingOfMove_48 : decode cX5_findingOfMove 48 = .ok (.iload 4, 2) := dq_21 (b1 := 4) (by decide +kernel) (by decide)
theorem dX5_findingOfMove_5 : decode cX5_findingOfMove 5 = .ok (.ifCond .ne 11, 3) := dq_154 (b1 := 0) (b2 := 11) (by decide +kernel) (by decide)
theorem dX5_findingOfMove_50 : decode cX5_findingOfMove 50 = .ok (.iload 5, 2) := dq_21 (b1 := 5) (by decide +kernel) (by decide)
theorem dX5_findingOfMove_52 : decode cX5_findingOfMove 52 = .ok (.invokevirtual 33, 3) := dq_182 (b1 := 0) (b2 := 33) (by decide +kernel) (by decide)
theorem dX5_findingOfMove_55 : decode cX5_findingOfMove 55 = .ok (.ifCond .eq 7, 3) := dq_153 (b1 := 0) (b2 := 7) (by decide +kernel) (by decide)
theorem dX5_findingOfMove_58 : decode cX5_findingOfMove 58 = .ok (.iconst 0, 1) := dq_3 (by decide +kernel)
theorem dX5_findingOfMove_59 : decode cX5_findingOfMove 59 = .ok (.goto 4, 3) := dq_167 (b1 := 0) (b2 := 4) (by decide +kernel) (by decide)
theorem dX5_findingOfMove_62 : decode cX5_findingOfMove 62 = .ok (.iconst 2, 1) := dq_5 (by decide +kernel)
theorem dX5_findingOfMove_63 : decode cX5_findingOfMove 63 = .ok (.ireturn, 1) := dq_172 (by decide +kernel)
theorem dX5_findingOfMove_8 : decode cX5_findingOfMove 8 = .ok (.aload_n 0, 1) := dq_42 (by decide +kernel)
theorem dX5_findingOfMove_9 : decode cX5_findingOfMove 9 = .ok (.iload_n 3, 1) := dq_29 (by decide +kernel)
theorem dX5_findingOf_0 : decode cX5_findingOf 0 = .ok (.aload_n 0, 1) := dq_42 (by decide +kernel)
theorem dX5_findingOf_1 : decode cX5_findingOf 1 = .ok (.iload_n 1, 1) := dq_27 (by decide +kernel)
theorem dX5_findingOf_10 : decode cX5_findingOf 10 = .ok (.aload_n 0, 1) := dq_42 (by decide +kernel)
theorem dX5_findingOf_11 : decode cX5_findingOf 11 = .ok (.iload_n 1, 1) := dq_27 (by decide +kernel)
theorem dX5_findingOf_12 : decode cX5_findingOf 12 = .ok (.iload_n 2, 1) := dq_28 (by decide +kernel)
theorem dX5_findingOf_13 : decode cX5_findingOf 13 = .ok (.iload_n 3, 1) := dq_29 (by decide +kernel)
theorem dX5_findingOf_14 : decode cX5_findingOf 14 = .ok (.invokevirtual 33, 3) := dq_182 (b1 := 0) (b2 := 33) (by decide +kernel) (by decide)
theorem dX5_findingOf_17 : decode cX5_findingOf 17 = .ok (.ifCond .eq 7, 3) := dq_153 (b1 := 0) (b2 := 7) (by decide +kernel) (by decide)
theorem dX5_findingOf_2 : decode cX5_findingOf 2 = .ok (.invokevirtual 29, 3) := dq_182 (b1 := 0) (b2 := 29) (by decide +kernel) (by decide)
theorem dX5_findingOf_20 : decode cX5_findingOf 20 = .ok (.iconst 0, 1) := dq_3 (by decide +kernel)
theorem dX5_findingOf_21 : decode cX5_findingOf 21 = .ok (.goto 4, 3) := dq_167 (b1 := 0) (b2 := 4) (by decide +kernel) (by decide)
theorem dX5_findingOf_24 : decode cX5_findingOf 24 = .ok (.iconst 2, 1) := dq_5 (by decide +kernel)
theorem dX5_findingOf_25 : decode cX5_findingOf 25 = .ok (.ireturn, 1) := dq_172 (by decide +kernel)
theorem dX5_findingOf_5 : decode cX5_findingOf 5 = .ok (.ifCond .eq 5, 3) := dq_153 (b1 := 0) (b2 := 5) (by decide +kernel) (by decide)
theorem dX5_findingOf_8 : decode cX5_findingOf 8 = .ok (.iconst 1, 1) := dq_4 (by decide +kernel)
theorem dX5_findingOf_9 : decode cX5_findingOf 9 = .ok (.ireturn, 1) := dq_172 (by decide +kernel)
theorem dX5_hasPlaces_0 : decode cX5_hasPlaces 0 = .ok (.iload_n 2, 1) := dq_28 (by decide +kernel)
theorem dX5_hasPlaces_1 : decode cX5_hasPlaces 1 = .ok (.ifCond .lt 23, 3) := dq_155 (b1 := 0) (b2 := 23) (by decide +kernel) (by decide)
theorem dX5_hasPlaces_10 : decode cX5_hasPlaces 10 = .ok (.getfield 20, 3) := dq_180 (b1 := 0) (b2 := 20) (by decide +kernel) (by decide)
theorem dX5_hasPlaces_13 : decode cX5_hasPlaces 13 = .ok (.iload_n 1, 1) := dq_27 (by decide +kernel)
theorem dX5_hasPlaces_14 : decode cX5_hasPlaces 14 = .ok (.iaload, 1) := dq_46 (by decide +kernel)
theorem dX5_hasPlaces_15 : decode cX5_hasPlaces 15 = .ok (.iload_n 3, 1) := dq_29 (by decide +kernel)
theorem dX5_hasPlaces_16 : decode cX5_hasPlaces 16 = .ok (.isub, 1) := dq_100 (by decide +kernel)
theorem dX5_hasPlaces_17 : decode cX5_hasPlaces 17 = .ok (.if_icmp .gt 7, 3) := dq_163 (b1 := 0) (b2 := 7) (by decide +kernel) (by decide)
theorem dX5_hasPlaces_20 : decode cX5_hasPlaces 20 = .ok (.iconst 1, 1) := dq_4 (by decide +kernel)
theorem dX5_hasPlaces_21 : decode cX5_hasPlaces 21 = .ok (.goto 4, 3) := dq_167 (b1 := 0) (b2 := 4) (by decide +kernel) (by decide)
theorem dX5_hasPlaces_24 : decode cX5_hasPlaces 24 = .ok (.iconst 0, 1) := dq_3 (by decide +kernel)
theorem dX5_hasPlaces_25 : decode cX5_hasPlaces 25 = .ok (.ireturn, 1) := dq_172 (by decide +kernel)
theorem dX5_hasPlaces_4 : decode cX5_hasPlaces 4 = .ok (.iload_n 3, 1) := dq_29 (by decide +kernel)
theorem dX5_hasPlaces_5 : decode cX5_hasPlaces 5 = .ok (.ifCond .lt 19, 3) := dq_155 (b1 := 0) (b2 := 19) (by decide +kernel) (by decide)
theorem dX5_hasPlaces_8 : decode cX5_hasPlaces 8 = .ok (.iload_n 2, 1) := dq_28 (by decide +kernel)
theorem dX5_hasPlaces_9 : decode cX5_hasPlaces 9 = .ok (.aload_n 0, 1) := dq_42 (by decide +kernel)
theorem dX5_isLane_0 : decode cX5_isLane 0 = .ok (.iload_n 0, 1) := dq_26 (by decide +kernel)
theorem dX5_isLane_1 : decode cX5_isLane 1 = .ok (.ifCond .lt 12, 3) := dq_155 (b1 := 0) (b2 := 12) (by decide +kernel) (by decide)
theorem dX5_isLane_10 : decode cX5_isLane 10 = .ok (.goto 4, 3) := dq_167 (b1 := 0) (b2 := 4) (by decide +kernel) (by decide)
theorem dX5_isLane_13 : decode cX5_isLane 13 = .ok (.iconst 0, 1) := dq_3 (by decide +kernel)
theorem dX5_isLane_14 : decode cX5_isLane 14 = .ok (.ireturn, 1) := dq_172 (by decide +kernel)
theorem dX5_isLane_4 : decode cX5_isLane 4 = .ok (.iload_n 0, 1) := dq_26 (by decide +kernel)
theorem dX5_isLane_5 : decode cX5_isLane 5 = .ok (.iconst 2, 1) := dq_5 (by decide +kernel)
theorem dX5_isLane_6 : decode cX5_isLane 6 = .ok (.if_icmp .gt 7, 3) := dq_163 (b1 := 0) (b2 := 7) (by decide +kernel) (by decide)
theorem dX5_isLane_9 : decode cX5_isLane 9 = .ok (.iconst 1, 1) := dq_4 (by decide +kernel)
theorem dX5_isMissing_0 : decode cX5_isMissing 0 = .ok (.aload_n 0, 1) := dq_42 (by decide +kernel)
theorem dX5_isMissing_1 : decode cX5_isMissing 1 = .ok (.getfield 16, 3) := dq_180 (b1 := 0) (b2 := 16) (by decide +kernel) (by decide)
theorem dX5_isMissing_10 : decode cX5_isMissing 10 = .ok (.iconst 1, 1) := dq_4 (by decide +kernel)
theorem dX5_isMissing_11 : decode cX5_isMissing 11 = .ok (.goto 4, 3) := dq_167 (b1 := 0) (b2 := 4) (by decide +kernel) (by decide)
theorem dX5_isMissing_14 : decode cX5_isMissing 14 = .ok (.iconst 0, 1) := dq_3 (by decide +kernel)
theorem dX5_isMissing_15 : decode cX5_isMissing 15 = .ok (.ireturn, 1) := dq_172 (by decide +kernel)
theorem dX5_isMissing_4 : decode cX5_isMissing 4 = .ok (.iload_n 1, 1) := dq_27 (by decide +kernel)
theorem dX5_isMissing_5 : decode cX5_isMissing 5 = .ok (.iaload, 1) := dq_46 (by decide +kernel)
theorem dX5_isMissing_6 : decode cX5_isMissing 6 = .ok (.iconst (-1), 1) := dq_2 (by decide +kernel)
theorem dX5_isMissing_7 : decode cX5_isMissing 7 = .ok (.if_icmp .ne 7, 3) := dq_160 (b1 := 0) (b2 := 7) (by decide +kernel) (by decide)
theorem dX5_isRow_0 : decode cX5_isRow 0 = .ok (.iload_n 0, 1) := dq_26 (by decide +kernel)
theorem dX5_isRow_1 : decode cX5_isRow 1 = .ok (.ifCond .lt 13, 3) := dq_155 (b1 := 0) (b2 := 13) (by decide +kernel) (by decide)
theorem dX5_isRow_10 : decode cX5_isRow 10 = .ok (.iconst 1, 1) := dq_4 (by decide +kernel)
theorem dX5_isRow_11 : decode cX5_isRow 11 = .ok (.goto 4, 3) := dq_167 (b1 := 0) (b2 := 4) (by decide +kernel) (by decide)
theorem dX5_isRow_14 : decode cX5_isRow 14 = .ok (.iconst 0, 1) := dq_3 (by decide +kernel)
theorem dX5_isRow_15 : decode cX5_isRow 15 = .ok (.ireturn, 1) := dq_172 (by decide +kernel)
theorem dX5_isRow_4 : decode cX5_isRow 4 = .ok (.iload_n 0, 1) := dq_26 (by decide +kernel)
theorem dX5_isRow_5 : decode cX5_isRow 5 = .ok (.bipush 8, 2) := dq_16 (b1 := 8) (by decide +kernel) (by decide)
theorem dX5_isRow_7 : decode cX5_isRow 7 = .ok (.if_icmp .ge 7, 3) := dq_162 (b1 := 0) (b2 := 7) (by decide +kernel) (by decide)
theorem dX5_item_0 : decode cX5_item 0 = .ok (.aload_n 0, 1) := dq_42 (by decide +kernel)
theorem dX5_item_1 : decode cX5_item 1 = .ok (.getfield 13, 3) := dq_180 (b1 := 0) (b2 := 13) (by decide +kernel) (by decide)
theorem dX5_item_4 : decode cX5_item 4 = .ok (.iload_n 1, 1) := dq_27 (by decide +kernel)
theorem dX5_item_5 : decode cX5_item 5 = .ok (.aaload, 1) := dq_50 (by decide +kernel)
theorem dX5_item_6 : decode cX5_item 6 = .ok (.iload_n 2, 1) := dq_28 (by decide +kernel)
theorem dX5_item_7 : decode cX5_item 7 = .ok (.iaload, 1) := dq_46 (by decide +kernel)
theorem dX5_item_8 : decode cX5_item 8 = .ok (.ireturn, 1) := dq_172 (by decide +kernel)
theorem dX5_make_0 : decode cX5_make 0 = .ok (.aload_n 0, 1) := dq_42 (by decide +kernel)
theorem dX5_make_1 : decode cX5_make 1 = .ok (.getfield 16, 3) := dq_180 (b1 := 0) (b2 := 16) (by decide +kernel) (by decide)
theorem dX5_make_11 : decode cX5_make 11 = .ok (.iload_n 1, 1) := dq_27 (by decide +kernel)
theorem dX5_make_12 : decode cX5_make 12 = .ok (.iload_n 3, 1) := dq_29 (by decide +kernel)
theorem dX5_make_13 : decode cX5_make 13 = .ok (.iastore, 1) := dq_79 (by decide +kernel)
theorem dX5_make_14 : decode cX5_make 14 = .ok (.aload_n 0, 1) := dq_42 (by decide +kernel)
theorem dX5_make_15 : decode cX5_make 15 = .ok (.getfield 13, 3) := dq_180 (b1 := 0) (b2 := 13) (by decide +kernel) (by decide)
theorem dX5_make_18 : decode cX5_make 18 = .ok (.iload_n 1, 1) := dq_27 (by decide +kernel)
theorem dX5_make_19 : decode cX5_make 19 = .ok (.aaload, 1) := dq_50 (by decide +kernel)
theorem dX5_make_20 : decode cX5_make 20 = .ok (.iconst 0, 1) := dq_3 (by decide +kernel)
theorem dX5_make_21 : decode cX5_make 21 = .ok (.invokestatic 23, 3) := dq_184 (b1 := 0) (b2 := 23) (by decide +kernel) (by decide)
theorem dX5_make_24 : decode cX5_make 24 = .ok (.return_, 1) := dq_177 (by decide +kernel)
theorem dX5_make_4 : decode cX5_make 4 = .ok (.iload_n 1, 1) := dq_27 (by decide +kernel)
theorem dX5_make_5 : decode cX5_make 5 = .ok (.iload_n 2, 1) := dq_28 (by decide +kernel)
theorem dX5_make_6 : decode cX5_make 6 = .ok (.iastore, 1) := dq_79 (by decide +kernel)
theorem dX5_make_7 : decode cX5_make 7 = .ok (.aload_n 0, 1) := dq_42 (by decide +kernel)
theorem dX5_make_8 : decode cX5_make 8 = .ok (.getfield 20, 3) := dq_180 (b1 := 0) (b2 := 20) (by decide +kernel) (by decide)
theorem dX5_move_0 : decode cX5_move 0 = .ok (.aload_n 0, 1) := dq_42 (by decide +kernel)
theorem dX5_move_1 : decode cX5_move 1 = .ok (.getfield 13, 3) := dq_180 (b1 := 0) (b2 := 13) (by decide +kernel) (by decide)
theorem dX5_move_11 : decode cX5_move 11 = .ok (.iload_n 3, 1) := dq_29 (by decide +kernel)
theorem dX5_move_12 : decode cX5_move 12 = .ok (.aaload, 1) := dq_50 (by decide +kernel)
theorem dX5_move_13 : decode cX5_move 13 = .ok (.iload 4, 2) := dq_21 (b1 := 4) (by decide +kernel) (by decide)
theorem dX5_move_15 : decode cX5_move 15 = .ok (.iload 5, 2) := dq_21 (b1 := 5) (by decide +kernel) (by decide)
theorem dX5_move_17 : decode cX5_move 17 = .ok (.invokestatic 37, 3) := dq_184 (b1 := 0) (b2 := 37) (by decide +kernel) (by decide)
theorem dX5_move_20 : decode cX5_move 20 = .ok (.return_, 1) := dq_177 (by decide +kernel)
theorem dX5_move_4 : decode cX5_move 4 = .ok (.iload_n 1, 1) := dq_27 (by decide +kernel)
theorem dX5_move_5 : decode cX5_move 5 = .ok (.aaload, 1) := dq_50 (by decide +kernel)
theorem dX5_move_6 : decode cX5_move 6 = .ok (.iload_n 2, 1) := dq_28 (by decide +kernel)
theorem dX5_move_7 : decode cX5_move 7 = .ok (.aload_n 0, 1) := dq_42 (by decide +kernel)
theorem dX5_move_8 : decode cX5_move 8 = .ok (.getfield 13, 3) := dq_180 (b1 := 0) (b2 := 13) (by decide +kernel) (by decide)
theorem dX5_present_0 : decode cX5_present 0 = .ok (.iconst 0, 1) := dq_3 (by decide +kernel)
theorem dX5_present_1 : decode cX5_present 1 = .ok (.istore_n 1, 1) := dq_60 (by decide +kernel)
theorem dX5_present_10 : decode cX5_present 10 = .ok (.iload_n 1, 1) := dq_27 (by decide +kernel)
theorem dX5_present_11 : decode cX5_present 11 = .ok (.aload_n 0, 1) := dq_42 (by decide +kernel)
theorem dX5_present_12 : decode cX5_present 12 = .ok (.iload_n 2, 1) := dq_28 (by decide +kernel)
theorem dX5_present_13 : decode cX5_present 13 = .ok (.invokevirtual 29, 3) := dq_182 (b1 := 0) (b2 := 29) (by decide +kernel) (by decide)
theorem dX5_present_16 : decode cX5_present 16 = .ok (.ifCond .eq 7, 3) := dq_153 (b1 := 0) (b2 := 7) (by decide +kernel) (by decide)
theorem dX5_present_19 : decode cX5_present 19 = .ok (.iconst 0, 1) := dq_3 (by decide +kernel)
theorem dX5_present_2 : decode cX5_present 2 = .ok (.iconst 0, 1) := dq_3 (by decide +kernel)
theorem dX5_present_20 : decode cX5_present 20 = .ok (.goto 4, 3) := dq_167 (b1 := 0) (b2 := 4) (by decide +kernel) (by decide)
theorem dX5_present_23 : decode cX5_present 23 = .ok (.iconst 1, 1) := dq_4 (by decide +kernel)
theorem dX5_present_24 : decode cX5_present 24 = .ok (.iadd, 1) := dq_96 (by decide +kernel)
theorem dX5_present_25 : decode cX5_present 25 = .ok (.istore_n 1, 1) := dq_60 (by decide +kernel)
theorem dX5_present_26 : decode cX5_present 26 = .ok (.iinc 2 1, 3) := dq_132 (b1 := 2) (b2 := 1) (by decide +kernel) (by decide) (by decide)
theorem dX5_present_29 : decode cX5_present 29 = .ok (.goto (-25), 3) := dq_167 (b1 := 255) (b2 := 231) (by decide +kernel) (by decide)
theorem dX5_present_3 : decode cX5_present 3 = .ok (.istore_n 2, 1) := dq_61 (by decide +kernel)
theorem dX5_present_32 : decode cX5_present 32 = .ok (.iload_n 1, 1) := dq_27 (by decide +kernel)
theorem dX5_present_33 : decode cX5_present 33 = .ok (.ireturn, 1) := dq_172 (by decide +kernel)
theorem dX5_present_4 : decode cX5_present 4 = .ok (.iload_n 2, 1) := dq_28 (by decide +kernel)
theorem dX5_present_5 : decode cX5_present 5 = .ok (.bipush 8, 2) := dq_16 (b1 := 8) (by decide +kernel) (by decide)
theorem dX5_present_7 : decode cX5_present 7 = .ok (.if_icmp .ge 25, 3) := dq_162 (b1 := 0) (b2 := 25) (by decide +kernel) (by decide)
theorem dX5_put_0 : decode cX5_put 0 = .ok (.iload_n 3, 1) := dq_29 (by decide +kernel)
theorem dX5_put_1 : decode cX5_put 1 = .ok (.istore 4, 2) := dq_54 (b1 := 4) (by decide +kernel) (by decide)
theorem dX5_put_12 : decode cX5_put 12 = .ok (.iload_n 3, 1) := dq_29 (by decide +kernel)
theorem dX5_put_13 : decode cX5_put 13 = .ok (.i2b, 1) := dq_145 (by decide +kernel)
theorem dX5_put_14 : decode cX5_put 14 = .ok (.istore 4, 2) := dq_54 (b1 := 4) (by decide +kernel) (by decide)
theorem dX5_put_16 : decode cX5_put 16 = .ok (.goto 17, 3) := dq_167 (b1 := 0) (b2 := 17) (by decide +kernel) (by decide)
theorem dX5_put_19 : decode cX5_put 19 = .ok (.aload_n 0, 1) := dq_42 (by decide +kernel)
theorem dX5_put_20 : decode cX5_put 20 = .ok (.getfield 16, 3) := dq_180 (b1 := 0) (b2 := 16) (by decide +kernel) (by decide)
theorem dX5_put_23 : decode cX5_put 23 = .ok (.iload_n 1, 1) := dq_27 (by decide +kernel)
theorem dX5_put_24 : decode cX5_put 24 = .ok (.iaload, 1) := dq_46 (by decide +kernel)
theorem dX5_put_25 : decode cX5_put 25 = .ok (.iconst 1, 1) := dq_4 (by decide +kernel)
theorem dX5_put_26 : decode cX5_put 26 = .ok (.if_icmp .ne 7, 3) := dq_160 (b1 := 0) (b2 := 7) (by decide +kernel) (by decide)
theorem dX5_put_29 : decode cX5_put 29 = .ok (.iload_n 3, 1) := dq_29 (by decide +kernel)
theorem dX5_put_3 : decode cX5_put 3 = .ok (.aload_n 0, 1) := dq_42 (by decide +kernel)
theorem dX5_put_30 : decode cX5_put 30 = .ok (.i2s, 1) := dq_147 (by decide +kernel)
theorem dX5_put_31 : decode cX5_put 31 = .ok (.istore 4, 2) := dq_54 (b1 := 4) (by decide +kernel) (by decide)
theorem dX5_put_33 : decode cX5_put 33 = .ok (.aload_n 0, 1) := dq_42 (by decide +kernel)
theorem dX5_put_34 : decode cX5_put 34 = .ok (.getfield 13, 3) := dq_180 (b1 := 0) (b2 := 13) (by decide +kernel) (by decide)
theorem dX5_put_37 : decode cX5_put 37 = .ok (.iload_n 1, 1) := dq_27 (by decide +kernel)
theorem dX5_put_38 : decode cX5_put 38 = .ok (.aaload, 1) := dq_50 (by decide +kernel)
theorem dX5_put_39 : decode cX5_put 39 = .ok (.iload_n 2, 1) := dq_28 (by decide +kernel)
theorem dX5_put_4 : decode cX5_put 4 = .ok (.getfield 16, 3) := dq_180 (b1 := 0) (b2 := 16) (by decide +kernel) (by decide)
theorem dX5_put_40 : decode cX5_put 40 = .ok (.iload 4, 2) := dq_21 (b1 := 4) (by decide +kernel) (by decide)
theorem dX5_put_42 : decode cX5_put 42 = .ok (.iastore, 1) := dq_79 (by decide +kernel)
theorem dX5_put_43 : decode cX5_put 43 = .ok (.iload 4, 2) := dq_21 (b1 := 4) (by decide +kernel) (by decide)
theorem dX5_put_45 : decode cX5_put 45 = .ok (.ireturn, 1) := dq_172 (by decide +kernel)
theorem dX5_put_7 : decode cX5_put 7 = .ok (.iload_n 1, 1) := dq_27 (by decide +kernel)
theorem dX5_put_8 : decode cX5_put 8 = .ok (.iaload, 1) := dq_46 (by decide +kernel)
theorem dX5_put_9 : decode cX5_put 9 = .ok (.ifCond .ne 10, 3) := dq_154 (b1 := 0) (b2 := 10) (by decide +kernel) (by decide)
theorem dX5_remove_0 : decode cX5_remove 0 = .ok (.aload_n 0, 1) := dq_42 (by decide +kernel)
theorem dX5_remove_1 : decode cX5_remove 1 = .ok (.getfield 16, 3) := dq_180 (b1 := 0) (b2 := 16) (by decide +kernel) (by decide)
theorem dX5_remove_11 : decode cX5_remove 11 = .ok (.iload_n 1, 1) := dq_27 (by decide +kernel)
theorem dX5_remove_12 : decode cX5_remove 12 = .ok (.iaload, 1) := dq_46 (by decide +kernel)
theorem dX5_remove_13 : decode cX5_remove 13 = .ok (.ireturn, 1) := dq_172 (by decide +kernel)
theorem dX5_remove_4 : decode cX5_remove 4 = .ok (.iload_n 1, 1) := dq_27 (by decide +kernel)
theorem dX5_remove_5 : decode cX5_remove 5 = .ok (.iconst (-1), 1) := dq_2 (by decide +kernel)
theorem dX5_remove_6 : decode cX5_remove 6 = .ok (.iastore, 1) := dq_79 (by decide +kernel)
theorem dX5_remove_7 : decode cX5_remove 7 = .ok (.aload_n 0, 1) := dq_42 (by decide +kernel)
theorem dX5_remove_8 : decode cX5_remove 8 = .ok (.getfield 20, 3) := dq_180 (b1 := 0) (b2 := 20) (by decide +kernel) (by decide)
theorem mx_X5_findingOfMove_10 : Cond.code yX5_hasPlaces cX5_hasPlaces 4 (some .boolean) ∈ wsX5_findingOfMove := by unfold wsX5_findingOfMove; exact List.mem_cons_of_mem _ (List.mem_append_left _ (List.mem_of_getElem? (i := 9) rfl))
theorem mx_X5_findingOfMove_11 : Cond.fieldLink RX5 20 "MillTalk$Rows" "lengths" "[I" ∈ wsX5_findingOfMove := by unfold wsX5_findingOfMove; exact List.mem_cons_of_mem _ (List.mem_append_left _ (List.mem_of_getElem? (i := 10) rfl))
theorem mb_X5_findingOfMove_wsX50 {w : Cond} (h : w ∈ wsX50) : w ∈ wsX5_findingOfMove := by unfold wsX5_findingOfMove; exact List.mem_cons_of_mem _ (List.mem_append_right _ (h))
theorem ggX5_findingOfMove_X5_hasPlaces : GoodIn wsX5_findingOfMove wsX5_hasPlaces := goodIn_sub (by unfold wsX5_hasPlaces; exact List.forall_mem_cons.mpr ⟨mx_X5_findingOfMove_10, List.forall_mem_append.mpr ⟨List.forall_mem_cons.mpr ⟨mx_X5_findingOfMove_11, fun _ h_ => absurd h_ List.not_mem_nil⟩, (fun _ h_ => mb_X5_findingOfMove_wsX50 h_)⟩⟩) (by decide +kernel)
theorem mx_X5_findingOfMove_7 : Cond.methodLink RX5 33 yX5_hasPlaces ∈ wsX5_findingOfMove := by unfold wsX5_findingOfMove; exact List.mem_cons_of_mem _ (List.mem_append_left _ (List.mem_of_getElem? (i := 6) rfl))
theorem mx_X5_findingOfMove_8 : Cond.instanceMethod yX5_hasPlaces ∈ wsX5_findingOfMove := by unfold wsX5_findingOfMove; exact List.mem_cons_of_mem _ (List.mem_append_left _ (List.mem_of_getElem? (i := 7) rfl))
theorem mx_X5_findingOfMove_9 : Cond.selects RX5 yX5_hasPlaces yX5_hasPlaces ∈ wsX5_findingOfMove := by unfold wsX5_findingOfMove; exact List.mem_cons_of_mem _ (List.mem_append_left _ (List.mem_of_getElem? (i := 8) rfl))
theorem mx_X5_findingOfMove_5 : Cond.initialized RX5 ∈ wsX5_findingOfMove := by unfold wsX5_findingOfMove; exact List.mem_cons_of_mem _ (List.mem_append_left _ (List.mem_of_getElem? (i := 4) rfl))
theorem gX5_findingOfMove_X5_hasPlaces : GoodIn wsX5_findingOfMove (wsV RX5 33 RX5 yX5_hasPlaces wsX5_hasPlaces) := goodIn_app (goodIn_sub (List.forall_mem_cons.mpr ⟨mx_X5_findingOfMove_7, List.forall_mem_cons.mpr ⟨mx_X5_findingOfMove_8, List.forall_mem_cons.mpr ⟨mx_X5_findingOfMove_9, List.forall_mem_cons.mpr ⟨mx_X5_findingOfMove_5, fun _ h_ => absurd h_ List.not_mem_nil⟩⟩⟩⟩) (by decide +kernel)) ggX5_findingOfMove_X5_hasPlaces
theorem mx_X5_findingOfMove_6 : Cond.code yX5_isMissing cX5_isMissing 2 (some .boolean) ∈ wsX5_findingOfMove := by unfold wsX5_findingOfMove; exact List.mem_cons_of_mem _ (List.mem_append_left _ (List.mem_of_getElem? (i := 5) rfl))
theorem mx_X5_findingOfMove_1 : Cond.fieldLink RX5 16 "MillTalk$Rows" "lanes" "[I" ∈ wsX5_findingOfMove := by unfold wsX5_findingOfMove; exact List.mem_cons_of_mem _ (List.mem_append_left _ (List.mem_of_getElem? (i := 0) rfl))
theorem ggX5_findingOfMove_X5_isMissing : GoodIn wsX5_findingOfMove wsX5_isMissing := goodIn_sub (by unfold wsX5_isMissing; exact List.forall_mem_cons.mpr ⟨mx_X5_findingOfMove_6, List.forall_mem_append.mpr ⟨List.forall_mem_cons.mpr ⟨mx_X5_findingOfMove_1, fun _ h_ => absurd h_ List.not_mem_nil⟩, (fun _ h_ => mb_X5_findingOfMove_wsX50 h_)⟩⟩) (by decide +kernel)
theorem mx_X5_findingOfMove_2 : Cond.methodLink RX5 29 yX5_isMissing ∈ wsX5_findingOfMove := by unfold wsX5_findingOfMove; exact List.mem_cons_of_mem _ (List.mem_append_left _ (List.mem_of_getElem? (i := 1) rfl))
theorem mx_X5_findingOfMove_3 : Cond.instanceMethod yX5_isMissing ∈ wsX5_findingOfMove := by unfold wsX5_findingOfMove; exact List.mem_cons_of_mem _ (List.mem_append_left _ (List.mem_of_getElem? (i := 2) rfl))
theorem mx_X5_findingOfMove_4 : Cond.selects RX5 yX5_isMissing yX5_isMissing ∈ wsX5_findingOfMove := by unfold wsX5_findingOfMove; exact List.mem_cons_of_mem _ (List.mem_append_left _ (List.mem_of_getElem? (i := 3) rfl))
theorem gX5_findingOfMove_X5_isMissing : GoodIn wsX5_findingOfMove (wsV RX5 29 RX5 yX5_isMissing wsX5_isMissing) := goodIn_app (goodIn_sub (List.forall_mem_cons.mpr ⟨mx_X5_findingOfMove_2, List.forall_mem_cons.mpr ⟨mx_X5_findingOfMove_3, List.forall_mem_cons.mpr ⟨mx_X5_findingOfMove_4, List.forall_mem_cons.mpr ⟨mx_X5_findingOfMove_5, fun _ h_ => absurd h_ List.not_mem_nil⟩⟩⟩⟩) (by decide +kernel)) ggX5_findingOfMove_X5_isMissing
theorem mx_X5_findingOf_10 : Cond.code yX5_hasPlaces cX5_hasPlaces 4 (some .boolean) ∈ wsX5_findingOf := by unfold wsX5_findingOf; exact List.mem_cons_of_mem _ (List.mem_append_left _ (List.mem_of_getElem? (i := 9) rfl))
theorem mx_X5_findingOf_11 : Cond.fieldLink RX5 20 "MillTalk$Rows" "lengths" "[I" ∈ wsX5_findingOf := by unfold wsX5_findingOf; exact List.mem_cons_of_mem _ (List.mem_append_left _ (List.mem_of_getElem? (i := 10) rfl))
theorem mb_X5_findingOf_wsX50 {w : Cond} (h : w ∈ wsX50) : w ∈ wsX5_findingOf := by unfold wsX5_findingOf; exact List.mem_cons_of_mem _ (List.mem_append_right _ (h))
theorem ggX5_findingOf_X5_hasPlaces : GoodIn wsX5_findingOf wsX5_hasPlaces := goodIn_sub (by unfold wsX5_hasPlaces; exact List.forall_mem_cons.mpr ⟨mx_X5_findingOf_10, List.forall_mem_append.mpr ⟨List.forall_mem_cons.mpr ⟨mx_X5_findingOf_11, fun _ h_ => absurd h_ List.not_mem_nil⟩, (fun _ h_ => mb_X5_findingOf_wsX50 h_)⟩⟩) (by decide +kernel)
theorem mx_X5_findingOf_7 : Cond.methodLink RX5 33 yX5_hasPlaces ∈ wsX5_findingOf := by unfold wsX5_findingOf; exact List.mem_cons_of_mem _ (List.mem_append_left _ (List.mem_of_getElem? (i := 6) rfl))
theorem mx_X5_findingOf_8 : Cond.instanceMethod yX5_hasPlaces ∈ wsX5_findingOf := by unfold wsX5_findingOf; exact List.mem_cons_of_mem _ (List.mem_append_left _ (List.mem_of_getElem? (i := 7) rfl))
theorem mx_X5_findingOf_9 : Cond.selects RX5 yX5_hasPlaces yX5_hasPlaces ∈ wsX5_findingOf := by unfold wsX5_findingOf; exact List.mem_cons_of_mem _ (List.mem_append_left _ (List.mem_of_getElem? (i := 8) rfl))
theorem mx_X5_findingOf_4 : Cond.initialized RX5 ∈ wsX5_findingOf := by unfold wsX5_findingOf; exact List.mem_cons_of_mem _ (List.mem_append_left _ (List.mem_of_getElem? (i := 3) rfl))
theorem gX5_findingOf_X5_hasPlaces : GoodIn wsX5_findingOf (wsV RX5 33 RX5 yX5_hasPlaces wsX5_hasPlaces) := goodIn_app (goodIn_sub (List.forall_mem_cons.mpr ⟨mx_X5_findingOf_7, List.forall_mem_cons.mpr ⟨mx_X5_findingOf_8, List.forall_mem_cons.mpr ⟨mx_X5_findingOf_9, List.forall_mem_cons.mpr ⟨mx_X5_findingOf_4, fun _ h_ => absurd h_ List.not_mem_nil⟩⟩⟩⟩) (by decide +kernel)) ggX5_findingOf_X5_hasPlaces
theorem mx_X5_findingOf_5 : Cond.code yX5_isMissing cX5_isMissing 2 (some .boolean) ∈ wsX5_findingOf := by unfold wsX5_findingOf; exact List.mem_cons_of_mem _ (List.mem_append_left _ (List.mem_of_getElem? (i := 4) rfl))
theorem mx_X5_findingOf_6 : Cond.fieldLink RX5 16 "MillTalk$Rows" "lanes" "[I" ∈ wsX5_findingOf := by unfold wsX5_findingOf; exact List.mem_cons_of_mem _ (List.mem_append_left _ (List.mem_of_getElem? (i := 5) rfl))
theorem ggX5_findingOf_X5_isMissing : GoodIn wsX5_findingOf wsX5_isMissing := goodIn_sub (by unfold wsX5_isMissing; exact List.forall_mem_cons.mpr ⟨mx_X5_findingOf_5, List.forall_mem_append.mpr ⟨List.forall_mem_cons.mpr ⟨mx_X5_findingOf_6, fun _ h_ => absurd h_ List.not_mem_nil⟩, (fun _ h_ => mb_X5_findingOf_wsX50 h_)⟩⟩) (by decide +kernel)
theorem mx_X5_findingOf_1 : Cond.methodLink RX5 29 yX5_isMissing ∈ wsX5_findingOf := by unfold wsX5_findingOf; exact List.mem_cons_of_mem _ (List.mem_append_left _ (List.mem_of_getElem? (i := 0) rfl))
theorem mx_X5_findingOf_2 : Cond.instanceMethod yX5_isMissing ∈ wsX5_findingOf := by unfold wsX5_findingOf; exact List.mem_cons_of_mem _ (List.mem_append_left _ (List.mem_of_getElem? (i := 1) rfl))
theorem mx_X5_findingOf_3 : Cond.selects RX5 yX5_isMissing yX5_isMissing ∈ wsX5_findingOf := by unfold wsX5_findingOf; exact List.mem_cons_of_mem _ (List.mem_append_left _ (List.mem_of_getElem? (i := 2) rfl))
theorem gX5_findingOf_X5_isMissing : GoodIn wsX5_findingOf (wsV RX5 29 RX5 yX5_isMissing wsX5_isMissing) := goodIn_app (goodIn_sub (List.forall_mem_cons.mpr ⟨mx_X5_findingOf_1, List.forall_mem_cons.mpr ⟨mx_X5_findingOf_2, List.forall_mem_cons.mpr ⟨mx_X5_findingOf_3, List.forall_mem_cons.mpr ⟨mx_X5_findingOf_4, fun _ h_ => absurd h_ List.not_mem_nil⟩⟩⟩⟩) (by decide +kernel)) ggX5_findingOf_X5_isMissing
theorem mx_X5_make_7 : Cond.code yJ7_fill_53178 cJ7_fill_53178 4 none ∈ wsX5_make := by unfold wsX5_make; exact List.mem_cons_of_mem _ (List.mem_append_left _ (List.mem_of_getElem? (i := 6) rfl))
theorem ggX5_make_J7_fill_53178 : GoodIn wsX5_make wsJ7_fill_53178 := goodIn_sub (by unfold wsJ7_fill_53178; exact List.forall_mem_cons.mpr ⟨mx_X5_make_7, fun _ h_ => absurd h_ List.not_mem_nil⟩) (by decide +kernel)
set_option maxRecDepth 20000 in
theorem gX5_make_J7_fill_53178 : GoodIn wsX5_make (va_wsS RX5 23 yJ7_fill_53178 wsJ7_fill_53178) := goodIn_app (goodIn_of _ (by decide +kernel)) ggX5_make_J7_fill_53178
theorem mx_X5_present_5 : Cond.code yX5_isMissing cX5_isMissing 2 (some .boolean) ∈ wsX5_present := by unfold wsX5_present; exact List.mem_cons_of_mem _ (List.mem_append_left _ (List.mem_of_getElem? (i := 4) rfl))
theorem mx_X5_present_6 : Cond.fieldLink RX5 16 "MillTalk$Rows" "lanes" "[I" ∈ wsX5_present := by unfold wsX5_present; exact List.mem_cons_of_mem _ (List.mem_append_left _ (List.mem_of_getElem? (i := 5) rfl))
theorem mb_X5_present_wsX50 {w : Cond} (h : w ∈ wsX50) : w ∈ wsX5_present := by unfold wsX5_present; exact List.mem_cons_of_mem _ (List.mem_append_right _ (h))
theorem ggX5_present_X5_isMissing : GoodIn wsX5_present wsX5_isMissing := goodIn_sub (by unfold wsX5_isMissing; exact List.forall_mem_cons.mpr ⟨mx_X5_present_5, List.forall_mem_append.mpr ⟨List.forall_mem_cons.mpr ⟨mx_X5_present_6, fun _ h_ => absurd h_ List.not_mem_nil⟩, (fun _ h_ => mb_X5_present_wsX50 h_)⟩⟩) (by decide +kernel)
theorem mx_X5_present_1 : Cond.methodLink RX5 29 yX5_isMissing ∈ wsX5_present := by unfold wsX5_present; exact List.mem_cons_of_mem _ (List.mem_append_left _ (List.mem_of_getElem? (i := 0) rfl))
theorem mx_X5_present_2 : Cond.instanceMethod yX5_isMissing ∈ wsX5_present := by unfold wsX5_present; exact List.mem_cons_of_mem _ (List.mem_append_left _ (List.mem_of_getElem? (i := 1) rfl))
theorem mx_X5_present_3 : Cond.selects RX5 yX5_isMissing yX5_isMissing ∈ wsX5_present := by unfold wsX5_present; exact List.mem_cons_of_mem _ (List.mem_append_left _ (List.mem_of_getElem? (i := 2) rfl))
theorem mx_X5_present_4 : Cond.initialized RX5 ∈ wsX5_present := by unfold wsX5_present; exact List.mem_cons_of_mem _ (List.mem_append_left _ (List.mem_of_getElem? (i := 3) rfl))
theorem gX5_present_X5_isMissing : GoodIn wsX5_present (wsV RX5 29 RX5 yX5_isMissing wsX5_isMissing) := goodIn_app (goodIn_sub (List.forall_mem_cons.mpr ⟨mx_X5_present_1, List.forall_mem_cons.mpr ⟨mx_X5_present_2, List.forall_mem_cons.mpr ⟨mx_X5_present_3, List.forall_mem_cons.mpr ⟨mx_X5_present_4, fun _ h_ => absurd h_ List.not_mem_nil⟩⟩⟩⟩) (by decide +kernel)) ggX5_present_X5_isMissing
theorem i_X5_findingOfMove_X5 : ∀ w ∈ u_ws RX5 TX5 3, w ∈ wsX5_findingOfMove := fun _ h_ => mb_X5_findingOfMove_wsX50 h_
theorem mb_X5_hasPlaces_wsX50 {w : Cond} (h : w ∈ wsX50) : w ∈ wsX5_hasPlaces := by unfold wsX5_hasPlaces; exact List.mem_cons_of_mem _ (List.mem_append_right _ (h))
theorem i_X5_hasPlaces_X5 : ∀ w ∈ u_ws RX5 TX5 3, w ∈ wsX5_hasPlaces := fun _ h_ => mb_X5_hasPlaces_wsX50 h_
theorem mb_X5_isMissing_wsX50 {w : Cond} (h : w ∈ wsX50) : w ∈ wsX5_isMissing := by unfold wsX5_isMissing; exact List.mem_cons_of_mem _ (List.mem_append_right _ (h))
theorem i_X5_isMissing_X5 : ∀ w ∈ u_ws RX5 TX5 3, w ∈ wsX5_isMissing := fun _ h_ => mb_X5_isMissing_wsX50 h_
theorem mb_X5_item_wsX50 {w : Cond} (h : w ∈ wsX50) : w ∈ wsX5_item := by unfold wsX5_item; exact List.mem_cons_of_mem _ (List.mem_append_right _ (h))
theorem i_X5_item_X5 : ∀ w ∈ u_ws RX5 TX5 3, w ∈ wsX5_item := fun _ h_ => mb_X5_item_wsX50 h_
theorem mb_X5_make_wsX50 {w : Cond} (h : w ∈ wsX50) : w ∈ wsX5_make := by unfold wsX5_make; exact List.mem_cons_of_mem _ (List.mem_append_right _ (h))
theorem i_X5_make_X5 : ∀ w ∈ u_ws RX5 TX5 3, w ∈ wsX5_make := fun _ h_ => mb_X5_make_wsX50 h_
theorem mb_X5_move_wsX50 {w : Cond} (h : w ∈ wsX50) : w ∈ wsX5_move := by unfold wsX5_move; exact List.mem_cons_of_mem _ (List.mem_append_right _ (h))
theorem i_X5_move_X5 : ∀ w ∈ u_ws RX5 TX5 3, w ∈ wsX5_move := fun _ h_ => mb_X5_move_wsX50 h_
theorem mb_X5_put_wsX50 {w : Cond} (h : w ∈ wsX50) : w ∈ wsX5_put := by unfold wsX5_put; exact List.mem_cons_of_mem _ (List.mem_append_right _ (h))
theorem i_X5_put_X5 : ∀ w ∈ u_ws RX5 TX5 3, w ∈ wsX5_put := fun _ h_ => mb_X5_put_wsX50 h_
theorem mb_X5_remove_wsX50 {w : Cond} (h : w ∈ wsX50) : w ∈ wsX5_remove := by unfold wsX5_remove; exact List.mem_cons_of_mem _ (List.mem_append_right _ (h))
theorem i_X5_remove_X5 : ∀ w ∈ u_ws RX5 TX5 3, w ∈ wsX5_remove := fun _ h_ => mb_X5_remove_wsX50 h_
theorem mx_X5_isMissing_1 : Cond.fieldLink RX5 16 "MillTalk$Rows" "lanes" "[I" ∈ wsX5_isMissing := by unfold wsX5_isMissing; exact List.mem_cons_of_mem _ (List.mem_append_left _ (List.mem_of_getElem? (i := 0) rfl))
theorem mx_X5_hasPlaces_1 : Cond.fieldLink RX5 20 "MillTalk$Rows" "lengths" "[I" ∈ wsX5_hasPlaces := by unfold wsX5_hasPlaces; exact List.mem_cons_of_mem _ (List.mem_append_left _ (List.mem_of_getElem? (i := 0) rfl))
theorem mx_X5_item_1 : Cond.fieldLink RX5 13 "MillTalk$Rows" "items" "[[I" ∈ wsX5_item := by unfold wsX5_item; exact List.mem_cons_of_mem _ (List.mem_append_left _ (List.mem_of_getElem? (i := 0) rfl))
theorem mx_X5_put_1 : Cond.fieldLink RX5 16 "MillTalk$Rows" "lanes" "[I" ∈ wsX5_put := by unfold wsX5_put; exact List.mem_cons_of_mem _ (List.mem_append_left _ (List.mem_of_getElem? (i := 0) rfl))
theorem mx_X5_put_2 : Cond.fieldLink RX5 13 "MillTalk$Rows" "items" "[[I" ∈ wsX5_put := by unfold wsX5_put; exact List.mem_cons_of_mem _ (List.mem_append_left _ (List.mem_of_getElem? (i := 1) rfl))
theorem mx_X5_move_1 : Cond.fieldLink RX5 13 "MillTalk$Rows" "items" "[[I" ∈ wsX5_move := by unfold wsX5_move; exact List.mem_cons_of_mem _ (List.mem_append_left _ (List.mem_of_getElem? (i := 0) rfl))
theorem mx_X5_move_2 : Cond.methodLink RX5 37 arraycopyName ∈ wsX5_move := by unfold wsX5_move; exact List.mem_cons_of_mem _ (List.mem_append_left _ (List.mem_of_getElem? (i := 1) rfl))
theorem mx_X5_move_3 : Cond.native arraycopyName ∈ wsX5_move := by unfold wsX5_move; exact List.mem_cons_of_mem _ (List.mem_append_left _ (List.mem_of_getElem? (i := 2) rfl))
theorem mx_X5_move_4 : Cond.static arraycopyName ∈ wsX5_move := by unfold wsX5_move; exact List.mem_cons_of_mem _ (List.mem_append_left _ (List.mem_of_getElem? (i := 3) rfl))
theorem mx_X5_move_5 : Cond.initialized "java/lang/System" ∈ wsX5_move := by unfold wsX5_move; exact List.mem_cons_of_mem _ (List.mem_append_left _ (List.mem_of_getElem? (i := 4) rfl))
theorem mx_X5_remove_1 : Cond.fieldLink RX5 16 "MillTalk$Rows" "lanes" "[I" ∈ wsX5_remove := by unfold wsX5_remove; exact List.mem_cons_of_mem _ (List.mem_append_left _ (List.mem_of_getElem? (i := 0) rfl))
theorem mx_X5_remove_2 : Cond.fieldLink RX5 20 "MillTalk$Rows" "lengths" "[I" ∈ wsX5_remove := by unfold wsX5_remove; exact List.mem_cons_of_mem _ (List.mem_append_left _ (List.mem_of_getElem? (i := 1) rfl))
theorem mx_X5_make_1 : Cond.fieldLink RX5 16 "MillTalk$Rows" "lanes" "[I" ∈ wsX5_make := by unfold wsX5_make; exact List.mem_cons_of_mem _ (List.mem_append_left _ (List.mem_of_getElem? (i := 0) rfl))
theorem mx_X5_make_2 : Cond.fieldLink RX5 20 "MillTalk$Rows" "lengths" "[I" ∈ wsX5_make := by unfold wsX5_make; exact List.mem_cons_of_mem _ (List.mem_append_left _ (List.mem_of_getElem? (i := 1) rfl))
theorem mx_X5_make_3 : Cond.fieldLink RX5 13 "MillTalk$Rows" "items" "[[I" ∈ wsX5_make := by unfold wsX5_make; exact List.mem_cons_of_mem _ (List.mem_append_left _ (List.mem_of_getElem? (i := 2) rfl))
