theorem fl2 {F g : Nat → Int32} {v : Int32} {i : Nat} (h : ∀ j : Nat, j < i → F j = v) (hi : i < 2 ^ 31) (e : upd F (nI i).toNatClampNeg v = g) : ∀ j : Nat, j < i + 1 → g j = v := by
  intro j hj
  rw [nI_clamp hi] at e
  rw [← e]
  unfold upd
  split
  · rfl
  · exact h j (by omega)
/-- so many places from x on in a row of L -/
noncomputable abbrev plc (L x y : Int32) : Prop := ¬ x < 0 ∧ ¬ y < 0 ∧ ¬ L - y < x
/-- a number as a lane keeps it -/
noncomputable def laneX (l v : Int32) : Int32 := if l = 0 then v.toInt8.toInt32 else if l = 1 then v.toInt16.toInt32 else v
noncomputable abbrev badr (a : Int32) : Prop := a < 0 ∨ 8 ≤ a
/-- the rows as both sides know them: lane (-1: none), length (none: 0) -/
noncomputable def abl (fl : Nat → Int32) : Nat → Int32 := fun j => if j < 8 then fl j else -1
noncomputable def abn (fl fe : Nat → Int32) : Nat → Int32 := fun j => if j < 8 ∧ ¬ fl j = -1 then fe j else 0
/-- so many rows are there -/
noncomputable def prR (R : Nat → Int32) : Nat → Int32
  | 0 => 0
  | i + 1 => prR R i + (if R i = -1 then 0 else 1)
theorem prR_c {h g : Nat → Int32} : ∀ n : Nat, (∀ i : Nat, i < n → (h i = -1 ↔ g i = -1)) → prR h n = prR g n
  | 0, _ => rfl
  | n + 1, e => by
    show prR h n + (if h n = -1 then 0 else 1) = prR g n + (if g n = -1 then 0 else 1)
    have h9 := e n (by omega)
    rw [prR_c n (fun i hi => e i (by omega))]
    by_cases q : h n = -1
    · rw [if_pos q, if_pos (h9.mp q)]
    · rw [if_neg q, if_neg (fun z => q (h9.mpr z))]
theorem prR_abl {fl : Nat → Int32} : prR (abl fl) 8 = prR fl 8 := prR_c 8 (fun i hi => by unfold abl; rw [if_pos hi])
noncomputable def mbl (fn fz : Nat → Int32) : Nat → Int32 := fun j => if j < 8 ∧ ¬ fz j = -1 then fn j else -1
noncomputable def mbn (fz : Nat → Int32) : Nat → Int32 := fun j => if j < 8 ∧ ¬ fz j = -1 then fz j else 0
noncomputable abbrev okr (a b n : Int32) : Prop := ¬ badr a ∧ ¬ (b < 0 ∨ 2 < b) ∧ n ≤ 40 ∧ 0 ≤ n
noncomputable def sr_l (R : Nat → Int32) (a b n : Int32) : Nat → Int32 := if okr a b n then upd R a.toNatClampNeg b else R
noncomputable def sr_n (R : Nat → Int32) (a b n : Int32) : Nat → Int32 := if okr a b n then upd R a.toNatClampNeg n else R
noncomputable def sd_l (R : Nat → Int32) (a : Int32) : Nat → Int32 := if badr a then R else upd R a.toNatClampNeg (-1)
noncomputable def sd_n (R : Nat → Int32) (a : Int32) : Nat → Int32 := if badr a then R else upd R a.toNatClampNeg 0
noncomputable def ar_set (Rl Rn : Nat → Int32) (a i v : Int32) : Int32 := if badr a then -1000001 else if Rl a.toNatClampNeg = -1 then -1000011 else if plc (Rn a.toNatClampNeg) i 1 then laneX (Rl a.toNatClampNeg) v else -1000012
noncomputable def ar_copy (Rl Rn : Nat → Int32) (a i b j n : Int32) : Int32 := if badr a ∨ badr b then -1000001 else if Rl a.toNatClampNeg = -1 ∨ Rl b.toNatClampNeg = -1 then -1000011 else if ¬ Rl a.toNatClampNeg = Rl b.toNatClampNeg then -1000015 else if plc (Rn a.toNatClampNeg) i n ∧ plc (Rn b.toNatClampNeg) j n then n else -1000012
noncomputable def ar_drop (Rl Rn : Nat → Int32) (a : Int32) : Int32 := if badr a then -1000001 else if Rl a.toNatClampNeg = -1 then -1000011 else Rn a.toNatClampNeg
theorem nI_nb {j : Nat} (h : j < 8) : ¬ badr (nI j) := by
  rintro (q | q)
  · exact nI_pos (by omega) q
  · exact nI_ge (a := j) (b := 8) h (by decide) q
noncomputable def apz (z : Nat) : Nat := if z < 120 then z + 1 else z
noncomputable def an_fd (z : Nat) (a : Int32) : Int32 := if a < 0 ∨ ¬ a ≤ 255 then -1000001 else if z = 120 then -1000003 else nI (z + 1)
noncomputable def sf_z (z : Nat) (a : Int32) : Nat := if a < 0 ∨ ¬ a ≤ 255 ∨ z = 120 then z else z + 1
theorem okr_ok {j n : Nat} {b : Int32} (hj : j < 8) (hb : ¬ (b < 0 ∨ 2 < b)) (hn : n ≤ 40) : okr (nI j) b (nI n) := ⟨nI_nb hj, hb, nI_le (b := 40) hn (by decide), nI_pos' (by omega)⟩
theorem sr_l_ok {R : Nat → Int32} {j n : Nat} {b : Int32} (hj : j < 8) (hb : ¬ (b < 0 ∨ 2 < b)) (hn : n ≤ 40) : sr_l R (nI j) b (nI n) = upd R j b := by
  unfold sr_l
  rw [if_pos (okr_ok hj hb hn), nI_clamp (by omega)]
theorem sr_n_ok {R : Nat → Int32} {j n : Nat} {b : Int32} (hj : j < 8) (hb : ¬ (b < 0 ∨ 2 < b)) (hn : n ≤ 40) : sr_n R (nI j) b (nI n) = upd R j (nI n) := by
  unfold sr_n
  rw [if_pos (okr_ok hj hb hn), nI_clamp (by omega)]
theorem abl_up {fl : Nat → Int32} {j : Nat} {b : Int32} (hj : j < 8) : abl (upd fl j b) = upd (abl fl) j b := by
  funext q
  unfold abl upd
  grind
theorem lane_n {b : Int32} (hb : ¬ (b < 0 ∨ 2 < b)) : ¬ b = -1 := fun q => hb (Or.inl (by rw [q]; decide))
theorem abn_up {fl fe : Nat → Int32} {j : Nat} {b n : Int32} (hj : j < 8) (hb : ¬ (b < 0 ∨ 2 < b)) : abn (upd fl j b) (upd fe j n) = upd (abn fl fe) j n := by
  have h1 := lane_n hb
  funext q
  unfold abn upd
  grind
theorem abl_at {fl : Nat → Int32} {j : Nat} (hj : j < 8) : abl fl (nI j).toNatClampNeg = fl j := by
  rw [nI_clamp (by omega)]
  unfold abl
  rw [if_pos hj]
theorem abn_at {fl fe : Nat → Int32} {j : Nat} (hj : j < 8) (h : ¬ fl j = -1) : abn fl fe (nI j).toNatClampNeg = fe j := by
  rw [nI_clamp (by omega)]
  unfold abn
  rw [if_pos ⟨hj, h⟩]
theorem ar_set_0 {Rl Rn : Nat → Int32} {a i v : Int32} (h : a < 0 ∨ 8 ≤ a) : ar_set Rl Rn a i v = -1000001 := if_pos h
theorem ar_set_1 {fl fe : Nat → Int32} {j : Nat} {i v : Int32} (hj : j < 8) (h : fl j = -1) : ar_set (abl fl) (abn fl fe) (nI j) i v = -1000010 - 1 := by
  unfold ar_set
  rw [if_neg (nI_nb hj), abl_at hj, if_pos h]
  decide
theorem ar_set_2 {fl fe : Nat → Int32} {j : Nat} {i v : Int32} (hj : j < 8) (h : ¬ fl j = -1) (h2 : ¬ plc (fe j) i 1) : ar_set (abl fl) (abn fl fe) (nI j) i v = -1000010 - 2 := by
  unfold ar_set
  rw [if_neg (nI_nb hj), abl_at hj, if_neg h, abn_at hj h, if_neg h2]
  decide
theorem ar_set_3 {fl fe : Nat → Int32} {j : Nat} {i v : Int32} (hj : j < 8) (h : ¬ fl j = -1) (h2 : plc (fe j) i 1) : ar_set (abl fl) (abn fl fe) (nI j) i v = laneX (fl j) v := by
  unfold ar_set
  rw [if_neg (nI_nb hj), abl_at hj, if_neg h, abn_at hj h, if_pos h2]
theorem ar_copy_0 {Rl Rn : Nat → Int32} {a i b j n : Int32} (h : badr a ∨ badr b) : ar_copy Rl Rn a i b j n = -1000001 := if_pos h
theorem ar_copy_1 {fl fe : Nat → Int32} {a b : Nat} {i j n : Int32} (ha : a < 8) (hb : b < 8) (h : fl a = -1 ∨ fl b = -1) : ar_copy (abl fl) (abn fl fe) (nI a) i (nI b) j n = -1000010 - 1 := by
  unfold ar_copy
  rw [if_neg (fun q => q.elim (nI_nb ha) (nI_nb hb)), abl_at ha, abl_at hb, if_pos h]
  decide
theorem ar_copy_2 {fl fe : Nat → Int32} {a b : Nat} {i j n : Int32} (ha : a < 8) (hb : b < 8) (h1 : ¬ fl a = -1) (h2 : ¬ fl b = -1) (h : ¬ fl a = fl b) : ar_copy (abl fl) (abn fl fe) (nI a) i (nI b) j n = -1000010 - 5 := by
  unfold ar_copy
  rw [if_neg (fun q => q.elim (nI_nb ha) (nI_nb hb)), abl_at ha, abl_at hb, if_neg (fun q => q.elim h1 h2), if_pos h]
  decide
theorem ar_copy_3 {fl fe : Nat → Int32} {a b : Nat} {i j n : Int32} (ha : a < 8) (hb : b < 8) (h1 : ¬ fl a = -1) (h2 : ¬ fl b = -1) (h : fl a = fl b) (h3 : ¬ plc (fe a) i n ∨ ¬ plc (fe b) j n) : ar_copy (abl fl) (abn fl fe) (nI a) i (nI b) j n = -1000010 - 2 := by
  unfold ar_copy
  rw [if_neg (fun q => q.elim (nI_nb ha) (nI_nb hb)), abl_at ha, abl_at hb, if_neg (fun q => q.elim h1 h2), if_neg (fun q => q h), abn_at ha h1, abn_at hb h2, if_neg (fun q => h3.elim (fun z => z q.1) (fun z => z q.2))]
  decide
theorem ar_copy_4 {fl fe : Nat → Int32} {a b : Nat} {i j n : Int32} (ha : a < 8) (hb : b < 8) (h1 : ¬ fl a = -1) (h2 : ¬ fl b = -1) (h : fl a = fl b) (h3 : plc (fe a) i n) (h4 : plc (fe b) j n) : ar_copy (abl fl) (abn fl fe) (nI a) i (nI b) j n = n := by
  unfold ar_copy
  rw [if_neg (fun q => q.elim (nI_nb ha) (nI_nb hb)), abl_at ha, abl_at hb, if_neg (fun q => q.elim h1 h2), if_neg (fun q => q h), abn_at ha h1, abn_at hb h2, if_pos ⟨h3, h4⟩]
theorem ar_drop_0 {Rl Rn : Nat → Int32} {a : Int32} (h : a < 0 ∨ 8 ≤ a) : ar_drop Rl Rn a = -1000001 := if_pos h
theorem ar_drop_1 {fl fe : Nat → Int32} {j : Nat} (hj : j < 8) (h : fl j = -1) : ar_drop (abl fl) (abn fl fe) (nI j) = -1000010 - 1 := by
  unfold ar_drop
  rw [if_neg (nI_nb hj), abl_at hj, if_pos h]
  decide
theorem ar_drop_2 {fl fe : Nat → Int32} {j : Nat} (hj : j < 8) (h : ¬ fl j = -1) : ar_drop (abl fl) (abn fl fe) (nI j) = fe j := by
  unfold ar_drop
  rw [if_neg (nI_nb hj), abl_at hj, if_neg h, abn_at hj h]
theorem sd_l_0 {R : Nat → Int32} {a : Int32} (h : a < 0 ∨ 8 ≤ a) : sd_l R a = R := if_pos h
theorem sd_n_0 {R : Nat → Int32} {a : Int32} (h : a < 0 ∨ 8 ≤ a) : sd_n R a = R := if_pos h
theorem sd_l_1 {fl : Nat → Int32} {j : Nat} (hj : j < 8) : abl (upd fl j (-1)) = sd_l (abl fl) (nI j) := by
  unfold sd_l
  rw [if_neg (nI_nb hj), nI_clamp (by omega)]
  exact abl_up hj
theorem sd_n_1 {fl fe : Nat → Int32} {j : Nat} (hj : j < 8) : abn (upd fl j (-1)) fe = sd_n (abn fl fe) (nI j) := by
  unfold sd_n
  rw [if_neg (nI_nb hj), nI_clamp (by omega)]
  funext q
  unfold abn upd
  grind
theorem sd_l_2 {fl : Nat → Int32} {j : Nat} (hj : j < 8) (h : fl j = -1) : abl fl = sd_l (abl fl) (nI j) := by
  unfold sd_l
  rw [if_neg (nI_nb hj), nI_clamp (by omega)]
  funext q
  unfold abl upd
  grind
theorem sd_n_2 {fl fe : Nat → Int32} {j : Nat} (hj : j < 8) (h : fl j = -1) : abn fl fe = sd_n (abn fl fe) (nI j) := by
  unfold sd_n
  rw [if_neg (nI_nb hj), nI_clamp (by omega)]
  funext q
  unfold abn upd
  grind
theorem plc_iff {q : Nat} {a n : Int32} (hq : q ≤ 40) : plc (nI q) a n ↔ 0 ≤ a.toInt ∧ 0 ≤ n.toInt ∧ a.toInt ≤ (q : Int) - n.toInt := by
  have e2 : (0 : Int32).toInt = 0 := rfl
  have hm := Int32.toInt_lt n
  unfold plc
  rw [Int32.lt_iff_toInt_lt, Int32.lt_iff_toInt_lt, Int32.lt_iff_toInt_lt, e2, Int32.toInt_sub, nI_toInt (by omega)]
  constructor
  · rintro ⟨h1, h2, h3⟩
    rw [Int.bmod_eq_of_le (by omega) (by omega)] at h3
    omega
  · rintro ⟨h1, h2, h3⟩
    refine ⟨by omega, by omega, ?_⟩
    rw [Int.bmod_eq_of_le (by omega) (by omega)]
    omega
theorem plc_i32 {q : Nat} {a v : Int32} (hq : q ≤ 40) (e : v = nI q - 1) : (¬ (a.toInt64 < 0 ∨ v.toInt64 < a.toInt64)) ↔ plc (nI q) a 1 := by
  have e1 : (1 : Int32).toInt = 1 := rfl
  have e2 : (0 : Int64).toInt = 0 := rfl
  have e3 : (nI q - 1).toInt = (q : Int) - 1 := pk_sub_toInt (a := q) (b := 1) (by omega) (by decide)
  rw [plc_iff hq, Int64.lt_iff_toInt_lt, Int64.lt_iff_toInt_lt, Int32.toInt_toInt64, Int32.toInt_toInt64, e, e1, e2, e3]
  omega
theorem plc_i64 {q : Nat} {a n : Int32} {v : Int64} (hq : q ≤ 40) (hn : ¬ n < 0) (e : v = (nI q).toInt64 - n.toInt64) : (¬ (a.toInt64 < 0 ∨ v < a.toInt64)) ↔ plc (nI q) a n := by
  have e0 : (0 : Int32).toInt = 0 := rfl
  have e2 : (0 : Int64).toInt = 0 := rfl
  have hm := Int32.toInt_lt n
  rw [Int32.lt_iff_toInt_lt, e0] at hn
  rw [plc_iff hq, Int64.lt_iff_toInt_lt, Int64.lt_iff_toInt_lt, Int32.toInt_toInt64, e, Int64.toInt_sub, Int32.toInt_toInt64, Int32.toInt_toInt64, e2, nI_toInt (by omega), Int.bmod_eq_of_le (by omega) (by omega)]
  omega
noncomputable def laneM (l v : Int32) : Int32 := if l = 0 then v <<< (24 &&& 31) >>> (24 &&& 31) else if l = 1 then v <<< (16 &&& 31) >>> (16 &&& 31) else v
theorem sh_8 (v : Int32) : v <<< (24 &&& 31) >>> (24 &&& 31) = v.toInt8.toInt32 := by
  apply Int32.toBitVec_inj.mp
  rw [show (24 &&& 31 : Int32) = 24 from rfl]
  apply BitVec.eq_of_getLsbD_eq
  intro i hi
  simp [Int32.toBitVec_shiftRight, Int32.toBitVec_shiftLeft, BitVec.getLsbD_sshiftRight, BitVec.getLsbD_signExtend, BitVec.msb_eq_getLsbD_last]
  grind
theorem sh_16 (v : Int32) : v <<< (16 &&& 31) >>> (16 &&& 31) = v.toInt16.toInt32 := by
  apply Int32.toBitVec_inj.mp
  rw [show (16 &&& 31 : Int32) = 16 from rfl]
  apply BitVec.eq_of_getLsbD_eq
  intro i hi
  simp [Int32.toBitVec_shiftRight, Int32.toBitVec_shiftLeft, BitVec.getLsbD_sshiftRight, BitVec.getLsbD_signExtend, BitVec.msb_eq_getLsbD_last]
  grind
theorem lane_eq (l v : Int32) : laneM l v = laneX l v := by
  unfold laneM laneX
  rw [sh_8, sh_16]
theorem bd_m {b : Int32} (h : ¬ (b.toInt64 < 0 ∨ 2 < b.toInt64)) : ¬ (b < 0 ∨ 2 < b) := fun q => h (lane64.mpr q)
theorem nI_m1 {n : Nat} (h : n ≤ 40) : ¬ nI n = -1 := fun q => nI_pos (n := n) (by omega) (by rw [q]; decide)
theorem mbl_up {fn fz : Nat → Int32} {j n : Nat} {b : Int32} (hj : j < 8) (hn : n ≤ 40) : mbl (upd fn j b) (upd fz j (nI n)) = upd (mbl fn fz) j b := by
  have h1 := nI_m1 hn
  funext q
  unfold mbl upd
  grind
theorem mbn_up {fz : Nat → Int32} {j n : Nat} (hj : j < 8) (hn : n ≤ 40) : mbn (upd fz j (nI n)) = upd (mbn fz) j (nI n) := by
  have h1 := nI_m1 hn
  funext q
  unfold mbn upd
  grind
theorem ln_up {fn fz : Nat → Int32} {i : Nat} {b n : Int32} (h : ∀ j : Nat, j < 8 → ¬ fz j = -1 → ¬ fn j = -1) (hb : ¬ (b < 0 ∨ 2 < b)) : ∀ j : Nat, j < 8 → ¬ upd fz i n j = -1 → ¬ upd fn i b j = -1 := by
  have h1 := lane_n hb
  intro j hj
  unfold upd
  grind
theorem ln_dn {fn fz : Nat → Int32} {i : Nat} (h : ∀ j : Nat, j < 8 → ¬ fz j = -1 → ¬ fn j = -1) : ∀ j : Nat, j < 8 → ¬ upd fz i (-1) j = -1 → ¬ fn j = -1 := by
  intro j hj
  unfold upd
  grind
theorem mbl_no {fn fz : Nat → Int32} {j : Nat} (hj : j < 8) (h : fz j = -1) : mbl fn fz (nI j).toNatClampNeg = -1 := by
  rw [nI_clamp (by omega)]
  unfold mbl
  grind
theorem mbl_at {fn fz : Nat → Int32} {j q : Nat} (hj : j < 8) (h : fz j = nI q) (hq : q ≤ 40) : mbl fn fz (nI j).toNatClampNeg = fn j := by
  have h1 := nI_m1 hq
  rw [nI_clamp (by omega)]
  unfold mbl
  grind
theorem mbn_at {fz : Nat → Int32} {j q : Nat} (hj : j < 8) (h : fz j = nI q) (hq : q ≤ 40) : mbn fz (nI j).toNatClampNeg = nI q := by
  have h1 := nI_m1 hq
  rw [nI_clamp (by omega)]
  unfold mbn
  grind
theorem mln {fn fz : Nat → Int32} {j q : Nat} (hL : ∀ j : Nat, j < 8 → ¬ fz j = -1 → ¬ fn j = -1) (hj : j < 8) (h : fz j = nI q) (hq : q ≤ 40) : ¬ fn j = -1 := hL j hj (by rw [h]; exact nI_m1 hq)
theorem am_set_1 {fn fz : Nat → Int32} {j : Nat} {i v : Int32} (hj : j < 8) (h : fz j = -1) : ar_set (mbl fn fz) (mbn fz) (nI j) i v = -1000010 - 1 := by
  unfold ar_set
  rw [if_neg (nI_nb hj), mbl_no hj h, if_pos rfl]
  decide
theorem am_set_2 {fn fz : Nat → Int32} {j q : Nat} {i v w : Int32} (hL : ∀ j : Nat, j < 8 → ¬ fz j = -1 → ¬ fn j = -1) (hj : j < 8) (h : fz j = nI q) (hq : q ≤ 40) (e : w = nI q - 1) (h2 : i.toInt64 < 0 ∨ w.toInt64 < i.toInt64) : ar_set (mbl fn fz) (mbn fz) (nI j) i v = -1000010 - 2 := by
  unfold ar_set
  rw [if_neg (nI_nb hj), mbl_at hj h hq, if_neg (mln hL hj h hq), mbn_at hj h hq, if_neg (fun q9 => (plc_i32 hq e).mpr q9 h2)]
  decide
theorem am_set_3 {fn fz g f : Nat → Int32} {j q k ix : Nat} {v w l r r2 r3 : Int32} (hL : ∀ j : Nat, j < 8 → ¬ fz j = -1 → ¬ fn j = -1) (hj : j < 8) (h : fz j = nI q) (hq : q ≤ 40) (e : w = nI q - 1) (h2 : ¬ ((nI k).toInt64 < 0 ∨ w.toInt64 < (nI k).toInt64)) (e1 : l = fn j) (e2 : r = laneM l v) (e3 : g = upd f ix r) (e4 : r2 = g ix) (e5 : r3 = r2) : r3 = ar_set (mbl fn fz) (mbn fz) (nI j) (nI k) v := by
  have h9 : r3 = laneX (fn j) v := by
    rw [e5, e4, e3]
    unfold upd
    rw [if_pos rfl, e2, lane_eq, e1]
  unfold ar_set
  rw [if_neg (nI_nb hj), mbl_at hj h hq, if_neg (mln hL hj h hq), mbn_at hj h hq, if_pos ((plc_i32 hq e).mp h2)]
  exact h9
theorem am_copy_1 {fn fz : Nat → Int32} {a b : Nat} {i j n : Int32} (ha : a < 8) (hb : b < 8) (h : fz a = -1 ∨ fz b = -1) : ar_copy (mbl fn fz) (mbn fz) (nI a) i (nI b) j n = -1000010 - 1 := by
  unfold ar_copy
  rw [if_neg (fun q => q.elim (nI_nb ha) (nI_nb hb)), if_pos (h.elim (fun z => Or.inl (mbl_no ha z)) (fun z => Or.inr (mbl_no hb z)))]
  decide
theorem am_copy_2 {fn fz : Nat → Int32} {a b p q : Nat} {i j n : Int32} (hL : ∀ j : Nat, j < 8 → ¬ fz j = -1 → ¬ fn j = -1) (ha : a < 8) (hb : b < 8) (h1 : fz a = nI p) (hp : p ≤ 40) (h2 : fz b = nI q) (hq : q ≤ 40) (h : ¬ fn a = fn b) : ar_copy (mbl fn fz) (mbn fz) (nI a) i (nI b) j n = -1000010 - 5 := by
  unfold ar_copy
  rw [if_neg (fun q => q.elim (nI_nb ha) (nI_nb hb)), mbl_at ha h1 hp, mbl_at hb h2 hq, if_neg (fun z => z.elim (mln hL ha h1 hp) (mln hL hb h2 hq)), if_pos h]
  decide
theorem am_copy_3 {fn fz : Nat → Int32} {a b p q : Nat} {i j n : Int32} (hL : ∀ j : Nat, j < 8 → ¬ fz j = -1 → ¬ fn j = -1) (ha : a < 8) (hb : b < 8) (h1 : fz a = nI p) (hp : p ≤ 40) (h2 : fz b = nI q) (hq : q ≤ 40) (h : fn a = fn b) (h3 : ¬ plc (nI p) i n ∨ ¬ plc (nI q) j n) : ar_copy (mbl fn fz) (mbn fz) (nI a) i (nI b) j n = -1000010 - 2 := by
  unfold ar_copy
  rw [if_neg (fun q => q.elim (nI_nb ha) (nI_nb hb)), mbl_at ha h1 hp, mbl_at hb h2 hq, if_neg (fun z => z.elim (mln hL ha h1 hp) (mln hL hb h2 hq)), if_neg (fun z => z h), mbn_at ha h1 hp, mbn_at hb h2 hq, if_neg (fun z => h3.elim (fun y => y z.1) (fun y => y z.2))]
  decide
theorem am_copy_4 {fn fz : Nat → Int32} {a b p q : Nat} {i j n : Int32} (hL : ∀ j : Nat, j < 8 → ¬ fz j = -1 → ¬ fn j = -1) (ha : a < 8) (hb : b < 8) (h1 : fz a = nI p) (hp : p ≤ 40) (h2 : fz b = nI q) (hq : q ≤ 40) (h : fn a = fn b) (h3 : plc (nI p) i n) (h4 : plc (nI q) j n) : ar_copy (mbl fn fz) (mbn fz) (nI a) i (nI b) j n = n := by
  unfold ar_copy
  rw [if_neg (fun q => q.elim (nI_nb ha) (nI_nb hb)), mbl_at ha h1 hp, mbl_at hb h2 hq, if_neg (fun z => z.elim (mln hL ha h1 hp) (mln hL hb h2 hq)), if_neg (fun z => z h), mbn_at ha h1 hp, mbn_at hb h2 hq, if_pos ⟨h3, h4⟩]
theorem am_drop_1 {fn fz : Nat → Int32} {j : Nat} (hj : j < 8) (h : fz j = -1) : ar_drop (mbl fn fz) (mbn fz) (nI j) = -1000010 - 1 := by
  unfold ar_drop
  rw [if_neg (nI_nb hj), mbl_no hj h, if_pos rfl]
  decide
theorem am_drop_2 {fn fz : Nat → Int32} {j q : Nat} (hL : ∀ j : Nat, j < 8 → ¬ fz j = -1 → ¬ fn j = -1) (hj : j < 8) (h : fz j = nI q) (hq : q ≤ 40) : ar_drop (mbl fn fz) (mbn fz) (nI j) = nI q := by
  unfold ar_drop
  rw [if_neg (nI_nb hj), mbl_at hj h hq, if_neg (mln hL hj h hq), mbn_at hj h hq]
theorem sm_l_1 {fn fz : Nat → Int32} {j : Nat} (hj : j < 8) : mbl fn (upd fz j (-1)) = sd_l (mbl fn fz) (nI j) := by
  unfold sd_l
  rw [if_neg (nI_nb hj), nI_clamp (by omega)]
  funext q
  unfold mbl upd
  grind
theorem sm_n_1 {fz : Nat → Int32} {j : Nat} (hj : j < 8) : mbn (upd fz j (-1)) = sd_n (mbn fz) (nI j) := by
  unfold sd_n
  rw [if_neg (nI_nb hj), nI_clamp (by omega)]
  funext q
  unfold mbn upd
  grind
theorem sm_l_2 {fn fz : Nat → Int32} {j : Nat} (hj : j < 8) (h : fz j = -1) : mbl fn fz = sd_l (mbl fn fz) (nI j) := by
  unfold sd_l
  rw [if_neg (nI_nb hj), nI_clamp (by omega)]
  funext q
  unfold mbl upd
  grind
theorem sm_n_2 {fz : Nat → Int32} {j : Nat} (hj : j < 8) (h : fz j = -1) : mbn fz = sd_n (mbn fz) (nI j) := by
  unfold sd_n
  rw [if_neg (nI_nb hj), nI_clamp (by omega)]
  funext q
  unfold mbn upd
  grind
theorem abl_0 {fl : Nat → Int32} (h : ∀ j : Nat, j < 8 → fl j = -1) : (fun _ => -1) = abl fl := by
  funext q
  unfold abl
  grind
theorem abn_0 {fl fe : Nat → Int32} (h : ∀ j : Nat, j < 8 → fl j = -1) : (fun _ => 0) = abn fl fe := by
  funext q
  unfold abn
  grind
theorem mbl_0 {fn fz : Nat → Int32} (h : ∀ j : Nat, j < 8 → fz j = -1) : (fun _ => -1) = mbl fn fz := by
  funext q
  unfold mbl
  grind
theorem mbn_0 {fz : Nat → Int32} (h : ∀ j : Nat, j < 8 → fz j = -1) : (fun _ => 0) = mbn fz := by
  funext q
  unfold mbn
  grind
/-! the items of the rows -/
noncomputable abbrev ITm := Nat → Nat → Int32
noncomputable def itX (a b c d e f g h : RF) : ITm := fun r i => if i < 40 then ([a, b, c, d, e, f, g, h].getD r (fun _ => 0)) i else 0
noncomputable def upI (I : ITm) (r : Nat) (G : RF) : ITm := fun q i => if q = r ∧ i < 40 then G i else I q i
noncomputable def cpI (F G : RF) (i j n : Nat) : RF := fun q => if j ≤ q ∧ q < j + n then F (i + (q - j)) else G q
theorem it_i {a b c d e f g h : RF} {r i : Nat} (hi : i < 40) : itX a b c d e f g h r i = [a, b, c, d, e, f, g, h].getD r (fun _ => 0) i := if_pos hi
theorem it_x {A B : ITm} {k : Nat} {G : RF} (h1 : ∀ i : Nat, i < 40 → A k i = G i) (h2 : ∀ q i : Nat, q ≠ k → A q i = B q i) (h3 : ∀ i : Nat, 40 ≤ i → A k i = B k i) : A = upI B k G := by
  funext q i
  unfold upI
  by_cases e : q = k
  · subst e
    by_cases l : i < 40
    · rw [if_pos ⟨rfl, l⟩]
      exact h1 i l
    · rw [if_neg (fun z => l z.2)]
      exact h3 i (by omega)
  · rw [if_neg (fun z => e z.1)]
    exact h2 q i e
theorem cp_one {F H f f2 : RF} {m n s i : Nat} (hi : i < 40) (hm : m + s ≤ 40) (hn : n + s ≤ 40) (e2 : ∀ i : Nat, i < 40 → F i = H i) (e3 : f i = f2 i) : va_cpy F f m n s i = cpI H f2 m n s i := by
  unfold cpI
  by_cases q : n ≤ i ∧ i < n + s
  · rw [if_pos q, pk_cpy_in q.1 q.2]
    exact e2 _ (by omega)
  · rw [if_neg q, pk_cpy_out (by omega)]
    exact e3
theorem it_s0 {a b c d e f g h x G : RF} (e1 : ∀ i : Nat, i < 40 → x i = G i) : itX x b c d e f g h = upI (itX a b c d e f g h) 0 G := by
  refine it_x (fun i hi => ?_) (fun q i hq => ?_) (fun i hi => ?_)
  · exact (it_i hi).trans (e1 i hi)
  · unfold itX
    match q, hq with
    | 0, hq => exact absurd rfl hq
    | 1, hq => rfl
    | 2, hq => rfl
    | 3, hq => rfl
    | 4, hq => rfl
    | 5, hq => rfl
    | 6, hq => rfl
    | 7, hq => rfl
    | n + 8, _ => rfl
  · exact (if_neg (by omega)).trans (if_neg (by omega)).symm
theorem it_u0 {a b c d e f g h x : RF} {k : Nat} {v y : Int32} (hk : k < 40) (e1 : x = upd a k v) (e2 : v = y) : itX x b c d e f g h = upI (itX a b c d e f g h) 0 (upd (itX a b c d e f g h 0) k y) :=
  it_s0 (fun i hi => by
    rw [e1, e2]
    unfold upd
    split
    · rfl
    · exact (if_pos hi).symm)
theorem it_m0 {a b c d e f g h x F H : RF} {m n s : Nat} (hm : m + s ≤ 40) (hn : n + s ≤ 40) (e1 : x = va_cpy F a (nI m).toNatClampNeg (nI n).toNatClampNeg (nI s).toNatClampNeg) (e2 : ∀ i : Nat, i < 40 → F i = H i) : itX x b c d e f g h = upI (itX a b c d e f g h) 0 (cpI H (itX a b c d e f g h 0) m n s) :=
  it_s0 (fun i hi => by
    rw [e1, nI_clamp (by omega), nI_clamp (by omega), nI_clamp (by omega)]
    exact cp_one hi hm hn e2 (if_pos hi).symm)
theorem it_s1 {a b c d e f g h x G : RF} (e1 : ∀ i : Nat, i < 40 → x i = G i) : itX a x c d e f g h = upI (itX a b c d e f g h) 1 G := by
  refine it_x (fun i hi => ?_) (fun q i hq => ?_) (fun i hi => ?_)
  · exact (it_i hi).trans (e1 i hi)
  · unfold itX
    match q, hq with
    | 0, hq => rfl
    | 1, hq => exact absurd rfl hq
    | 2, hq => rfl
    | 3, hq => rfl
    | 4, hq => rfl
    | 5, hq => rfl
    | 6, hq => rfl
    | 7, hq => rfl
    | n + 8, _ => rfl
  · exact (if_neg (by omega)).trans (if_neg (by omega)).symm
theorem it_u1 {a b c d e f g h x : RF} {k : Nat} {v y : Int32} (hk : k < 40) (e1 : x = upd b k v) (e2 : v = y) : itX a x c d e f g h = upI (itX a b c d e f g h) 1 (upd (itX a b c d e f g h 1) k y) :=
  it_s1 (fun i hi => by
    rw [e1, e2]
    unfold upd
    split
    · rfl
    · exact (if_pos hi).symm)
theorem it_m1 {a b c d e f g h x F H : RF} {m n s : Nat} (hm : m + s ≤ 40) (hn : n + s ≤ 40) (e1 : x = va_cpy F b (nI m).toNatClampNeg (nI n).toNatClampNeg (nI s).toNatClampNeg) (e2 : ∀ i : Nat, i < 40 → F i = H i) : itX a x c d e f g h = upI (itX a b c d e f g h) 1 (cpI H (itX a b c d e f g h 1) m n s) :=
  it_s1 (fun i hi => by
    rw [e1, nI_clamp (by omega), nI_clamp (by omega), nI_clamp (by omega)]
    exact cp_one hi hm hn e2 (if_pos hi).symm)
theorem it_s2 {a b c d e f g h x G : RF} (e1 : ∀ i : Nat, i < 40 → x i = G i) : itX a b x d e f g h = upI (itX a b c d e f g h) 2 G := by
  refine it_x (fun i hi => ?_) (fun q i hq => ?_) (fun i hi => ?_)
  · exact (it_i hi).trans (e1 i hi)
  · unfold itX
    match q, hq with
    | 0, hq => rfl
    | 1, hq => rfl
    | 2, hq => exact absurd rfl hq
    | 3, hq => rfl
    | 4, hq => rfl
    | 5, hq => rfl
    | 6, hq => rfl
    | 7, hq => rfl
    | n + 8, _ => rfl
  · exact (if_neg (by omega)).trans (if_neg (by omega)).symm
theorem it_u2 {a b c d e f g h x : RF} {k : Nat} {v y : Int32} (hk : k < 40) (e1 : x = upd c k v) (e2 : v = y) : itX a b x d e f g h = upI (itX a b c d e f g h) 2 (upd (itX a b c d e f g h 2) k y) :=
  it_s2 (fun i hi => by
    rw [e1, e2]
    unfold upd
    split
    · rfl
    · exact (if_pos hi).symm)
theorem it_m2 {a b c d e f g h x F H : RF} {m n s : Nat} (hm : m + s ≤ 40) (hn : n + s ≤ 40) (e1 : x = va_cpy F c (nI m).toNatClampNeg (nI n).toNatClampNeg (nI s).toNatClampNeg) (e2 : ∀ i : Nat, i < 40 → F i = H i) : itX a b x d e f g h = upI (itX a b c d e f g h) 2 (cpI H (itX a b c d e f g h 2) m n s) :=
  it_s2 (fun i hi => by
    rw [e1, nI_clamp (by omega), nI_clamp (by omega), nI_clamp (by omega)]
    exact cp_one hi hm hn e2 (if_pos hi).symm)
theorem it_s3 {a b c d e f g h x G : RF} (e1 : ∀ i : Nat, i < 40 → x i = G i) : itX a b c x e f g h = upI (itX a b c d e f g h) 3 G := by
  refine it_x (fun i hi => ?_) (fun q i hq => ?_) (fun i hi => ?_)
  · exact (it_i hi).trans (e1 i hi)
  · unfold itX
    match q, hq with
    | 0, hq => rfl
    | 1, hq => rfl
    | 2, hq => rfl
    | 3, hq => exact absurd rfl hq
    | 4, hq => rfl
    | 5, hq => rfl
    | 6, hq => rfl
    | 7, hq => rfl
    | n + 8, _ => rfl
  · exact (if_neg (by omega)).trans (if_neg (by omega)).symm
theorem it_u3 {a b c d e f g h x : RF} {k : Nat} {v y : Int32} (hk : k < 40) (e1 : x = upd d k v) (e2 : v = y) : itX a b c x e f g h = upI (itX a b c d e f g h) 3 (upd (itX a b c d e f g h 3) k y) :=
  it_s3 (fun i hi => by
    rw [e1, e2]
    unfold upd
    split
    · rfl
    · exact (if_pos hi).symm)
theorem it_m3 {a b c d e f g h x F H : RF} {m n s : Nat} (hm : m + s ≤ 40) (hn : n + s ≤ 40) (e1 : x = va_cpy F d (nI m).toNatClampNeg (nI n).toNatClampNeg (nI s).toNatClampNeg) (e2 : ∀ i : Nat, i < 40 → F i = H i) : itX a b c x e f g h = upI (itX a b c d e f g h) 3 (cpI H (itX a b c d e f g h 3) m n s) :=
  it_s3 (fun i hi => by
    rw [e1, nI_clamp (by omega), nI_clamp (by omega), nI_clamp (by omega)]
    exact cp_one hi hm hn e2 (if_pos hi).symm)
theorem it_s4 {a b c d e f g h x G : RF} (e1 : ∀ i : Nat, i < 40 → x i = G i) : itX a b c d x f g h = upI (itX a b c d e f g h) 4 G := by
  refine it_x (fun i hi => ?_) (fun q i hq => ?_) (fun i hi => ?_)
  · exact (it_i hi).trans (e1 i hi)
  · unfold itX
    match q, hq with
    | 0, hq => rfl
    | 1, hq => rfl
    | 2, hq => rfl
    | 3, hq => rfl
    | 4, hq => exact absurd rfl hq
    | 5, hq => rfl
    | 6, hq => rfl
    | 7, hq => rfl
    | n + 8, _ => rfl
  · exact (if_neg (by omega)).trans (if_neg (by omega)).symm
theorem it_u4 {a b c d e f g h x : RF} {k : Nat} {v y : Int32} (hk : k < 40) (e1 : x = upd e k v) (e2 : v = y) : itX a b c d x f g h = upI (itX a b c d e f g h) 4 (upd (itX a b c d e f g h 4) k y) :=
  it_s4 (fun i hi => by
    rw [e1, e2]
    unfold upd
    split
    · rfl
    · exact (if_pos hi).symm)
theorem it_m4 {a b c d e f g h x F H : RF} {m n s : Nat} (hm : m + s ≤ 40) (hn : n + s ≤ 40) (e1 : x = va_cpy F e (nI m).toNatClampNeg (nI n).toNatClampNeg (nI s).toNatClampNeg) (e2 : ∀ i : Nat, i < 40 → F i = H i) : itX a b c d x f g h = upI (itX a b c d e f g h) 4 (cpI H (itX a b c d e f g h 4) m n s) :=
  it_s4 (fun i hi => by
    rw [e1, nI_clamp (by omega), nI_clamp (by omega), nI_clamp (by omega)]
    exact cp_one hi hm hn e2 (if_pos hi).symm)
theorem it_s5 {a b c d e f g h x G : RF} (e1 : ∀ i : Nat, i < 40 → x i = G i) : itX a b c d e x g h = upI (itX a b c d e f g h) 5 G := by
  refine it_x (fun i hi => ?_) (fun q i hq => ?_) (fun i hi => ?_)
  · exact (it_i hi).trans (e1 i hi)
  · unfold itX
    match q, hq with
    | 0, hq => rfl
    | 1, hq => rfl
    | 2, hq => rfl
    | 3, hq => rfl
    | 4, hq => rfl
    | 5, hq => exact absurd rfl hq
    | 6, hq => rfl
    | 7, hq => rfl
    | n + 8, _ => rfl
  · exact (if_neg (by omega)).trans (if_neg (by omega)).symm
theorem it_u5 {a b c d e f g h x : RF} {k : Nat} {v y : Int32} (hk : k < 40) (e1 : x = upd f k v) (e2 : v = y) : itX a b c d e x g h = upI (itX a b c d e f g h) 5 (upd (itX a b c d e f g h 5) k y) :=
  it_s5 (fun i hi => by
    rw [e1, e2]
    unfold upd
    split
    · rfl
    · exact (if_pos hi).symm)
theorem it_m5 {a b c d e f g h x F H : RF} {m n s : Nat} (hm : m + s ≤ 40) (hn : n + s ≤ 40) (e1 : x = va_cpy F f (nI m).toNatClampNeg (nI n).toNatClampNeg (nI s).toNatClampNeg) (e2 : ∀ i : Nat, i < 40 → F i = H i) : itX a b c d e x g h = upI (itX a b c d e f g h) 5 (cpI H (itX a b c d e f g h 5) m n s) :=
  it_s5 (fun i hi => by
    rw [e1, nI_clamp (by omega), nI_clamp (by omega), nI_clamp (by omega)]
    exact cp_one hi hm hn e2 (if_pos hi).symm)
theorem it_s6 {a b c d e f g h x G : RF} (e1 : ∀ i : Nat, i < 40 → x i = G i) : itX a b c d e f x h = upI (itX a b c d e f g h) 6 G := by
  refine it_x (fun i hi => ?_) (fun q i hq => ?_) (fun i hi => ?_)
  · exact (it_i hi).trans (e1 i hi)
  · unfold itX
    match q, hq with
    | 0, hq => rfl
    | 1, hq => rfl
    | 2, hq => rfl
    | 3, hq => rfl
    | 4, hq => rfl
    | 5, hq => rfl
    | 6, hq => exact absurd rfl hq
    | 7, hq => rfl
    | n + 8, _ => rfl
  · exact (if_neg (by omega)).trans (if_neg (by omega)).symm
theorem it_u6 {a b c d e f g h x : RF} {k : Nat} {v y : Int32} (hk : k < 40) (e1 : x = upd g k v) (e2 : v = y) : itX a b c d e f x h = upI (itX a b c d e f g h) 6 (upd (itX a b c d e f g h 6) k y) :=
  it_s6 (fun i hi => by
    rw [e1, e2]
    unfold upd
    split
    · rfl
    · exact (if_pos hi).symm)
theorem it_m6 {a b c d e f g h x F H : RF} {m n s : Nat} (hm : m + s ≤ 40) (hn : n + s ≤ 40) (e1 : x = va_cpy F g (nI m).toNatClampNeg (nI n).toNatClampNeg (nI s).toNatClampNeg) (e2 : ∀ i : Nat, i < 40 → F i = H i) : itX a b c d e f x h = upI (itX a b c d e f g h) 6 (cpI H (itX a b c d e f g h 6) m n s) :=
  it_s6 (fun i hi => by
    rw [e1, nI_clamp (by omega), nI_clamp (by omega), nI_clamp (by omega)]
    exact cp_one hi hm hn e2 (if_pos hi).symm)
theorem it_s7 {a b c d e f g h x G : RF} (e1 : ∀ i : Nat, i < 40 → x i = G i) : itX a b c d e f g x = upI (itX a b c d e f g h) 7 G := by
  refine it_x (fun i hi => ?_) (fun q i hq => ?_) (fun i hi => ?_)
  · exact (it_i hi).trans (e1 i hi)
  · unfold itX
    match q, hq with
    | 0, hq => rfl
    | 1, hq => rfl
    | 2, hq => rfl
    | 3, hq => rfl
    | 4, hq => rfl
    | 5, hq => rfl
    | 6, hq => rfl
    | 7, hq => exact absurd rfl hq
    | n + 8, _ => rfl
  · exact (if_neg (by omega)).trans (if_neg (by omega)).symm
theorem it_u7 {a b c d e f g h x : RF} {k : Nat} {v y : Int32} (hk : k < 40) (e1 : x = upd h k v) (e2 : v = y) : itX a b c d e f g x = upI (itX a b c d e f g h) 7 (upd (itX a b c d e f g h 7) k y) :=
  it_s7 (fun i hi => by
    rw [e1, e2]
    unfold upd
    split
    · rfl
    · exact (if_pos hi).symm)
theorem it_m7 {a b c d e f g h x F H : RF} {m n s : Nat} (hm : m + s ≤ 40) (hn : n + s ≤ 40) (e1 : x = va_cpy F h (nI m).toNatClampNeg (nI n).toNatClampNeg (nI s).toNatClampNeg) (e2 : ∀ i : Nat, i < 40 → F i = H i) : itX a b c d e f g x = upI (itX a b c d e f g h) 7 (cpI H (itX a b c d e f g h 7) m n s) :=
  it_s7 (fun i hi => by
    rw [e1, nI_clamp (by omega), nI_clamp (by omega), nI_clamp (by omega)]
    exact cp_one hi hm hn e2 (if_pos hi).symm)
/-! the items behind a call; findings -/
noncomputable def n_itr (I : ITm) (a b n : Int32) : ITm := if okr a b n then upI I a.toNatClampNeg (fun _ => 0) else I
noncomputable abbrev gd_set (Rl Rn : RF) (a i : Int32) : Prop := ¬ badr a ∧ ¬ Rl a.toNatClampNeg = -1 ∧ plc (Rn a.toNatClampNeg) i 1
noncomputable def n_its (Rl Rn : RF) (I : ITm) (a i v : Int32) : ITm := if gd_set Rl Rn a i then upI I a.toNatClampNeg (upd (I a.toNatClampNeg) i.toNatClampNeg (laneX (Rl a.toNatClampNeg) v)) else I
noncomputable abbrev gd_cpy (Rl Rn : RF) (a i b j n : Int32) : Prop := ¬ (badr a ∨ badr b) ∧ ¬ (Rl a.toNatClampNeg = -1 ∨ Rl b.toNatClampNeg = -1) ∧ Rl a.toNatClampNeg = Rl b.toNatClampNeg ∧ plc (Rn a.toNatClampNeg) i n ∧ plc (Rn b.toNatClampNeg) j n
noncomputable def n_itc (Rl Rn : RF) (I : ITm) (a i b j n : Int32) : ITm := if gd_cpy Rl Rn a i b j n then upI I b.toNatClampNeg (cpI (I a.toNatClampNeg) (I b.toNatClampNeg) i.toNatClampNeg j.toNatClampNeg n.toNatClampNeg) else I
noncomputable def f_set (Rl Rn : RF) (a i sg : Int32) : Int32 := if badr a then sg else if Rl a.toNatClampNeg = -1 then 1 else if plc (Rn a.toNatClampNeg) i 1 then 0 else 2
noncomputable def f_copy (Rl Rn : RF) (a i b j n sg : Int32) : Int32 := if badr a ∨ badr b then sg else if Rl a.toNatClampNeg = -1 ∨ Rl b.toNatClampNeg = -1 then 1 else if ¬ Rl a.toNatClampNeg = Rl b.toNatClampNeg then 5 else if plc (Rn a.toNatClampNeg) i n ∧ plc (Rn b.toNatClampNeg) j n then 0 else 2
noncomputable def f_drop (Rl : RF) (a sg : Int32) : Int32 := if badr a then sg else if Rl a.toNatClampNeg = -1 then 1 else 0
theorem itr_n {I : ITm} {a b n : Int32} (h : ¬ okr a b n) : n_itr I a b n = I := if_neg h
theorem itr_y {I : ITm} {j n : Nat} {b : Int32} (hj : j < 8) (hb : ¬ (b < 0 ∨ 2 < b)) (hn : n ≤ 40) : n_itr I (nI j) b (nI n) = upI I j (fun _ => 0) := by
  unfold n_itr
  rw [if_pos (okr_ok hj hb hn), nI_clamp (by omega)]
section FS
variable {Rl Rn : RF} {I : ITm} {a i b j n v sg : Int32} {p q : Nat}
theorem its_0 (h : badr a) : n_its Rl Rn I a i v = I := if_neg (fun z => z.1 h)
theorem its_1 (hp : p < 8) (h : Rl p = -1) : n_its Rl Rn I (nI p) i v = I := if_neg (fun z => z.2.1 (by rw [nI_clamp (by omega)]; exact h))
theorem its_2 (hp : p < 8) (h : ¬ plc (Rn p) i 1) : n_its Rl Rn I (nI p) i v = I := if_neg (fun z => h (by have y := z.2.2; rw [nI_clamp (by omega)] at y; exact y))
theorem its_3 {k : Nat} (hp : p < 8) (h : ¬ Rl p = -1) (h2 : plc (Rn p) (nI k) 1) (hk : k < 100) : n_its Rl Rn I (nI p) (nI k) v = upI I p (upd (I p) k (laneX (Rl p) v)) := by
  have e1 : (nI p).toNatClampNeg = p := nI_clamp (by omega)
  have e2 : (nI k).toNatClampNeg = k := nI_clamp (by omega)
  have g : gd_set Rl Rn (nI p) (nI k) := ⟨nI_nb hp, by rw [e1]; exact h, by rw [e1]; exact h2⟩
  unfold n_its
  rw [if_pos g, e1, e2]
theorem fs_0 (h : badr a) : f_set Rl Rn a i sg = sg := if_pos h
theorem fs_1 (hp : p < 8) (h : Rl p = -1) : f_set Rl Rn (nI p) i sg = 1 := by
  have e1 : (nI p).toNatClampNeg = p := nI_clamp (by omega)
  unfold f_set
  rw [if_neg (nI_nb hp), e1, if_pos h]
theorem fs_2 (hp : p < 8) (h : ¬ Rl p = -1) (h2 : ¬ plc (Rn p) i 1) : f_set Rl Rn (nI p) i sg = 2 := by
  have e1 : (nI p).toNatClampNeg = p := nI_clamp (by omega)
  unfold f_set
  rw [if_neg (nI_nb hp), e1, if_neg h, if_neg h2]
theorem fs_3 (hp : p < 8) (h : ¬ Rl p = -1) (h2 : plc (Rn p) i 1) : f_set Rl Rn (nI p) i sg = 0 := by
  have e1 : (nI p).toNatClampNeg = p := nI_clamp (by omega)
  unfold f_set
  rw [if_neg (nI_nb hp), e1, if_neg h, if_pos h2]
theorem itc_0 (h : badr a ∨ badr b) : n_itc Rl Rn I a i b j n = I := if_neg (fun z => z.1 h)
theorem itc_n (hp : p < 8) (hq : q < 8) (h : (Rl p = -1 ∨ Rl q = -1) ∨ ¬ Rl p = Rl q ∨ ¬ plc (Rn p) i n ∨ ¬ plc (Rn q) j n) : n_itc Rl Rn I (nI p) i (nI q) j n = I := by
  have e1 : (nI p).toNatClampNeg = p := nI_clamp (by omega)
  have e2 : (nI q).toNatClampNeg = q := nI_clamp (by omega)
  refine if_neg (fun z => ?_)
  obtain ⟨-, z2, z3, z4, z5⟩ := z
  rw [e1, e2] at z2 z3
  rw [e1] at z4
  rw [e2] at z5
  rcases h with h | h | h | h
  · exact z2 h
  · exact h z3
  · exact h z4
  · exact h z5
theorem itc_y {x y m : Nat} (hp : p < 8) (hq : q < 8) (h1 : ¬ Rl p = -1) (h2 : ¬ Rl q = -1) (h3 : Rl p = Rl q) (h4 : plc (Rn p) (nI x) (nI m)) (h5 : plc (Rn q) (nI y) (nI m)) (hx : x < 100) (hy : y < 100) (hm : m < 100) : n_itc Rl Rn I (nI p) (nI x) (nI q) (nI y) (nI m) = upI I q (cpI (I p) (I q) x y m) := by
  have e1 : (nI p).toNatClampNeg = p := nI_clamp (by omega)
  have e2 : (nI q).toNatClampNeg = q := nI_clamp (by omega)
  have e3 : (nI x).toNatClampNeg = x := nI_clamp (by omega)
  have e4 : (nI y).toNatClampNeg = y := nI_clamp (by omega)
  have e5 : (nI m).toNatClampNeg = m := nI_clamp (by omega)
  have g : gd_cpy Rl Rn (nI p) (nI x) (nI q) (nI y) (nI m) := ⟨fun z => z.elim (nI_nb hp) (nI_nb hq), by rw [e1, e2]; exact fun z => z.elim h1 h2, by rw [e1, e2]; exact h3, by rw [e1]; exact h4, by rw [e2]; exact h5⟩
  unfold n_itc
  rw [if_pos g, e1, e2, e3, e4, e5]
theorem fc_0 (h : badr a ∨ badr b) : f_copy Rl Rn a i b j n sg = sg := if_pos h
theorem fc_u (hp : p < 8) (hq : q < 8) : f_copy Rl Rn (nI p) i (nI q) j n sg = if Rl p = -1 ∨ Rl q = -1 then 1 else if ¬ Rl p = Rl q then 5 else if plc (Rn p) i n ∧ plc (Rn q) j n then 0 else 2 := by
  have e1 : (nI p).toNatClampNeg = p := nI_clamp (by omega)
  have e2 : (nI q).toNatClampNeg = q := nI_clamp (by omega)
  unfold f_copy
  rw [if_neg (fun z => z.elim (nI_nb hp) (nI_nb hq)), e1, e2]
theorem fc_1 (hp : p < 8) (hq : q < 8) (h : Rl p = -1 ∨ Rl q = -1) : f_copy Rl Rn (nI p) i (nI q) j n sg = 1 := by
  rw [fc_u hp hq, if_pos h]
theorem fc_2 (hp : p < 8) (hq : q < 8) (h1 : ¬ Rl p = -1) (h2 : ¬ Rl q = -1) (h : ¬ Rl p = Rl q) : f_copy Rl Rn (nI p) i (nI q) j n sg = 5 := by
  rw [fc_u hp hq, if_neg (fun z => z.elim h1 h2), if_pos h]
theorem fc_3 (hp : p < 8) (hq : q < 8) (h1 : ¬ Rl p = -1) (h2 : ¬ Rl q = -1) (h : Rl p = Rl q) (h3 : ¬ plc (Rn p) i n ∨ ¬ plc (Rn q) j n) : f_copy Rl Rn (nI p) i (nI q) j n sg = 2 := by
  rw [fc_u hp hq, if_neg (fun z => z.elim h1 h2), if_neg (fun z => z h), if_neg (fun z => h3.elim (fun y => y z.1) (fun y => y z.2))]
theorem fc_4 (hp : p < 8) (hq : q < 8) (h1 : ¬ Rl p = -1) (h2 : ¬ Rl q = -1) (h : Rl p = Rl q) (h3 : plc (Rn p) i n) (h4 : plc (Rn q) j n) : f_copy Rl Rn (nI p) i (nI q) j n sg = 0 := by
  rw [fc_u hp hq, if_neg (fun z => z.elim h1 h2), if_neg (fun z => z h), if_pos ⟨h3, h4⟩]
theorem fd_0 (h : badr a) : f_drop Rl a sg = sg := if_pos h
theorem fd_1 (hp : p < 8) (h : Rl p = -1) : f_drop Rl (nI p) sg = 1 := by
  have e1 : (nI p).toNatClampNeg = p := nI_clamp (by omega)
  unfold f_drop
  rw [if_neg (nI_nb hp), e1, if_pos h]
theorem fd_2 (hp : p < 8) (h : ¬ Rl p = -1) : f_drop Rl (nI p) sg = 0 := by
  have e1 : (nI p).toNatClampNeg = p := nI_clamp (by omega)
  unfold f_drop
  rw [if_neg (nI_nb hp), e1, if_neg h]
end FS
/-- the class's rows, the other side's: as both know them -/
theorem al_ {fl : RF} {p : Nat} (hp : p < 8) : abl fl p = fl p := if_pos hp
theorem an_ {fl fe : RF} {p : Nat} (hp : p < 8) (h : ¬ fl p = -1) : abn fl fe p = fe p := if_pos ⟨hp, h⟩
theorem ml_ {fn fz : RF} {p q : Nat} (hp : p < 8) (h : fz p = nI q) (hq : q ≤ 40) : mbl fn fz p = fn p := if_pos ⟨hp, by rw [h]; exact nI_m1 hq⟩
theorem ml_n {fn fz : RF} {p : Nat} (h : fz p = -1) : mbl fn fz p = -1 := if_neg (fun z => z.2 h)
theorem mn_ {fz : RF} {p q : Nat} (hp : p < 8) (h : fz p = nI q) (hq : q ≤ 40) : mbn fz p = nI q := (if_pos ⟨hp, by rw [h]; exact nI_m1 hq⟩).trans h
section XS
variable {fl fe : RF} {I J : ITm} {p q k x y m : Nat} {i j n v sg o : Int32}
theorem xs_0 {a : Int32} (h : badr a) : sg = f_set (abl fl) (abn fl fe) a i sg := (fs_0 h).symm
theorem xs_1 (hp : p < 8) (h : fl p = -1) (e : o = 1) : o = f_set (abl fl) (abn fl fe) (nI p) i sg := e.trans (fs_1 hp ((al_ hp).trans h)).symm
theorem xs_2 (hp : p < 8) (h : ¬ fl p = -1) (h2 : ¬ plc (fe p) i 1) (e : o = 2) : o = f_set (abl fl) (abn fl fe) (nI p) i sg := e.trans (fs_2 hp (by rw [al_ hp]; exact h) (by rw [an_ hp h]; exact h2)).symm
theorem xs_3 (hp : p < 8) (h : ¬ fl p = -1) (h2 : plc (fe p) i 1) (e : o = 0) : o = f_set (abl fl) (abn fl fe) (nI p) i sg := e.trans (fs_3 hp (by rw [al_ hp]; exact h) (by rw [an_ hp h]; exact h2)).symm
theorem xi_0 {a : Int32} (h : badr a) : I = n_its (abl fl) (abn fl fe) I a i v := (its_0 h).symm
theorem xi_1 (hp : p < 8) (h : fl p = -1) : I = n_its (abl fl) (abn fl fe) I (nI p) i v := (its_1 hp ((al_ hp).trans h)).symm
theorem xi_2 (hp : p < 8) (h : ¬ fl p = -1) (h2 : ¬ plc (fe p) i 1) : I = n_its (abl fl) (abn fl fe) I (nI p) i v := (its_2 hp (by rw [an_ hp h]; exact h2)).symm
theorem xi_3 (hp : p < 8) (h : ¬ fl p = -1) (h2 : plc (fe p) (nI k) 1) (hk : k < 100) (e : J = upI I p (upd (I p) k (laneX (fl p) v))) : J = n_its (abl fl) (abn fl fe) I (nI p) (nI k) v := by
  rw [its_3 hp (by rw [al_ hp]; exact h) (by rw [an_ hp h]; exact h2) hk, al_ hp]
  exact e
theorem xc_0 {a b : Int32} (h : badr a ∨ badr b) : sg = f_copy (abl fl) (abn fl fe) a i b j n sg := (fc_0 h).symm
theorem xc_1 (hp : p < 8) (hq : q < 8) (h : fl p = -1 ∨ fl q = -1) (e : o = 1) : o = f_copy (abl fl) (abn fl fe) (nI p) i (nI q) j n sg := e.trans (fc_1 hp hq (by rw [al_ hp, al_ hq]; exact h)).symm
theorem xc_2 (hp : p < 8) (hq : q < 8) (h1 : ¬ fl p = -1) (h2 : ¬ fl q = -1) (h : ¬ fl p = fl q) (e : o = 5) : o = f_copy (abl fl) (abn fl fe) (nI p) i (nI q) j n sg := e.trans (fc_2 hp hq (by rw [al_ hp]; exact h1) (by rw [al_ hq]; exact h2) (by rw [al_ hp, al_ hq]; exact h)).symm
theorem xc_3 (hp : p < 8) (hq : q < 8) (h1 : ¬ fl p = -1) (h2 : ¬ fl q = -1) (h : fl p = fl q) (h3 : ¬ plc (fe p) i n ∨ ¬ plc (fe q) j n) (e : o = 2) : o = f_copy (abl fl) (abn fl fe) (nI p) i (nI q) j n sg := e.trans (fc_3 hp hq (by rw [al_ hp]; exact h1) (by rw [al_ hq]; exact h2) (by rw [al_ hp, al_ hq]; exact h) (by rw [an_ hp h1, an_ hq h2]; exact h3)).symm
theorem xc_4 (hp : p < 8) (hq : q < 8) (h1 : ¬ fl p = -1) (h2 : ¬ fl q = -1) (h : fl p = fl q) (h3 : plc (fe p) i n) (h4 : plc (fe q) j n) (e : o = 0) : o = f_copy (abl fl) (abn fl fe) (nI p) i (nI q) j n sg := e.trans (fc_4 hp hq (by rw [al_ hp]; exact h1) (by rw [al_ hq]; exact h2) (by rw [al_ hp, al_ hq]; exact h) (by rw [an_ hp h1]; exact h3) (by rw [an_ hq h2]; exact h4)).symm
theorem xj_0 {a b : Int32} (h : badr a ∨ badr b) : I = n_itc (abl fl) (abn fl fe) I a i b j n := (itc_0 h).symm
theorem xj_1 (hp : p < 8) (hq : q < 8) (h : fl p = -1 ∨ fl q = -1) : I = n_itc (abl fl) (abn fl fe) I (nI p) i (nI q) j n := (itc_n hp hq (Or.inl (by rw [al_ hp, al_ hq]; exact h))).symm
theorem xj_2 (hp : p < 8) (hq : q < 8) (h : ¬ fl p = fl q) : I = n_itc (abl fl) (abn fl fe) I (nI p) i (nI q) j n := (itc_n hp hq (Or.inr (Or.inl (by rw [al_ hp, al_ hq]; exact h)))).symm
theorem xj_3 (hp : p < 8) (hq : q < 8) (h1 : ¬ fl p = -1) (h2 : ¬ fl q = -1) (h3 : ¬ plc (fe p) i n ∨ ¬ plc (fe q) j n) : I = n_itc (abl fl) (abn fl fe) I (nI p) i (nI q) j n := (itc_n hp hq (Or.inr (Or.inr (by rw [an_ hp h1, an_ hq h2]; exact h3)))).symm
theorem xj_4 (hp : p < 8) (hq : q < 8) (h1 : ¬ fl p = -1) (h2 : ¬ fl q = -1) (h : fl p = fl q) (h3 : plc (fe p) (nI x) (nI m)) (h4 : plc (fe q) (nI y) (nI m)) (hx : x < 100) (hy : y < 100) (hm : m < 100) (e : J = upI I q (cpI (I p) (I q) x y m)) : J = n_itc (abl fl) (abn fl fe) I (nI p) (nI x) (nI q) (nI y) (nI m) := by
  rw [itc_y hp hq (by rw [al_ hp]; exact h1) (by rw [al_ hq]; exact h2) (by rw [al_ hp, al_ hq]; exact h) (by rw [an_ hp h1]; exact h3) (by rw [an_ hq h2]; exact h4) hx hy hm]
  exact e
theorem xd_0 {a : Int32} (h : badr a) : sg = f_drop (abl fl) a sg := (fd_0 h).symm
theorem xd_1 (hp : p < 8) (h : fl p = -1) (e : o = 1) : o = f_drop (abl fl) (nI p) sg := e.trans (fd_1 hp ((al_ hp).trans h)).symm
theorem xd_2 (hp : p < 8) (h : ¬ fl p = -1) (e : o = 0) : o = f_drop (abl fl) (nI p) sg := e.trans (fd_2 hp (by rw [al_ hp]; exact h)).symm
end XS
theorem it_z : itX (fun _ => 0) (fun _ => 0) (fun _ => 0) (fun _ => 0) (fun _ => 0) (fun _ => 0) (fun _ => 0) (fun _ => 0) = (fun _ _ => 0) := by
  funext q i
  unfold itX
  split
  · match q with
    | 0 => rfl
    | 1 => rfl
    | 2 => rfl
    | 3 => rfl
    | 4 => rfl
    | 5 => rfl
    | 6 => rfl
    | 7 => rfl
    | n + 8 => rfl
  · rfl
theorem dJ7_fill_53178_0 : decode cJ7_fill_53178 0 = .ok (.iconst 0, 1) := dq_3 (by decide +kernel)
theorem dJ7_fill_53178_1 : decode cJ7_fill_53178 1 = .ok (.istore_n 2, 1) := dq_61 (by decide +kernel)
theorem dJ7_fill_53178_10 : decode cJ7_fill_53178 10 = .ok (.aload_n 0, 1) := dq_42 (by decide +kernel)
theorem dJ7_fill_53178_11 : decode cJ7_fill_53178 11 = .ok (.iload_n 2, 1) := dq_28 (by decide +kernel)
theorem dJ7_fill_53178_12 : decode cJ7_fill_53178 12 = .ok (.iload_n 1, 1) := dq_27 (by decide +kernel)
theorem dJ7_fill_53178_13 : decode cJ7_fill_53178 13 = .ok (.iastore, 1) := dq_79 (by decide +kernel)
theorem dJ7_fill_53178_14 : decode cJ7_fill_53178 14 = .ok (.iinc 2 1, 3) := dq_132 (b1 := 2) (b2 := 1) (by decide +kernel) (by decide) (by decide)
theorem dJ7_fill_53178_17 : decode cJ7_fill_53178 17 = .ok (.goto (-12), 3) := dq_167 (b1 := 255) (b2 := 244) (by decide +kernel) (by decide)
theorem dJ7_fill_53178_2 : decode cJ7_fill_53178 2 = .ok (.aload_n 0, 1) := dq_42 (by decide +kernel)
theorem dJ7_fill_53178_20 : decode cJ7_fill_53178 20 = .ok (.return_, 1) := dq_177 (by decide +kernel)
theorem dJ7_fill_53178_3 : decode cJ7_fill_53178 3 = .ok (.arraylength, 1) := dq_190 (by decide +kernel)
theorem dJ7_fill_53178_4 : decode cJ7_fill_53178 4 = .ok (.istore_n 3, 1) := dq_62 (by decide +kernel)
theorem dJ7_fill_53178_5 : decode cJ7_fill_53178 5 = .ok (.iload_n 2, 1) := dq_28 (by decide +kernel)
theorem dJ7_fill_53178_6 : decode cJ7_fill_53178 6 = .ok (.iload_n 3, 1) := dq_29 (by decide +kernel)
theorem dJ7_fill_53178_7 : decode cJ7_fill_53178 7 = .ok (.if_icmp .ge 13, 3) := dq_162 (b1 := 0) (b2 := 13) (by decide +kernel) (by decide)
theorem dX5_findingOfMove_0 : decode cX5_findingOfMove 0 = .ok (.aload_n 0, 1) := dq_42 (by decide +kernel)
theorem dX5_findingOfMove_1 : decode cX5_findingOfMove 1 = .ok (.iload_n 1, 1) := dq_27 (by decide +kernel)
theorem dX5_findingOfMove_10 : decode cX5_findingOfMove 10 = .ok (.invokevirtual 29, 3) := dq_182 (b1 := 0) (b2 := 29) (by decide +kernel) (by decide)
theorem dX5_findingOfMove_13 : decode cX5_findingOfMove 13 = .ok (.ifCond .eq 5, 3) := dq_153 (b1 := 0) (b2 := 5) (by decide +kernel) (by decide)
theorem dX5_findingOfMove_16 : decode cX5_findingOfMove 16 = .ok (.iconst 1, 1) := dq_4 (by decide +kernel)
theorem dX5_findingOfMove_17 : decode cX5_findingOfMove 17 = .ok (.ireturn, 1) := dq_172 (by decide +kernel)
theorem dX5_findingOfMove_18 : decode cX5_findingOfMove 18 = .ok (.aload_n 0, 1) := dq_42 (by decide +kernel)
theorem dX5_findingOfMove_19 : decode cX5_findingOfMove 19 = .ok (.getfield 16, 3) := dq_180 (b1 := 0) (b2 := 16) (by decide +kernel) (by decide)
theorem dX5_findingOfMove_2 : decode cX5_findingOfMove 2 = .ok (.invokevirtual 29, 3) := dq_182 (b1 := 0) (b2 := 29) (by decide +kernel) (by decide)
theorem dX5_findingOfMove_22 : decode cX5_findingOfMove 22 = .ok (.iload_n 1, 1) := dq_27 (by decide +kernel)
theorem dX5_findingOfMove_23 : decode cX5_findingOfMove 23 = .ok (.iaload, 1) := dq_46 (by decide +kernel)
theorem dX5_findingOfMove_24 : decode cX5_findingOfMove 24 = .ok (.aload_n 0, 1) := dq_42 (by decide +kernel)
theorem dX5_findingOfMove_25 : decode cX5_findingOfMove 25 = .ok (.getfield 16, 3) := dq_180 (b1 := 0) (b2 := 16) (by decide +kernel) (by decide)
theorem dX5_findingOfMove_28 : decode cX5_findingOfMove 28 = .ok (.iload_n 3, 1) := dq_29 (by decide +kernel)
theorem dX5_findingOfMove_29 : decode cX5_findingOfMove 29 = .ok (.iaload, 1) := dq_46 (by decide +kernel)
theorem dX5_findingOfMove_30 : decode cX5_findingOfMove 30 = .ok (.if_icmp .eq 5, 3) := dq_159 (b1 := 0) (b2 := 5) (by decide +kernel) (by decide)
theorem dX5_findingOfMove_33 : decode cX5_findingOfMove 33 = .ok (.iconst 5, 1) := dq_8 (by decide +kernel)
theorem dX5_findingOfMove_34 : decode cX5_findingOfMove 34 = .ok (.ireturn, 1) := dq_172 (by decide +kernel)
theorem dX5_findingOfMove_35 : decode cX5_findingOfMove 35 = .ok (.aload_n 0, 1) := dq_42 (by decide +kernel)
theorem dX5_findingOfMove_36 : decode cX5_findingOfMove 36 = .ok (.iload_n 1, 1) := dq_27 (by decide +kernel)
theorem dX5_findingOfMove_37 : decode cX5_findingOfMove 37 = .ok (.iload_n 2, 1) := dq_28 (by decide +kernel)
theorem dX5_findingOfMove_38 : decode cX5_findingOfMove 38 = .ok (.iload 5, 2) := dq_21 (b1 := 5) (by decide +kernel) (by decide)
theorem dX5_findingOfMove_40 : decode cX5_findingOfMove 40 = .ok (.invokevirtual 33, 3) := dq_182 (b1 := 0) (b2 := 33) (by decide +kernel) (by decide)
theorem dX5_findingOfMove_43 : decode cX5_findingOfMove 43 = .ok (.ifCond .eq 19, 3) := dq_153 (b1 := 0) (b2 := 19) (by decide +kernel) (by decide)
theorem dX5_findingOfMove_46 : decode cX5_findingOfMove 46 = .ok (.aload_n 0, 1) := dq_42 (by decide +kernel)
theorem dX5_findingOfMove_47 : decode cX5_findingOfMove 47 = .ok (.iload_n 3, 1) := dq_29 (by decide +kernel)
theorem dX5_findingOfMove_48 : decode cX5_findingOfMove 48 = .ok (.iload 4, 2) := dq_21 (b1 := 4) (by decide +kernel) (by decide)
theorem dX5_findingOfMove_5 : decode cX5_findingOfMove 5 = .ok (.ifCond .ne 11, 3) := dq_154 (b1 := 0) (b2 := 11) (by decide +kernel) (by decide)
theorem dX5_findingOfMove_50 : decode cX5_findingOfMove 50 = .ok (.iload 5, 2) := dq_21 (b1 := 5) (by decide +kernel) (by decide)
theorem dX5_findingOfMove_52 : decode cX5_findingOfMove 52 = .ok (.invokevirtual 33, 3) := dq_182 (b1 := 0) (b2 := 33) (by decide +kernel) (by decide)
theorem dX5_findingOfMove_55 : decode cX5_findingOfMove 55 = .ok (.ifCond .eq 7, 3) := dq_153 (b1 := 0) (b2 := 7) (by decide +kernel) (by decide)
theorem dX5_findingOfMove_58 : decode cX5_findingOfMove 58 = .ok (.iconst 0, 1) := dq_3 (by decide +kernel)
theorem dX5_findingOfMove_59 : decode cX5_findingOfMove 59 = .ok (.goto 4, 3) := dq_167 (b1 := 0) (b2 := 4) (by decide +kernel) (by decide)
theorem dX5_findingOfMove_62 : decode cX5_findingOfMove 62 = .ok (.iconst 2, 1) := dq_5 (by decide +kernel)
theorem dX5_findingOfMove_63 : decode cX5_findingOfMove 63 = .ok (.ireturn, 1) := dq_172 (by decide +kernel)
theorem dX5_findingOfMove_8 : decode cX5_findingOfMove 8 = .ok (.aload_n 0, 1) := dq_42 (by decide +kernel)
theorem dX5_findingOfMove_9 : decode cX5_findingOfMove 9 = .ok (.iload_n 3, 1) := dq_29 (by decide +kernel)
theorem dX5_findingOf_0 : decode cX5_findingOf 0 = .ok (.aload_n 0, 1) := dq_42 (by decide +kernel)
theorem dX5_findingOf_1 : decode cX5_findingOf 1 = .ok (.iload_n 1, 1) := dq_27 (by decide +kernel)
theorem dX5_findingOf_10 : decode cX5_findingOf 10 = .ok (.aload_n 0, 1) := dq_42 (by decide +kernel)
theorem dX5_findingOf_11 : decode cX5_findingOf 11 = .ok (.iload_n 1, 1) := dq_27 (by decide +kernel)
theorem dX5_findingOf_12 : decode cX5_findingOf 12 = .ok (.iload_n 2, 1) := dq_28 (by decide +kernel)
theorem dX5_findingOf_13 : decode cX5_findingOf 13 = .ok (.iload_n 3, 1) := dq_29 (by decide +kernel)
theorem dX5_findingOf_14 : decode cX5_findingOf 14 = .ok (.invokevirtual 33, 3) := dq_182 (b1 := 0) (b2 := 33) (by decide +kernel) (by decide)
theorem dX5_findingOf_17 : decode cX5_findingOf 17 = .ok (.ifCond .eq 7, 3) := dq_153 (b1 := 0) (b2 := 7) (by decide +kernel) (by decide)
theorem dX5_findingOf_2 : decode cX5_findingOf 2 = .ok (.invokevirtual 29, 3) := dq_182 (b1 := 0) (b2 := 29) (by decide +kernel) (by decide)
theorem dX5_findingOf_20 : decode cX5_findingOf 20 = .ok (.iconst 0, 1) := dq_3 (by decide +kernel)
theorem dX5_findingOf_21 : decode cX5_findingOf 21 = .ok (.goto 4, 3) := dq_167 (b1 := 0) (b2 := 4) (by decide +kernel) (by decide)
theorem dX5_findingOf_24 : decode cX5_findingOf 24 = .ok (.iconst 2, 1) := dq_5 (by decide +kernel)
theorem dX5_findingOf_25 : decode cX5_findingOf 25 = .ok (.ireturn, 1) := dq_172 (by decide +kernel)
theorem dX5_findingOf_5 : decode cX5_findingOf 5 = .ok (.ifCond .eq 5, 3) := dq_153 (b1 := 0) (b2 := 5) (by decide +kernel) (by decide)
theorem dX5_findingOf_8 : decode cX5_findingOf 8 = .ok (.iconst 1, 1) := dq_4 (by decide +kernel)
theorem dX5_findingOf_9 : decode cX5_findingOf 9 = .ok (.ireturn, 1) := dq_172 (by decide +kernel)
theorem dX5_hasPlaces_0 : decode cX5_hasPlaces 0 = .ok (.iload_n 2, 1) := dq_28 (by decide +kernel)
theorem dX5_hasPlaces_1 : decode cX5_hasPlaces 1 = .ok (.ifCond .lt 23, 3) := dq_155 (b1 := 0) (b2 := 23) (by decide +kernel) (by decide)
theorem dX5_hasPlaces_10 : decode cX5_hasPlaces 10 = .ok (.getfield 20, 3) := dq_180 (b1 := 0) (b2 := 20) (by decide +kernel) (by decide)
theorem dX5_hasPlaces_13 : decode cX5_hasPlaces 13 = .ok (.iload_n 1, 1) := dq_27 (by decide +kernel)
theorem dX5_hasPlaces_14 : decode cX5_hasPlaces 14 = .ok (.iaload, 1) := dq_46 (by decide +kernel)
theorem dX5_hasPlaces_15 : decode cX5_hasPlaces 15 = .ok (.iload_n 3, 1) := dq_29 (by decide +kernel)
theorem dX5_hasPlaces_16 : decode cX5_hasPlaces 16 = .ok (.isub, 1) := dq_100 (by decide +kernel)
theorem dX5_hasPlaces_17 : decode cX5_hasPlaces 17 = .ok (.if_icmp .gt 7, 3) := dq_163 (b1 := 0) (b2 := 7) (by decide +kernel) (by decide)
theorem dX5_hasPlaces_20 : decode cX5_hasPlaces 20 = .ok (.iconst 1, 1) := dq_4 (by decide +kernel)
theorem dX5_hasPlaces_21 : decode cX5_hasPlaces 21 = .ok (.goto 4, 3) := dq_167 (b1 := 0) (b2 := 4) (by decide +kernel) (by decide)
theorem dX5_hasPlaces_24 : decode cX5_hasPlaces 24 = .ok (.iconst 0, 1) := dq_3 (by decide +kernel)
theorem dX5_hasPlaces_25 : decode cX5_hasPlaces 25 = .ok (.ireturn, 1) := dq_172 (by decide +kernel)
theorem dX5_hasPlaces_4 : decode cX5_hasPlaces 4 = .ok (.iload_n 3, 1) := dq_29 (by decide +kernel)
theorem dX5_hasPlaces_5 : decode cX5_hasPlaces 5 = .ok (.ifCond .lt 19, 3) := dq_155 (b1 := 0) (b2 := 19) (by decide +kernel) (by decide)
theorem dX5_hasPlaces_8 : decode cX5_hasPlaces 8 = .ok (.iload_n 2, 1) := dq_28 (by decide +kernel)
theorem dX5_hasPlaces_9 : decode cX5_hasPlaces 9 = .ok (.aload_n 0, 1) := dq_42 (by decide +kernel)
theorem dX5_isLane_0 : decode cX5_isLane 0 = .ok (.iload_n 0, 1) := dq_26 (by decide +kernel)
theorem dX5_isLane_1 : decode cX5_isLane 1 = .ok (.ifCond .lt 12, 3) := dq_155 (b1 := 0) (b2 := 12) (by decide +kernel) (by decide)
theorem dX5_isLane_10 : decode cX5_isLane 10 = .ok (.goto 4, 3) := dq_167 (b1 := 0) (b2 := 4) (by decide +kernel) (by decide)
theorem dX5_isLane_13 : decode cX5_isLane 13 = .ok (.iconst 0, 1) := dq_3 (by decide +kernel)
theorem dX5_isLane_14 : decode cX5_isLane 14 = .ok (.ireturn, 1) := dq_172 (by decide +kernel)
theorem dX5_isLane_4 : decode cX5_isLane 4 = .ok (.iload_n 0, 1) := dq_26 (by decide +kernel)
theorem dX5_isLane_5 : decode cX5_isLane 5 = .ok (.iconst 2, 1) := dq_5 (by decide +kernel)
theorem dX5_isLane_6 : decode cX5_isLane 6 = .ok (.if_icmp .gt 7, 3) := dq_163 (b1 := 0) (b2 := 7) (by decide +kernel) (by decide)
theorem dX5_isLane_9 : decode cX5_isLane 9 = .ok (.iconst 1, 1) := dq_4 (by decide +kernel)
theorem dX5_isMissing_0 : decode cX5_isMissing 0 = .ok (.aload_n 0, 1) := dq_42 (by decide +kernel)
theorem dX5_isMissing_1 : decode cX5_isMissing 1 = .ok (.getfield 16, 3) := dq_180 (b1 := 0) (b2 := 16) (by decide +kernel) (by decide)
theorem dX5_isMissing_10 : decode cX5_isMissing 10 = .ok (.iconst 1, 1) := dq_4 (by decide +kernel)
theorem dX5_isMissing_11 : decode cX5_isMissing 11 = .ok (.goto 4, 3) := dq_167 (b1 := 0) (b2 := 4) (by decide +kernel) (by decide)
theorem dX5_isMissing_14 : decode cX5_isMissing 14 = .ok (.iconst 0, 1) := dq_3 (by decide +kernel)
theorem dX5_isMissing_15 : decode cX5_isMissing 15 = .ok (.ireturn, 1) := dq_172 (by decide +kernel)
theorem dX5_isMissing_4 : decode cX5_isMissing 4 = .ok (.iload_n 1, 1) := dq_27 (by decide +kernel)
theorem dX5_isMissing_5 : decode cX5_isMissing 5 = .ok (.iaload, 1) := dq_46 (by decide +kernel)
theorem dX5_isMissing_6 : decode cX5_isMissing 6 = .ok (.iconst (-1), 1) := dq_2 (by decide +kernel)
theorem dX5_isMissing_7 : decode cX5_isMissing 7 = .ok (.if_icmp .ne 7, 3) := dq_160 (b1 := 0) (b2 := 7) (by decide +kernel) (by decide)
theorem dX5_isRow_0 : decode cX5_isRow 0 = .ok (.iload_n 0, 1) := dq_26 (by decide +kernel)
theorem dX5_isRow_1 : decode cX5_isRow 1 = .ok (.ifCond .lt 13, 3) := dq_155 (b1 := 0) (b2 := 13) (by decide +kernel) (by decide)
theorem dX5_isRow_10 : decode cX5_isRow 10 = .ok (.iconst 1, 1) := dq_4 (by decide +kernel)
theorem dX5_isRow_11 : decode cX5_isRow 11 = .ok (.goto 4, 3) := dq_167 (b1 := 0) (b2 := 4) (by decide +kernel) (by decide)
theorem dX5_isRow_14 : decode cX5_isRow 14 = .ok (.iconst 0, 1) := dq_3 (by decide +kernel)
theorem dX5_isRow_15 : decode cX5_isRow 15 = .ok (.ireturn, 1) := dq_172 (by decide +kernel)
theorem dX5_isRow_4 : decode cX5_isRow 4 = .ok (.iload_n 0, 1) := dq_26 (by decide +kernel)
theorem dX5_isRow_5 : decode cX5_isRow 5 = .ok (.bipush 8, 2) := dq_16 (b1 := 8) (by decide +kernel) (by decide)
theorem dX5_isRow_7 : decode cX5_isRow 7 = .ok (.if_icmp .ge 7, 3) := dq_162 (b1 := 0) (b2 := 7) (by decide +kernel) (by decide)
theorem dX5_item_0 : decode cX5_item 0 = .ok (.aload_n 0, 1) := dq_42 (by decide +kernel)
theorem dX5_item_1 : decode cX5_item 1 = .ok (.getfield 13, 3) := dq_180 (b1 := 0) (b2 := 13) (by decide +kernel) (by decide)
theorem dX5_item_4 : decode cX5_item 4 = .ok (.iload_n 1, 1) := dq_27 (by decide +kernel)
theorem dX5_item_5 : decode cX5_item 5 = .ok (.aaload, 1) := dq_50 (by decide +kernel)
theorem dX5_item_6 : decode cX5_item 6 = .ok (.iload_n 2, 1) := dq_28 (by decide +kernel)
theorem dX5_item_7 : decode cX5_item 7 = .ok (.iaload, 1) := dq_46 (by decide +kernel)
theorem dX5_item_8 : decode cX5_item 8 = .ok (.ireturn, 1) := dq_172 (by decide +kernel)
theorem dX5_make_0 : decode cX5_make 0 = .ok (.aload_n 0, 1) := dq_42 (by decide +kernel)
theorem dX5_make_1 : decode cX5_make 1 = .ok (.getfield 16, 3) := dq_180 (b1 := 0) (b2 := 16) (by decide +kernel) (by decide)
theorem dX5_make_11 : decode cX5_make 11 = .ok (.iload_n 1, 1) := dq_27 (by decide +kernel)
theorem dX5_make_12 : decode cX5_make 12 = .ok (.iload_n 3, 1) := dq_29 (by decide +kernel)
theorem dX5_make_13 : decode cX5_make 13 = .ok (.iastore, 1) := dq_79 (by decide +kernel)
theorem dX5_make_14 : decode cX5_make 14 = .ok (.aload_n 0, 1) := dq_42 (by decide +kernel)
theorem dX5_make_15 : decode cX5_make 15 = .ok (.getfield 13, 3) := dq_180 (b1 := 0) (b2 := 13) (by decide +kernel) (by decide)
theorem dX5_make_18 : decode cX5_make 18 = .ok (.iload_n 1, 1) := dq_27 (by decide +kernel)
theorem dX5_make_19 : decode cX5_make 19 = .ok (.aaload, 1) := dq_50 (by decide +kernel)
theorem dX5_make_20 : decode cX5_make 20 = .ok (.iconst 0, 1) := dq_3 (by decide +kernel)
theorem dX5_make_21 : decode cX5_make 21 = .ok (.invokestatic 23, 3) := dq_184 (b1 := 0) (b2 := 23) (by decide +kernel) (by decide)
theorem dX5_make_24 : decode cX5_make 24 = .ok (.return_, 1) := dq_177 (by decide +kernel)
theorem dX5_make_4 : decode cX5_make 4 = .ok (.iload_n 1, 1) := dq_27 (by decide +kernel)
theorem dX5_make_5 : decode cX5_make 5 = .ok (.iload_n 2, 1) := dq_28 (by decide +kernel)
theorem dX5_make_6 : decode cX5_make 6 = .ok (.iastore, 1) := dq_79 (by decide +kernel)
theorem dX5_make_7 : decode cX5_make 7 = .ok (.aload_n 0, 1) := dq_42 (by decide +kernel)
theorem dX5_make_8 : decode cX5_make 8 = .ok (.getfield 20, 3) := dq_180 (b1 := 0) (b2 := 20) (by decide +kernel) (by decide)
theorem dX5_move_0 : decode cX5_move 0 = .ok (.aload_n 0, 1) := dq_42 (by decide +kernel)
theorem dX5_move_1 : decode cX5_move 1 = .ok (.getfield 13, 3) := dq_180 (b1 := 0) (b2 := 13) (by decide +kernel) (by decide)
theorem dX5_move_11 : decode cX5_move 11 = .ok (.iload_n 3, 1) := dq_29 (by decide +kernel)
theorem dX5_move_12 : decode cX5_move 12 = .ok (.aaload, 1) := dq_50 (by decide +kernel)
theorem dX5_move_13 : decode cX5_move 13 = .ok (.iload 4, 2) := dq_21 (b1 := 4) (by decide +kernel) (by decide)
theorem dX5_move_15 : decode cX5_move 15 = .ok (.iload 5, 2) := dq_21 (b1 := 5) (by decide +kernel) (by decide)
theorem dX5_move_17 : decode cX5_move 17 = .ok (.invokestatic 37, 3) := dq_184 (b1 := 0) (b2 := 37) (by decide +kernel) (by decide)
theorem dX5_move_20 : decode cX5_move 20 = .ok (.return_, 1) := dq_177 (by decide +kernel)
theorem dX5_move_4 : decode cX5_move 4 = .ok (.iload_n 1, 1) := dq_27 (by decide +kernel)
theorem dX5_move_5 : decode cX5_move 5 = .ok (.aaload, 1) := dq_50 (by decide +kernel)
theorem dX5_move_6 : decode cX5_move 6 = .ok (.iload_n 2, 1) := dq_28 (by decide +kernel)
theorem dX5_move_7 : decode cX5_move 7 = .ok (.aload_n 0, 1) := dq_42 (by decide +kernel)
theorem dX5_move_8 : decode cX5_move 8 = .ok (.getfield 13, 3) := dq_180 (b1 := 0) (b2 := 13) (by decide +kernel) (by decide)
theorem dX5_present_0 : decode cX5_present 0 = .ok (.iconst 0, 1) := dq_3 (by decide +kernel)
theorem dX5_present_1 : decode cX5_present 1 = .ok (.istore_n 1, 1) := dq_60 (by decide +kernel)
theorem dX5_present_10 : decode cX5_present 10 = .ok (.iload_n 1, 1) := dq_27 (by decide +kernel)
theorem dX5_present_11 : decode cX5_present 11 = .ok (.aload_n 0, 1) := dq_42 (by decide +kernel)
theorem dX5_present_12 : decode cX5_present 12 = .ok (.iload_n 2, 1) := dq_28 (by decide +kernel)
theorem dX5_present_13 : decode cX5_present 13 = .ok (.invokevirtual 29, 3) := dq_182 (b1 := 0) (b2 := 29) (by decide +kernel) (by decide)
theorem dX5_present_16 : decode cX5_present 16 = .ok (.ifCond .eq 7, 3) := dq_153 (b1 := 0) (b2 := 7) (by decide +kernel) (by decide)
theorem dX5_present_19 : decode cX5_present 19 = .ok (.iconst 0, 1) := dq_3 (by decide +kernel)
theorem dX5_present_2 : decode cX5_present 2 = .ok (.iconst 0, 1) := dq_3 (by decide +kernel)
theorem dX5_present_20 : decode cX5_present 20 = .ok (.goto 4, 3) := dq_167 (b1 := 0) (b2 := 4) (by decide +kernel) (by decide)
theorem dX5_present_23 : decode cX5_present 23 = .ok (.iconst 1, 1) := dq_4 (by decide +kernel)
theorem dX5_present_24 : decode cX5_present 24 = .ok (.iadd, 1) := dq_96 (by decide +kernel)
theorem dX5_present_25 : decode cX5_present 25 = .ok (.istore_n 1, 1) := dq_60 (by decide +kernel)
theorem dX5_present_26 : decode cX5_present 26 = .ok (.iinc 2 1, 3) := dq_132 (b1 := 2) (b2 := 1) (by decide +kernel) (by decide) (by decide)
theorem dX5_present_29 : decode cX5_present 29 = .ok (.goto (-25), 3) := dq_167 (b1 := 255) (b2 := 231) (by decide +kernel) (by decide)
theorem dX5_present_3 : decode cX5_present 3 = .ok (.istore_n 2, 1) := dq_61 (by decide +kernel)
theorem dX5_present_32 : decode cX5_present 32 = .ok (.iload_n 1, 1) := dq_27 (by decide +kernel)
theorem dX5_present_33 : decode cX5_present 33 = .ok (.ireturn, 1) := dq_172 (by decide +kernel)
theorem dX5_present_4 : decode cX5_present 4 = .ok (.iload_n 2, 1) := dq_28 (by decide +kernel)
theorem dX5_present_5 : decode cX5_present 5 = .ok (.bipush 8, 2) := dq_16 (b1 := 8) (by decide +kernel) (by decide)
theorem dX5_present_7 : decode cX5_present 7 = .ok (.if_icmp .ge 25, 3) := dq_162 (b1 := 0) (b2 := 25) (by decide +kernel) (by decide)
theorem dX5_put_0 : decode cX5_put 0 = .ok (.iload_n 3, 1) := dq_29 (by decide +kernel)
theorem dX5_put_1 : decode cX5_put 1 = .ok (.istore 4, 2) := dq_54 (b1 := 4) (by decide +kernel) (by decide)
theorem dX5_put_12 : decode cX5_put 12 = .ok (.iload_n 3, 1) := dq_29 (by decide +kernel)
theorem dX5_put_13 : decode cX5_put 13 = .ok (.i2b, 1) := dq_145 (by decide +kernel)
theorem dX5_put_14 : decode cX5_put 14 = .ok (.istore 4, 2) := dq_54 (b1 := 4) (by decide +kernel) (by decide)
theorem dX5_put_16 : decode cX5_put 16 = .ok (.goto 17, 3) := dq_167 (b1 := 0) (b2 := 17) (by decide +kernel) (by decide)
theorem dX5_put_19 : decode cX5_put 19 = .ok (.aload_n 0, 1) := dq_42 (by decide +kernel)
theorem dX5_put_20 : decode cX5_put 20 = .ok (.getfield 16, 3) := dq_180 (b1 := 0) (b2 := 16) (by decide +kernel) (by decide)
theorem dX5_put_23 : decode cX5_put 23 = .ok (.iload_n 1, 1) := dq_27 (by decide +kernel)
theorem dX5_put_24 : decode cX5_put 24 = .ok (.iaload, 1) := dq_46 (by decide +kernel)
theorem dX5_put_25 : decode cX5_put 25 = .ok (.iconst 1, 1) := dq_4 (by decide +kernel)
theorem dX5_put_26 : decode cX5_put 26 = .ok (.if_icmp .ne 7, 3) := dq_160 (b1 := 0) (b2 := 7) (by decide +kernel) (by decide)
theorem dX5_put_29 : decode cX5_put 29 = .ok (.iload_n 3, 1) := dq_29 (by decide +kernel)
theorem dX5_put_3 : decode cX5_put 3 = .ok (.aload_n 0, 1) := dq_42 (by decide +kernel)
theorem dX5_put_30 : decode cX5_put 30 = .ok (.i2s, 1) := dq_147 (by decide +kernel)
theorem dX5_put_31 : decode cX5_put 31 = .ok (.istore 4, 2) := dq_54 (b1 := 4) (by decide +kernel) (by decide)
theorem dX5_put_33 : decode cX5_put 33 = .ok (.aload_n 0, 1) := dq_42 (by decide +kernel)
theorem dX5_put_34 : decode cX5_put 34 = .ok (.getfield 13, 3) := dq_180 (b1 := 0) (b2 := 13) (by decide +kernel) (by decide)
theorem dX5_put_37 : decode cX5_put 37 = .ok (.iload_n 1, 1) := dq_27 (by decide +kernel)
theorem dX5_put_38 : decode cX5_put 38 = .ok (.aaload, 1) := dq_50 (by decide +kernel)
theorem dX5_put_39 : decode cX5_put 39 = .ok (.iload_n 2, 1) := dq_28 (by decide +kernel)
theorem dX5_put_4 : decode cX5_put 4 = .ok (.getfield 16, 3) := dq_180 (b1 := 0) (b2 := 16) (by decide +kernel) (by decide)
theorem dX5_put_40 : decode cX5_put 40 = .ok (.iload 4, 2) := dq_21 (b1 := 4) (by decide +kernel) (by decide)
theorem dX5_put_42 : decode cX5_put 42 = .ok (.iastore, 1) := dq_79 (by decide +kernel)
theorem dX5_put_43 : decode cX5_put 43 = .ok (.iload 4, 2) := dq_21 (b1 := 4) (by decide +kernel) (by decide)
theorem dX5_put_45 : decode cX5_put 45 = .ok (.ireturn, 1) := dq_172 (by decide +kernel)
theorem dX5_put_7 : decode cX5_put 7 = .ok (.iload_n 1, 1) := dq_27 (by decide +kernel)
theorem dX5_put_8 : decode cX5_put 8 = .ok (.iaload, 1) := dq_46 (by decide +kernel)
theorem dX5_put_9 : decode cX5_put 9 = .ok (.ifCond .ne 10, 3) := dq_154 (b1 := 0) (b2 := 10) (by decide +kernel) (by decide)
theorem dX5_remove_0 : decode cX5_remove 0 = .ok (.aload_n 0, 1) := dq_42 (by decide +kernel)
theorem dX5_remove_1 : decode cX5_remove 1 = .ok (.getfield 16, 3) := dq_180 (b1 := 0) (b2 := 16) (by decide +kernel) (by decide)
theorem dX5_remove_11 : decode cX5_remove 11 = .ok (.iload_n 1, 1) := dq_27 (by decide +kernel)
theorem dX5_remove_12 : decode cX5_remove 12 = .ok (.iaload, 1) := dq_46 (by decide +kernel)
theorem dX5_remove_13 : decode cX5_remove 13 = .ok (.ireturn, 1) := dq_172 (by decide +kernel)
theorem dX5_remove_4 : decode cX5_remove 4 = .ok (.iload_n 1, 1) := dq_27 (by decide +kernel)
theorem dX5_remove_5 : decode cX5_remove 5 = .ok (.iconst (-1), 1) := dq_2 (by decide +kernel)
theorem dX5_remove_6 : decode cX5_remove 6 = .ok (.iastore, 1) := dq_79 (by decide +kernel)
theorem dX5_remove_7 : decode cX5_remove 7 = .ok (.aload_n 0, 1) := dq_42 (by decide +kernel)
theorem dX5_remove_8 : decode cX5_remove 8 = .ok (.getfield 20, 3) := dq_180 (b1 := 0) (b2 := 20) (by decide +kernel) (by decide)
theorem mx_X5_findingOfMove_10 : Cond.code yX5_hasPlaces cX5_hasPlaces 4 (some .boolean) ∈ wsX5_findingOfMove := by unfold wsX5_findingOfMove; exact List.mem_cons_of_mem _ (List.mem_append_left _ (List.mem_of_getElem? (i := 9) rfl))
theorem mx_X5_findingOfMove_11 : Cond.fieldLink RX5 20 "MillTalk$Rows" "lengths" "[I" ∈ wsX5_findingOfMove := by unfold wsX5_findingOfMove; exact List.mem_cons_of_mem _ (List.mem_append_left _ (List.mem_of_getElem? (i := 10) rfl))
theorem mb_X5_findingOfMove_wsX50 {w : Cond} (h : w ∈ wsX50) : w ∈ wsX5_findingOfMove := by unfold wsX5_findingOfMove; exact List.mem_cons_of_mem _ (List.mem_append_right _ (h))
theorem ggX5_findingOfMove_X5_hasPlaces : GoodIn wsX5_findingOfMove wsX5_hasPlaces := goodIn_sub (by unfold wsX5_hasPlaces; exact List.forall_mem_cons.mpr ⟨mx_X5_findingOfMove_10, List.forall_mem_append.mpr ⟨List.forall_mem_cons.mpr ⟨mx_X5_findingOfMove_11, fun _ h_ => absurd h_ List.not_mem_nil⟩, (fun _ h_ => mb_X5_findingOfMove_wsX50 h_)⟩⟩) (by decide +kernel)
theorem mx_X5_findingOfMove_7 : Cond.methodLink RX5 33 yX5_hasPlaces ∈ wsX5_findingOfMove := by unfold wsX5_findingOfMove; exact List.mem_cons_of_mem _ (List.mem_append_left _ (List.mem_of_getElem? (i := 6) rfl))
theorem mx_X5_findingOfMove_8 : Cond.instanceMethod yX5_hasPlaces ∈ wsX5_findingOfMove := by unfold wsX5_findingOfMove; exact List.mem_cons_of_mem _ (List.mem_append_left _ (List.mem_of_getElem? (i := 7) rfl))
theorem mx_X5_findingOfMove_9 : Cond.selects RX5 yX5_hasPlaces yX5_hasPlaces ∈ wsX5_findingOfMove := by unfold wsX5_findingOfMove; exact List.mem_cons_of_mem _ (List.mem_append_left _ (List.mem_of_getElem? (i := 8) rfl))
theorem mx_X5_findingOfMove_5 : Cond.initialized RX5 ∈ wsX5_findingOfMove := by unfold wsX5_findingOfMove; exact List.mem_cons_of_mem _ (List.mem_append_left _ (List.mem_of_getElem? (i := 4) rfl))
theorem gX5_findingOfMove_X5_hasPlaces : GoodIn wsX5_findingOfMove (wsV RX5 33 RX5 yX5_hasPlaces wsX5_hasPlaces) := goodIn_app (goodIn_sub (List.forall_mem_cons.mpr ⟨mx_X5_findingOfMove_7, List.forall_mem_cons.mpr ⟨mx_X5_findingOfMove_8, List.forall_mem_cons.mpr ⟨mx_X5_findingOfMove_9, List.forall_mem_cons.mpr ⟨mx_X5_findingOfMove_5, fun _ h_ => absurd h_ List.not_mem_nil⟩⟩⟩⟩) (by decide +kernel)) ggX5_findingOfMove_X5_hasPlaces
theorem mx_X5_findingOfMove_6 : Cond.code yX5_isMissing cX5_isMissing 2 (some .boolean) ∈ wsX5_findingOfMove := by unfold wsX5_findingOfMove; exact List.mem_cons_of_mem _ (List.mem_append_left _ (List.mem_of_getElem? (i := 5) rfl))
theorem mx_X5_findingOfMove_1 : Cond.fieldLink RX5 16 "MillTalk$Rows" "lanes" "[I" ∈ wsX5_findingOfMove := by unfold wsX5_findingOfMove; exact List.mem_cons_of_mem _ (List.mem_append_left _ (List.mem_of_getElem? (i := 0) rfl))
theorem ggX5_findingOfMove_X5_isMissing : GoodIn wsX5_findingOfMove wsX5_isMissing := goodIn_sub (by unfold wsX5_isMissing; exact List.forall_mem_cons.mpr ⟨mx_X5_findingOfMove_6, List.forall_mem_append.mpr ⟨List.forall_mem_cons.mpr ⟨mx_X5_findingOfMove_1, fun _ h_ => absurd h_ List.not_mem_nil⟩, (fun _ h_ => mb_X5_findingOfMove_wsX50 h_)⟩⟩) (by decide +kernel)
theorem mx_X5_findingOfMove_2 : Cond.methodLink RX5 29 yX5_isMissing ∈ wsX5_findingOfMove := by unfold wsX5_findingOfMove; exact List.mem_cons_of_mem _ (List.mem_append_left _ (List.mem_of_getElem? (i := 1) rfl))
theorem mx_X5_findingOfMove_3 : Cond.instanceMethod yX5_isMissing ∈ wsX5_findingOfMove := by unfold wsX5_findingOfMove; exact List.mem_cons_of_mem _ (List.mem_append_left _ (List.mem_of_getElem? (i := 2) rfl))
theorem mx_X5_findingOfMove_4 : Cond.selects RX5 yX5_isMissing yX5_isMissing ∈ wsX5_findingOfMove := by unfold wsX5_findingOfMove; exact List.mem_cons_of_mem _ (List.mem_append_left _ (List.mem_of_getElem? (i := 3) rfl))
theorem gX5_findingOfMove_X5_isMissing : GoodIn wsX5_findingOfMove (wsV RX5 29 RX5 yX5_isMissing wsX5_isMissing) := goodIn_app (goodIn_sub (List.forall_mem_cons.mpr ⟨mx_X5_findingOfMove_2, List.forall_mem_cons.mpr ⟨mx_X5_findingOfMove_3, List.forall_mem_cons.mpr ⟨mx_X5_findingOfMove_4, List.forall_mem_cons.mpr ⟨mx_X5_findingOfMove_5, fun _ h_ => absurd h_ List.not_mem_nil⟩⟩⟩⟩) (by decide +kernel)) ggX5_findingOfMove_X5_isMissing
theorem mx_X5_findingOf_10 : Cond.code yX5_hasPlaces cX5_hasPlaces 4 (some .boolean) ∈ wsX5_findingOf := by unfold wsX5_findingOf; exact List.mem_cons_of_mem _ (List.mem_append_left _ (List.mem_of_getElem? (i := 9) rfl))
theorem mx_X5_findingOf_11 : Cond.fieldLink RX5 20 "MillTalk$Rows" "lengths" "[I" ∈ wsX5_findingOf := by unfold wsX5_findingOf; exact List.mem_cons_of_mem _ (List.mem_append_left _ (List.mem_of_getElem? (i := 10) rfl))
theorem mb_X5_findingOf_wsX50 {w : Cond} (h : w ∈ wsX50) : w ∈ wsX5_findingOf := by unfold wsX5_findingOf; exact List.mem_cons_of_mem _ (List.mem_append_right _ (h))
theorem ggX5_findingOf_X5_hasPlaces : GoodIn wsX5_findingOf wsX5_hasPlaces := goodIn_sub (by unfold wsX5_hasPlaces; exact List.forall_mem_cons.mpr ⟨mx_X5_findingOf_10, List.forall_mem_append.mpr ⟨List.forall_mem_cons.mpr ⟨mx_X5_findingOf_11, fun _ h_ => absurd h_ List.not_mem_nil⟩, (fun _ h_ => mb_X5_findingOf_wsX50 h_)⟩⟩) (by decide +kernel)
theorem mx_X5_findingOf_7 : Cond.methodLink RX5 33 yX5_hasPlaces ∈ wsX5_findingOf := by unfold wsX5_findingOf; exact List.mem_cons_of_mem _ (List.mem_append_left _ (List.mem_of_getElem? (i := 6) rfl))
theorem mx_X5_findingOf_8 : Cond.instanceMethod yX5_hasPlaces ∈ wsX5_findingOf := by unfold wsX5_findingOf; exact List.mem_cons_of_mem _ (List.mem_append_left _ (List.mem_of_getElem? (i := 7) rfl))
theorem mx_X5_findingOf_9 : Cond.selects RX5 yX5_hasPlaces yX5_hasPlaces ∈ wsX5_findingOf := by unfold wsX5_findingOf; exact List.mem_cons_of_mem _ (List.mem_append_left _ (List.mem_of_getElem? (i := 8) rfl))
theorem mx_X5_findingOf_4 : Cond.initialized RX5 ∈ wsX5_findingOf := by unfold wsX5_findingOf; exact List.mem_cons_of_mem _ (List.mem_append_left _ (List.mem_of_getElem? (i := 3) rfl))
theorem gX5_findingOf_X5_hasPlaces : GoodIn wsX5_findingOf (wsV RX5 33 RX5 yX5_hasPlaces wsX5_hasPlaces) := goodIn_app (goodIn_sub (List.forall_mem_cons.mpr ⟨mx_X5_findingOf_7, List.forall_mem_cons.mpr ⟨mx_X5_findingOf_8, List.forall_mem_cons.mpr ⟨mx_X5_findingOf_9, List.forall_mem_cons.mpr ⟨mx_X5_findingOf_4, fun _ h_ => absurd h_ List.not_mem_nil⟩⟩⟩⟩) (by decide +kernel)) ggX5_findingOf_X5_hasPlaces
theorem mx_X5_findingOf_5 : Cond.code yX5_isMissing cX5_isMissing 2 (some .boolean) ∈ wsX5_findingOf := by unfold wsX5_findingOf; exact List.mem_cons_of_mem _ (List.mem_append_left _ (List.mem_of_getElem? (i := 4) rfl))
theorem mx_X5_findingOf_6 : Cond.fieldLink RX5 16 "MillTalk$Rows" "lanes" "[I" ∈ wsX5_findingOf := by unfold wsX5_findingOf; exact List.mem_cons_of_mem _ (List.mem_append_left _ (List.mem_of_getElem? (i := 5) rfl))
theorem ggX5_findingOf_X5_isMissing : GoodIn wsX5_findingOf wsX5_isMissing := goodIn_sub (by unfold wsX5_isMissing; exact List.forall_mem_cons.mpr ⟨mx_X5_findingOf_5, List.forall_mem_append.mpr ⟨List.forall_mem_cons.mpr ⟨mx_X5_findingOf_6, fun _ h_ => absurd h_ List.not_mem_nil⟩, (fun _ h_ => mb_X5_findingOf_wsX50 h_)⟩⟩) (by decide +kernel)
theorem mx_X5_findingOf_1 : Cond.methodLink RX5 29 yX5_isMissing ∈ wsX5_findingOf := by unfold wsX5_findingOf; exact List.mem_cons_of_mem _ (List.mem_append_left _ (List.mem_of_getElem? (i := 0) rfl))
theorem mx_X5_findingOf_2 : Cond.instanceMethod yX5_isMissing ∈ wsX5_findingOf := by unfold wsX5_findingOf; exact List.mem_cons_of_mem _ (List.mem_append_left _ (List.mem_of_getElem? (i := 1) rfl))
theorem mx_X5_findingOf_3 : Cond.selects RX5 yX5_isMissing yX5_isMissing ∈ wsX5_findingOf := by unfold wsX5_findingOf; exact List.mem_cons_of_mem _ (List.mem_append_left _ (List.mem_of_getElem? (i := 2) rfl))
theorem gX5_findingOf_X5_isMissing : GoodIn wsX5_findingOf (wsV RX5 29 RX5 yX5_isMissing wsX5_isMissing) := goodIn_app (goodIn_sub (List.forall_mem_cons.mpr ⟨mx_X5_findingOf_1, List.forall_mem_cons.mpr ⟨mx_X5_findingOf_2, List.forall_mem_cons.mpr ⟨mx_X5_findingOf_3, List.forall_mem_cons.mpr ⟨mx_X5_findingOf_4, fun _ h_ => absurd h_ List.not_mem_nil⟩⟩⟩⟩) (by decide +kernel)) ggX5_findingOf_X5_isMissing
theorem mx_X5_make_7 : Cond.code yJ7_fill_53178 cJ7_fill_53178 4 none ∈ wsX5_make := by unfold wsX5_make; exact List.mem_cons_of_mem _ (List.mem_append_left _ (List.mem_of_getElem? (i := 6) rfl))
theorem ggX5_make_J7_fill_53178 : GoodIn wsX5_make wsJ7_fill_53178 := goodIn_sub (by unfold wsJ7_fill_53178; exact List.forall_mem_cons.mpr ⟨mx_X5_make_7, fun _ h_ => absurd h_ List.not_mem_nil⟩) (by decide +kernel)
set_option maxRecDepth 20000 in
theorem gX5_make_J7_fill_53178 : GoodIn wsX5_make (va_wsS RX5 23 yJ7_fill_53178 wsJ7_fill_53178) := goodIn_app (goodIn_of _ (by decide +kernel)) ggX5_make_J7_fill_53178
theorem mx_X5_present_5 : Cond.code yX5_isMissing cX5_isMissing 2 (some .boolean) ∈ wsX5_present := by unfold wsX5_present; exact List.mem_cons_of_mem _ (List.mem_append_left _ (List.mem_of_getElem? (i := 4) rfl))
theorem mx_X5_present_6 : Cond.fieldLink RX5 16 "MillTalk$Rows" "lanes" "[I" ∈ wsX5_present := by unfold wsX5_present; exact List.mem_cons_of_mem _ (List.mem_append_left _ (List.mem_of_getElem? (i := 5) rfl))
theorem mb_X5_present_wsX50 {w : Cond} (h : w ∈ wsX50) : w ∈ wsX5_present := by unfold wsX5_present; exact List.mem_cons_of_mem _ (List.mem_append_right _ (h))
theorem ggX5_present_X5_isMissing : GoodIn wsX5_present wsX5_isMissing := goodIn_sub (by unfold wsX5_isMissing; exact List.forall_mem_cons.mpr ⟨mx_X5_present_5, List.forall_mem_append.mpr ⟨List.forall_mem_cons.mpr ⟨mx_X5_present_6, fun _ h_ => absurd h_ List.not_mem_nil⟩, (fun _ h_ => mb_X5_present_wsX50 h_)⟩⟩) (by decide +kernel)
theorem mx_X5_present_1 : Cond.methodLink RX5 29 yX5_isMissing ∈ wsX5_present := by unfold wsX5_present; exact List.mem_cons_of_mem _ (List.mem_append_left _ (List.mem_of_getElem? (i := 0) rfl))
theorem mx_X5_present_2 : Cond.instanceMethod yX5_isMissing ∈ wsX5_present := by unfold wsX5_present; exact List.mem_cons_of_mem _ (List.mem_append_left _ (List.mem_of_getElem? (i := 1) rfl))
theorem mx_X5_present_3 : Cond.selects RX5 yX5_isMissing yX5_isMissing ∈ wsX5_present := by unfold wsX5_present; exact List.mem_cons_of_mem _ (List.mem_append_left _ (List.mem_of_getElem? (i := 2) rfl))
theorem mx_X5_present_4 : Cond.initialized RX5 ∈ wsX5_present := by unfold wsX5_present; exact List.mem_cons_of_mem _ (List.mem_append_left _ (List.mem_of_getElem? (i := 3) rfl))
theorem gX5_present_X5_isMissing : GoodIn wsX5_present (wsV RX5 29 RX5 yX5_isMissing wsX5_isMissing) := goodIn_app (goodIn_sub (List.forall_mem_cons.mpr ⟨mx_X5_present_1, List.forall_mem_cons.mpr ⟨mx_X5_present_2, List.forall_mem_cons.mpr ⟨mx_X5_present_3, List.forall_mem_cons.mpr ⟨mx_X5_present_4, fun _ h_ => absurd h_ List.not_mem_nil⟩⟩⟩⟩) (by decide +kernel)) ggX5_present_X5_isMissing
set_option maxRecDepth 20000 in
theorem i_X5_findingOfMove_X5 : ∀ w ∈ u_ws RX5 TX5 3, w ∈ wsX5_findingOfMove := by decide +kernel
set_option maxRecDepth 20000 in
theorem i_X5_hasPlaces_X5 : ∀ w ∈ u_ws RX5 TX5 3, w ∈ wsX5_hasPlaces := by decide +kernel
set_option maxRecDepth 20000 in
theorem i_X5_isMissing_X5 : ∀ w ∈ u_ws RX5 TX5 3, w ∈ wsX5_isMissing := by decide +kernel
set_option maxRecDepth 20000 in
theorem i_X5_item_X5 : ∀ w ∈ u_ws RX5 TX5 3, w ∈ wsX5_item := by decide +kernel
set_option maxRecDepth 20000 in
theorem i_X5_make_X5 : ∀ w ∈ u_ws RX5 TX5 3, w ∈ wsX5_make := by decide +kernel
set_option maxRecDepth 20000 in
theorem i_X5_move_X5 : ∀ w ∈ u_ws RX5 TX5 3, w ∈ wsX5_move := by decide +kernel
set_option maxRecDepth 20000 in
theorem i_X5_put_X5 : ∀ w ∈ u_ws RX5 TX5 3, w ∈ wsX5_put := by decide +kernel
set_option maxRecDepth 20000 in
theorem i_X5_remove_X5 : ∀ w ∈ u_ws RX5 TX5 3, w ∈ wsX5_remove := by decide +kernel
